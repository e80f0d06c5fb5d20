/-- what the model tells pieces apart by: bits of those seen, and how many are new -/
def br_sn (d : Nat → Nat) : Nat → Int32
  | 0 => br_J 0
  | j + 1 => br_sn d j ||| (br_J 1 <<< (br_J (d j : Nat) &&& 31))
def br_un (d : Nat → Nat) : Nat → Int32
  | 0 => br_J 0
  | j + 1 => br_un d j + (br_J 1 - ((br_sn d j >>> (br_J (d j : Nat) &&& 31)) &&& br_J 1))
theorem br_sn_congr {d d' : Nat → Nat} : ∀ m : Nat, (∀ j : Nat, j < m → d j = d' j) → br_sn d m = br_sn d' m := by
  intro m
  induction m with
  | zero => intro _; rfl
  | succ m ih => intro h; unfold br_sn; rw [ih (fun j hj => h j (by omega)), h m (by omega)]
theorem br_un_congr {d d' : Nat → Nat} : ∀ m : Nat, (∀ j : Nat, j < m → d j = d' j) → br_un d m = br_un d' m := by
  intro m
  induction m with
  | zero => intro _; rfl
  | succ m ih => intro h; unfold br_un; rw [ih (fun j hj => h j (by omega)), br_sn_congr m (fun j hj => h j (by omega)), h m (by omega)]
def br_d3f (a b c : Nat) : Nat → Nat := fun j => if j = 0 then a else if j = 1 then b else c
theorem br_un_dst {d : Nat → Nat} {m : Nat} (hm : m ≤ 3) (hd : ∀ j : Nat, j < m → d j < 7) : br_un d m = br_J m ↔ ∀ a : Nat, a < m → ∀ b : Nat, b < a → ¬ d b = d a := by
  have key : ∀ m : Fin 4, ∀ x y z : Fin 7, (br_un (br_d3f x y z) m = br_J (m : Nat) ↔ ∀ a : Nat, a < (m : Nat) → ∀ b : Nat, b < a → ¬ br_d3f x y z b = br_d3f x y z a) := by decide +kernel
  have e : ∀ j : Nat, j < m → d j = br_d3f (d 0 % 7) (d 1 % 7) (d 2 % 7) j := by
    intro j hj
    have h := hd j hj
    rcases (show j = 0 ∨ j = 1 ∨ j = 2 by omega) with rfl | rfl | rfl
    · exact (Nat.mod_eq_of_lt h).symm
    · exact (Nat.mod_eq_of_lt h).symm
    · exact (Nat.mod_eq_of_lt h).symm
  have k := key ⟨m, by omega⟩ ⟨d 0 % 7, Nat.mod_lt _ (by decide)⟩ ⟨d 1 % 7, Nat.mod_lt _ (by decide)⟩ ⟨d 2 % 7, Nat.mod_lt _ (by decide)⟩
  rw [br_un_congr m e]
  refine k.trans ⟨fun h a ha b hb => ?_, fun h a ha b hb => ?_⟩
  · have := h a ha b hb
    rw [e a ha, e b (by omega)]; exact this
  · have ha' : a < m := ha
    have := h a ha' b hb
    rw [e a ha', e b (by omega)] at this; exact this
theorem br_mu_lt {g : br_Gy} {r r' : br_Ro} (h : r.1 = r'.1) (h5 : r.1 ≤ 5) : br_mu g r < br_mu g r' ↔ br_mh g r < br_mh g r' := by
  have e1 := br_mu_eq g r
  have e2 := br_mu_eq g r'
  have hp := (br_pow10 h5).1
  rw [← h] at e2
  constructor
  · intro q
    by_cases x : br_mh g r < br_mh g r'
    · exact x
    · have := Int.mul_le_mul_of_nonneg_right (show br_mh g r' ≤ br_mh g r by omega) (show (0 : Int) ≤ 10 ^ r.1 by omega)
      omega
  · intro q
    have := Int.mul_lt_mul_of_pos_right q (show (0 : Int) < 10 ^ r.1 by omega)
    omega
theorem br_or0 (x : Int32) : x ||| br_J 0 = x := by rw [show br_J 0 = 0 from rfl, Int32.or_zero]
theorem br_up_up (σ : br_Wd) (q k : Nat) (x y : Int32) : br_up (br_up σ q k x) q k y = br_up σ q k y := by
  unfold br_up
  refine Prod.ext ?_ rfl
  funext q' k'
  simp only
  split
  · split <;> rfl
  · rfl
theorem br_K_and {a : Int} (ha : 0 ≤ a) : br_K a &&& br_K 2147483647 = br_K (a % 2147483648) := by
  obtain ⟨n, rfl⟩ := Int.eq_ofNat_of_zero_le ha
  have e : ((n : Int) % 2147483648) = ((n % 2147483648 : Nat) : Int) := by omega
  rw [e]
  unfold br_K
  apply Int64.toBitVec.inj
  rw [Int64.toBitVec_and, Int64.toBitVec_ofInt, Int64.toBitVec_ofInt, Int64.toBitVec_ofInt, BitVec.ofInt_natCast, BitVec.ofInt_natCast, show BitVec.ofInt 64 2147483647 = BitVec.ofNat 64 (2 ^ 31 - 1) from rfl, ← BitVec.ofNat_and, Nat.and_two_pow_sub_one_eq_mod]

set_option maxHeartbeats 4000000 in
set_option maxRecDepth 100000 in
theorem c_X5_layRow {σ : br_Wd} {n : Nat} (hn0 : σ.1 23 2 = br_J n) (hn1 : 0 < n) (hn7 : n ≤ 7) (c m : Nat) (hm : 1 ≤ m ∧ m ≤ 3) (hc : c < 343) : br_Met 0 mX5_layRow [br_r 23, br_i (br_J c), br_i (br_J m)] σ (fun v τ => v = some (br_i (br_J (if br_dst n m c then 1 else 0))) ∧ (∀ i : Nat, i < m → τ.1 27 i = br_J (br_dg n m c i : Nat)) ∧ br_sm [27] σ τ) := by
  refine br_ofW (by decide) 4 rfl (fun G C => ?_)
  obtain ⟨d, hdef⟩ : ∃ d : Nat → Nat, d = fun j => c / n ^ j % n := ⟨_, rfl⟩
  have hd7 : ∀ j : Nat, d j < 7 := fun j => by rw [hdef]; exact Nat.lt_of_lt_of_le (Nat.mod_lt _ hn1) hn7
  have loop : ∀ (q j lf : Nat) (τ : br_Wd) (s u : Int32) (z : Int), j + q = m → lf = c / n ^ j → z = (m : Int) - 1 - j → s = br_sn d j → u = br_un d j → br_sm [27] σ τ → (∀ i : Nat, m ≤ i + j → i < m → τ.1 27 i = br_J (d (m - 1 - i) : Nat)) → G 13 [some (br_r 23), some (br_i (br_J c)), some (br_i (br_J m)), some (br_i (br_J lf)), some (br_i s), some (br_i u), some (br_i (br_J z))] [] τ := by
    intro q
    induction q with
    | zero =>
      intro j lf τ s u z hjq hlf hz hsn hun hsm hrow
      refine br_iload C dX5_layRow_13 rfl ?_
      refine br_if_ltJ C (by omega) dX5_layRow_15 (tgt := 77) (by decide) (fun c15 => ?_) (fun c15 => ?_)
      · have hdx : ∀ i : Nat, d i = c / n ^ i % n := fun i => by rw [hdef]
        have hun2 : u = br_un d m := by rw [hun, show j = m by omega]
        have hiff : br_un d m = br_J (m : Nat) ↔ br_dst n m c := by
          rw [br_un_dst (by omega) (fun i _ => hd7 i)]
          constructor
          · intro h a ha b hb e
            refine h (m - 1 - b) (by omega) (m - 1 - a) (by omega) ?_
            rw [hdx, hdx]
            exact e.symm
          · intro h a ha b hb e
            refine h (m - 1 - b) (by omega) (m - 1 - a) (by omega) ?_
            unfold br_dg
            rw [show m - 1 - (m - 1 - a) = a by omega, show m - 1 - (m - 1 - b) = b by omega, ← hdx, ← hdx]
            exact e.symm
        have hrow2 : ∀ i : Nat, i < m → τ.1 27 i = br_J (br_dg n m c i : Nat) := fun i hi => by
          rw [hrow i (by omega) (by omega), hdx]
          rfl
        refine br_iload C dX5_layRow_77 rfl ?_
        refine br_iload_n C dX5_layRow_79 rfl rfl ?_
        refine br_icmp_ne C dX5_layRow_80 (tgt := 87) (by decide) (fun c80 => ?_) (fun c80 => ?_)
        · have hdd : ¬ br_dst n m c := fun q => c80 (by rw [hun2]; exact hiff.mpr q)
          refine br_iconstJ C dX5_layRow_87 ?_
          exact br_zret C (by decide) rfl dX5_layRow_88 ⟨by first | rw [if_pos hdd] | rw [if_neg hdd], hrow2, hsm⟩
        · have hdd : br_dst n m c := hiff.mp (by rw [← hun2]; exact c80)
          refine br_iconstJ C dX5_layRow_83 ?_
          refine br_goto C dX5_layRow_84 (tgt := 88) (by decide) ?_
          exact br_zret C (by decide) rfl dX5_layRow_88 ⟨by first | rw [if_pos hdd] | rw [if_neg hdd], hrow2, hsm⟩
      · omega
    | succ q ih =>
      intro j lf τ s u z hjq hlf hz hsn hun hsm hrow
      have hcl : lf ≤ 343 := by rw [hlf]; exact Nat.le_trans (Nat.div_le_self _ _) (by omega)
      have hdj := hd7 j
      refine br_iload C dX5_layRow_13 rfl ?_
      refine br_if_ltJ C (by omega) dX5_layRow_15 (tgt := 77) (by decide) (fun c15 => ?_) (fun c15 => ?_)
      · omega
      · refine br_aload_n C dX5_layRow_18 rfl rfl ?_
        refine br_getR C fdX5_19 dX5_layRow_19 rfl rfl ?_
        refine br_iload C dX5_layRow_22 rfl ?_
        refine br_iload_n C dX5_layRow_24 rfl rfl ?_
        refine br_aload_n C dX5_layRow_25 rfl rfl ?_
        refine br_getI C fdX5_63 dX5_layRow_26 rfl rfl (x := br_J n) ((congrFun (hsm.1 23 (by decide)) 2).trans hn0) ?_
        refine br_iremJ C (by omega) (by omega) dX5_layRow_29 ?_
        rw [show ((lf : Int) % (n : Int)) = ((d j : Nat) : Int) by rw [hdef, hlf, ← Int.natCast_emod]]
        refine br_iastJ C rfl (by decide) (by omega) (by omega) rfl dX5_layRow_30 ?_
        refine br_iload C dX5_layRow_31 rfl ?_
        refine br_iconstJ C dX5_layRow_33 ?_
        refine br_iload C dX5_layRow_34 rfl ?_
        refine br_aload_n C dX5_layRow_36 rfl rfl ?_
        refine br_getR C fdX5_19 dX5_layRow_37 rfl rfl ?_
        refine br_iload C dX5_layRow_40 rfl ?_
        refine br_ialdJ C rfl (by decide) (by omega) (by omega) (y := (d j : Nat)) (by simp only [br_up]; rw [if_pos True.intro, if_pos True.intro]) dX5_layRow_42 ?_
        refine br_ishrE C rfl dX5_layRow_43 ?_
        refine br_iconstJ C dX5_layRow_44 ?_
        refine br_iandE C rfl dX5_layRow_45 ?_
        refine br_isub C dX5_layRow_46 ?_
        refine br_iadd C dX5_layRow_47 ?_
        refine br_istore C dX5_layRow_48 (by decide) rfl (L' := [_, _, _, _, _, _, _]) rfl ?_
        refine br_iload C dX5_layRow_50 rfl ?_
        refine br_iconstJ C dX5_layRow_52 ?_
        refine br_aload_n C dX5_layRow_53 rfl rfl ?_
        refine br_getR C fdX5_19 dX5_layRow_54 rfl rfl ?_
        refine br_iload C dX5_layRow_57 rfl ?_
        refine br_ialdJ C rfl (by decide) (by omega) (by omega) (y := (d j : Nat)) (by simp only [br_up]; rw [if_pos True.intro, if_pos True.intro]) dX5_layRow_59 ?_
        refine br_ishlE C rfl dX5_layRow_60 ?_
        refine br_iorE C rfl dX5_layRow_61 ?_
        refine br_istore C dX5_layRow_62 (by decide) rfl (L' := [_, _, _, _, _, _, _]) rfl ?_
        refine br_iload_n C dX5_layRow_64 rfl rfl ?_
        refine br_aload_n C dX5_layRow_65 rfl rfl ?_
        refine br_getI C fdX5_63 dX5_layRow_66 rfl rfl (x := br_J n) ((congrFun (hsm.1 23 (by decide)) 2).trans hn0) ?_
        refine br_idivJ C (by omega) (by omega) dX5_layRow_69 ?_
        refine br_istore_n C dX5_layRow_70 rfl (by decide) rfl (L' := [_, _, _, _, _, _, _]) rfl ?_
        rw [show ((lf : Int) / (n : Int)) = ((lf / n : Nat) : Int) by rw [← Int.natCast_ediv]]
        refine br_iincJ C dX5_layRow_71 rfl (by decide) rfl (L' := [_, _, _, _, _, _, _]) rfl ?_
        refine br_goto C dX5_layRow_74 (tgt := 13) (by decide) ?_
        refine ih (j + 1) _ _ _ _ _ (by omega) (by rw [hlf, Nat.div_div_eq_div_mul, ← Nat.pow_succ]) (by omega) (by rw [hsn]; rfl) (by rw [hun, hsn]; rfl) (hsm.up (by simp)) (fun i hi1 hi2 => ?_)
        simp only [br_up]
        rw [if_pos True.intro]
        by_cases e : i = z.toNat
        · rw [if_pos e, show m - 1 - i = j by omega]
        · rw [if_neg e]; exact hrow i (by omega) hi2
  refine br_iload_n C dX5_layRow_0 rfl rfl ?_
  refine br_istore_n C dX5_layRow_1 rfl (by decide) rfl (L' := [_, _, _, _, _, _, _]) rfl ?_
  refine br_iconstJ C dX5_layRow_2 ?_
  refine br_istore C dX5_layRow_3 (by decide) rfl (L' := [_, _, _, _, _, _, _]) rfl ?_
  refine br_iconstJ C dX5_layRow_5 ?_
  refine br_istore C dX5_layRow_6 (by decide) rfl (L' := [_, _, _, _, _, _, _]) rfl ?_
  refine br_iload_n C dX5_layRow_8 rfl rfl ?_
  refine br_iconstJ C dX5_layRow_9 ?_
  refine br_isubJ C dX5_layRow_10 ?_
  refine br_istore C dX5_layRow_11 (by decide) rfl (L' := [_, _, _, _, _, _, _]) rfl ?_
  exact loop m 0 c σ (br_J 0) (br_J 0) ((m : Int) - 1) (by omega) (by rw [Nat.pow_zero, Nat.div_one]) (by omega) rfl rfl br_sm.rfl (fun i h1 h2 => absurd h1 (by omega))
