theorem br_ite_iff {p q : Prop} {ip : Decidable p} {iq : Decidable q} (h : p ↔ q) : (if p then (1 : Int) else 0) = (if q then 1 else 0) := by
  by_cases hp : p
  · rw [if_pos hp, if_pos (h.mp hp)]
  · rw [if_neg hp, if_neg (fun x => hp (h.mpr x))]
theorem br_sg_spec (a b : Int) : (-1 ≤ br_sg a b ∧ br_sg a b ≤ 1) ∧ (br_sg a b < 0 ↔ a < b) ∧ (0 < br_sg a b ↔ b < a) := by
  unfold br_sg
  (repeat' split) <;> omega

set_option maxHeartbeats 4000000 in
set_option maxRecDepth 100000 in
theorem c_X5_in {σ : br_Wd} (v lo hi : Int) (hv : -9223372036854775808 ≤ v ∧ v < 9223372036854775808) (hlo : -9223372036854775808 ≤ lo ∧ lo < 9223372036854775808) (hhi : -9223372036854775808 ≤ hi ∧ hi < 9223372036854775808) : br_Met 0 mX5_in [br_l (br_K v), br_l (br_K lo), br_l (br_K hi)] σ (br_R (br_J (if lo ≤ v ∧ v ≤ hi then 1 else 0)) σ) := by
  refine br_ofW (by decide) 0 rfl (fun G C => ?_)
  have s1 := br_sg_spec v lo
  have s2 := br_sg_spec v hi
  refine br_lload_n C dX5_in_0 rfl rfl ?_
  refine br_lload_n C dX5_in_1 rfl rfl ?_
  refine br_lcmpK C hv hlo dX5_in_2 ?_
  refine br_if_ltJ C (by omega) dX5_in_3 (tgt := 17) (by decide) (fun c3 => ?_) (fun c3 => ?_)
  · refine br_iconstJ C dX5_in_17 ?_
    exact br_zret C (by decide) rfl dX5_in_18 ⟨by first | rw [if_pos (by omega)] | rw [if_neg (by omega)], rfl⟩
  · refine br_lload_n C dX5_in_6 rfl rfl ?_
    refine br_lload C dX5_in_7 rfl ?_
    refine br_lcmpK C hv hhi dX5_in_9 ?_
    refine br_if_gtJ C (by omega) dX5_in_10 (tgt := 17) (by decide) (fun c10 => ?_) (fun c10 => ?_)
    · refine br_iconstJ C dX5_in_17 ?_
      exact br_zret C (by decide) rfl dX5_in_18 ⟨by first | rw [if_pos (by omega)] | rw [if_neg (by omega)], rfl⟩
    · refine br_iconstJ C dX5_in_13 ?_
      refine br_goto C dX5_in_14 (tgt := 18) (by decide) ?_
      exact br_zret C (by decide) rfl dX5_in_18 ⟨by first | rw [if_pos (by omega)] | rw [if_neg (by omega)], rfl⟩

set_option maxHeartbeats 4000000 in
set_option maxRecDepth 100000 in
theorem c_X5_copy {σ : br_Wd} {a b n : Nat} (ha : br_shps[a]? = some (.inl (false, n))) (hb : br_shps[b]? = some (.inl (false, n))) (hn : n ≤ 30) (hne : ¬ a = b) : br_Met 0 mX5_copy [br_r a, br_r b] σ (fun v τ => v = none ∧ (∀ j : Nat, j < n → τ.1 b j = σ.1 a j) ∧ br_sm [b] σ τ) := by
  refine br_ofW (by decide) 1 rfl (fun G C => ?_)
  have loop : ∀ (m i : Nat) (τ : br_Wd), i + m = n → br_sm [b] σ τ → (∀ j : Nat, j < i → τ.1 b j = σ.1 a j) → G 2 [some (br_r a), some (br_r b), some (br_i (br_J i))] [] τ := by
    intro m
    induction m with
    | zero =>
      intro i τ him hsm hm
      refine br_iload_n C dX5_copy_2 rfl rfl ?_
      refine br_aload_n C dX5_copy_3 rfl rfl ?_
      refine br_alenJ C ha dX5_copy_4 ?_
      refine br_icmp_geJ C (by omega) (by omega) dX5_copy_5 (tgt := 20) (by decide) (fun c5 => ?_) (fun c5 => ?_)
      · exact br_vret C rfl dX5_copy_20 ⟨rfl, fun j hj => hm j (by omega), hsm⟩
      · omega
    | succ m ih =>
      intro i τ him hsm hm
      refine br_iload_n C dX5_copy_2 rfl rfl ?_
      refine br_aload_n C dX5_copy_3 rfl rfl ?_
      refine br_alenJ C ha dX5_copy_4 ?_
      refine br_icmp_geJ C (by omega) (by omega) dX5_copy_5 (tgt := 20) (by decide) (fun c5 => ?_) (fun c5 => ?_)
      · omega
      · refine br_aload_n C dX5_copy_8 rfl rfl ?_
        refine br_iload_n C dX5_copy_9 rfl rfl ?_
        refine br_aload_n C dX5_copy_10 rfl rfl ?_
        refine br_iload_n C dX5_copy_11 rfl rfl ?_
        refine br_ialdJ C ha (by omega) (by omega) (by omega) (y := (σ.1 a i).toInt) (by rw [show ((i : Nat) : Int).toNat = i by omega, hsm.1 a (by simpa using hne)]; exact br_J_of _) dX5_copy_12 ?_
        refine br_iastJ C hb (by omega) (by omega) (by omega) rfl dX5_copy_13 ?_
        refine br_iincJ C dX5_copy_14 rfl (by decide) rfl (L' := [_, _, _]) rfl ?_
        refine br_goto C dX5_copy_17 (tgt := 2) (by decide) ?_
        refine ih (i + 1) _ (by omega) (hsm.up (by simp)) (fun j hj => ?_)
        simp only [br_up]
        rw [if_pos True.intro]
        by_cases e : j = ((i : Nat) : Int).toNat
        · have e2 : j = i := by omega
          rw [if_pos e, e2]
          exact (br_J_of _).symm
        · rw [if_neg e]; exact hm j (by omega)
  refine br_iconstJ C dX5_copy_0 ?_
  refine br_istore_n C dX5_copy_1 rfl (by decide) rfl (L' := [_, _, _]) rfl ?_
  exact loop n 0 σ (by omega) br_sm.rfl (fun j hj => absurd hj (Nat.not_lt_zero j))

set_option maxHeartbeats 4000000 in
set_option maxRecDepth 100000 in
theorem c_X5_common {σ : br_Wd} (a b : Int) (ha : 0 ≤ a ∧ a < 2147483648) (hb : 0 ≤ b ∧ b < 2147483648) : br_Met 0 mX5_common [br_i (br_J a), br_i (br_J b)] σ (br_R (br_J (br_gcd a b)) σ) := by
  refine br_ofW (by decide) 3 rfl (fun G C => ?_)
  have loop : ∀ (m : Nat) (x y : Int) (u : Option br_V), 0 ≤ y → y < m → y < 2147483648 → 0 ≤ x → x < 2147483648 → br_gcd x y = br_gcd a b → G 4 [some (br_i (br_J a)), some (br_i (br_J b)), some (br_i (br_J x)), some (br_i (br_J y)), u] [] σ := by
    intro m
    induction m with
    | zero => intro x y u h1 h2; omega
    | succ m ih =>
      intro x y u hy0 hym hy31 hx0 hx31 hG
      refine br_iload_n C dX5_common_4 rfl rfl ?_
      refine br_if_leJ C (by omega) dX5_common_5 (tgt := 21) (by decide) (fun c5 => ?_) (fun c5 => ?_)
      · refine br_iload_n C dX5_common_21 rfl rfl ?_
        exact br_iret C rfl dX5_common_22 ⟨by rw [← hG, show y = 0 by omega, br_gcd_zero (by omega)], rfl⟩
      · refine br_iload_n C dX5_common_8 rfl rfl ?_
        refine br_iload_n C dX5_common_9 rfl rfl ?_
        have hm1 := Int.emod_nonneg x (show y ≠ 0 by omega)
        have hm2 := Int.emod_lt_of_pos x (show 0 < y by omega)
        refine br_iremJ C (by omega) (by omega) dX5_common_10 ?_
        refine br_istore C dX5_common_11 (by decide) rfl (L' := [_, _, _, _, _]) rfl ?_
        refine br_iload_n C dX5_common_13 rfl rfl ?_
        refine br_istore_n C dX5_common_14 rfl (by decide) rfl (L' := [_, _, _, _, _]) rfl ?_
        refine br_iload C dX5_common_15 rfl ?_
        refine br_istore_n C dX5_common_17 rfl (by decide) rfl (L' := [_, _, _, _, _]) rfl ?_
        refine br_goto C dX5_common_18 (tgt := 4) (by decide) ?_
        exact ih y (x % y) _ hm1 (by omega) (by omega) (by omega) (by omega) (by rw [br_gcd_step hx0 (by omega)]; exact hG)
  refine br_iload_n C dX5_common_0 rfl rfl ?_
  refine br_istore_n C dX5_common_1 rfl (by decide) rfl (L' := [_, _, _, _, _]) rfl ?_
  refine br_iload_n C dX5_common_2 rfl rfl ?_
  refine br_istore_n C dX5_common_3 rfl (by decide) rfl (L' := [_, _, _, _, _]) rfl ?_
  exact loop (b.toNat + 1) a b _ (by omega) (by omega) (by omega) (by omega) (by omega) rfl

set_option maxHeartbeats 4000000 in
set_option maxRecDepth 100000 in
theorem c_X5_kindBy {σ : br_Wd} (z : Int) (hbz : -2147483648 ≤ z ∧ z < 2147483648) : br_Met 0 mX5_kindBy [br_i (br_J z)] σ (br_R (br_J (br_kd z)) σ) := by
  refine br_ofW (by decide) 0 rfl (fun G C => ?_)
  refine br_iload_n C dX5_kindBy_0 rfl rfl ?_
  refine br_bipushJ C (by decide) dX5_kindBy_1 ?_
  refine br_icmp_neJ C (by omega) (by omega) dX5_kindBy_3 (tgt := 10) (by decide) (fun c3 => ?_) (fun c3 => ?_)
  · refine br_iload_n C dX5_kindBy_10 rfl rfl ?_
    refine br_bipushJ C (by decide) dX5_kindBy_11 ?_
    refine br_icmp_neJ C (by omega) (by omega) dX5_kindBy_13 (tgt := 20) (by decide) (fun c13 => ?_) (fun c13 => ?_)
    · refine br_iload_n C dX5_kindBy_20 rfl rfl ?_
      refine br_bipushJ C (by decide) dX5_kindBy_21 ?_
      refine br_icmp_neJ C (by omega) (by omega) dX5_kindBy_23 (tgt := 30) (by decide) (fun c23 => ?_) (fun c23 => ?_)
      · refine br_iload_n C dX5_kindBy_30 rfl rfl ?_
        refine br_bipushJ C (by decide) dX5_kindBy_31 ?_
        refine br_icmp_neJ C (by omega) (by omega) dX5_kindBy_33 (tgt := 40) (by decide) (fun c33 => ?_) (fun c33 => ?_)
        · refine br_iload_n C dX5_kindBy_40 rfl rfl ?_
          refine br_bipushJ C (by decide) dX5_kindBy_41 ?_
          refine br_icmp_neJ C (by omega) (by omega) dX5_kindBy_43 (tgt := 50) (by decide) (fun c43 => ?_) (fun c43 => ?_)
          · refine br_iconstJ C dX5_kindBy_50 ?_
            exact br_iret C rfl dX5_kindBy_51 ⟨by unfold br_kd; (repeat (first | rw [if_pos (by omega)] | rw [if_neg (by omega)])), rfl⟩
          · refine br_iconstJ C dX5_kindBy_46 ?_
            refine br_goto C dX5_kindBy_47 (tgt := 51) (by decide) ?_
            exact br_iret C rfl dX5_kindBy_51 ⟨by unfold br_kd; (repeat (first | rw [if_pos (by omega)] | rw [if_neg (by omega)])), rfl⟩
        · refine br_iconstJ C dX5_kindBy_36 ?_
          refine br_goto C dX5_kindBy_37 (tgt := 51) (by decide) ?_
          exact br_iret C rfl dX5_kindBy_51 ⟨by unfold br_kd; (repeat (first | rw [if_pos (by omega)] | rw [if_neg (by omega)])), rfl⟩
      · refine br_iconstJ C dX5_kindBy_26 ?_
        refine br_goto C dX5_kindBy_27 (tgt := 51) (by decide) ?_
        exact br_iret C rfl dX5_kindBy_51 ⟨by unfold br_kd; (repeat (first | rw [if_pos (by omega)] | rw [if_neg (by omega)])), rfl⟩
    · refine br_iconstJ C dX5_kindBy_16 ?_
      refine br_goto C dX5_kindBy_17 (tgt := 51) (by decide) ?_
      exact br_iret C rfl dX5_kindBy_51 ⟨by unfold br_kd; (repeat (first | rw [if_pos (by omega)] | rw [if_neg (by omega)])), rfl⟩
  · refine br_iconstJ C dX5_kindBy_6 ?_
    refine br_goto C dX5_kindBy_7 (tgt := 51) (by decide) ?_
    exact br_iret C rfl dX5_kindBy_51 ⟨by unfold br_kd; (repeat (first | rw [if_pos (by omega)] | rw [if_neg (by omega)])), rfl⟩

set_option maxHeartbeats 4000000 in
set_option maxRecDepth 100000 in
theorem c_X5_isGood {σ : br_Wd} (p : Nat) (hp : p ≤ 27) (z : Int) (hbz : -2147483648 ≤ z ∧ z < 2147483648) : br_Met 1 mX5_isGood [br_i (br_J p), br_i (br_J z)] σ (br_R (br_J (if br_fit p z then 1 else 0)) σ) := by
  refine br_ofW (by decide) 0 rfl (fun G C => ?_)
  refine br_iload_n C dX5_isGood_0 rfl rfl ?_
  refine br_iconstJ C dX5_isGood_1 ?_
  refine br_iremJ C (by omega) (by omega) dX5_isGood_2 ?_
  obtain ⟨m, hm⟩ : ∃ m : Int, m = (p : Int) % 4 := ⟨_, rfl⟩
  rw [← hm]
  rcases (show (m < 0 ∨ 2 < m) ∨ m = 0 ∨ m = 1 ∨ m = 2 by omega) with c3 | rfl | rfl | rfl
  · refine br_tableOutJ C c3 (by omega) dX5_isGood_3 (tgt := 60) (by decide) ?_
    refine br_iload_n C dX5_isGood_60 rfl rfl ?_
    refine br_bipushJ C (by decide) dX5_isGood_61 ?_
    refine br_icmp_neJ C (by omega) (by omega) dX5_isGood_63 (tgt := 76) (by decide) (fun c63 => ?_) (fun c63 => ?_)
    · refine br_iconstJ C dX5_isGood_76 ?_
      exact br_zret C (by decide) rfl dX5_isGood_77 ⟨by first | (exfalso; omega) | rw [if_pos (by unfold br_fit; omega)] | rw [if_neg (by unfold br_fit; omega)], rfl⟩
    · refine br_iload_n C dX5_isGood_66 rfl rfl ?_
      refine br_bipushJ C (by decide) dX5_isGood_67 ?_
      refine br_icmp_geJ C (by omega) (by omega) dX5_isGood_69 (tgt := 76) (by decide) (fun c69 => ?_) (fun c69 => ?_)
      · refine br_iconstJ C dX5_isGood_76 ?_
        exact br_zret C (by decide) rfl dX5_isGood_77 ⟨by first | (exfalso; omega) | rw [if_pos (by unfold br_fit; omega)] | rw [if_neg (by unfold br_fit; omega)], rfl⟩
      · refine br_iconstJ C dX5_isGood_72 ?_
        refine br_goto C dX5_isGood_73 (tgt := 77) (by decide) ?_
        exact br_zret C (by decide) rfl dX5_isGood_77 ⟨by first | (exfalso; omega) | rw [if_pos (by unfold br_fit; omega)] | rw [if_neg (by unfold br_fit; omega)], rfl⟩
  · refine br_tableInJ C (by decide) (by decide) (by decide) dX5_isGood_3 (off := 25) rfl (tgt := 28) (by decide) ?_
    have hk := br_kd_bnd z
    refine br_iload_n C dX5_isGood_28 rfl rfl ?_
    refine br_bipushJ C (by decide) dX5_isGood_29 ?_
    refine br_icmp_geJ C (by omega) (by omega) dX5_isGood_31 (tgt := 46) (by decide) (fun c31 => ?_) (fun c31 => ?_)
    · refine br_iconstJ C dX5_isGood_46 ?_
      exact br_zret C (by decide) rfl dX5_isGood_47 ⟨by first | (exfalso; omega) | rw [if_pos (by unfold br_fit; omega)] | rw [if_neg (by unfold br_fit; omega)], rfl⟩
    · refine br_iload_n C dX5_isGood_34 rfl rfl ?_
      refine br_cs1R C scX5_47 (c_X5_kindBy z hbz) (by decide) (fun _ => Nat.le_of_ble_eq_true rfl) dX5_isGood_35 ?_
      refine br_iconstJ C dX5_isGood_38 ?_
      refine br_icmp_eqJ C (by omega) (by omega) dX5_isGood_39 (tgt := 46) (by decide) (fun c39 => ?_) (fun c39 => ?_)
      · refine br_iconstJ C dX5_isGood_46 ?_
        exact br_zret C (by decide) rfl dX5_isGood_47 ⟨by first | (exfalso; omega) | rw [if_pos (by unfold br_fit; omega)] | rw [if_neg (by unfold br_fit; omega)], rfl⟩
      · refine br_iconstJ C dX5_isGood_42 ?_
        refine br_goto C dX5_isGood_43 (tgt := 47) (by decide) ?_
        exact br_zret C (by decide) rfl dX5_isGood_47 ⟨by first | (exfalso; omega) | rw [if_pos (by unfold br_fit; omega)] | rw [if_neg (by unfold br_fit; omega)], rfl⟩
  · refine br_tableInJ C (by decide) (by decide) (by decide) dX5_isGood_3 (off := 45) rfl (tgt := 48) (by decide) ?_
    refine br_iload_n C dX5_isGood_48 rfl rfl ?_
    refine br_i2lK C (by omega) dX5_isGood_49 ?_
    refine br_ldc2K C klX5_51 (z := 49) (by decide) dX5_isGood_50 ?_
    refine br_ldc2K C klX5_53 (z := 57) (by decide) dX5_isGood_53 ?_
    refine br_cs3R C scX5_40 (c_X5_in z 49 57 (by omega) (by omega) (by omega)) (by decide) (fun _ => Nat.le_of_ble_eq_true rfl) dX5_isGood_56 ?_
    exact br_zret C (by split <;> decide) rfl dX5_isGood_59 ⟨congrArg (fun x => some (br_i (br_J x))) (br_ite_iff (by unfold br_fit; omega)), rfl⟩
  · refine br_tableInJ C (by decide) (by decide) (by decide) dX5_isGood_3 (off := 45) rfl (tgt := 48) (by decide) ?_
    refine br_iload_n C dX5_isGood_48 rfl rfl ?_
    refine br_i2lK C (by omega) dX5_isGood_49 ?_
    refine br_ldc2K C klX5_51 (z := 49) (by decide) dX5_isGood_50 ?_
    refine br_ldc2K C klX5_53 (z := 57) (by decide) dX5_isGood_53 ?_
    refine br_cs3R C scX5_40 (c_X5_in z 49 57 (by omega) (by omega) (by omega)) (by decide) (fun _ => Nat.le_of_ble_eq_true rfl) dX5_isGood_56 ?_
    exact br_zret C (by split <;> decide) rfl dX5_isGood_59 ⟨congrArg (fun x => some (br_i (br_J x))) (br_ite_iff (by unfold br_fit; omega)), rfl⟩

theorem br_ff_27 (w : br_Pg) (i n : Nat) (h : i + n = w.1) (hi : i ≤ 27) (hall : br_fault w = br_ff w i n) (hw : 27 < w.1) (hi2 : i = 27) : br_ff w i n = 27 := by
  subst hi2
  cases n with
  | zero => omega
  | succ n => unfold br_ff; rw [if_neg (fun q => absurd q.1 (by omega))]

set_option maxHeartbeats 4000000 in
set_option maxRecDepth 100000 in
theorem c_X5_faultOf {σ : br_Wd} {w : br_Pg} (hw : br_PM σ w) (hn : w.1 ≤ 30) (hb : ∀ j : Nat, j < w.1 → -2147483648 ≤ w.2 j ∧ w.2 j < 2147483648) : br_Met 2 mX5_faultOf [br_r 23] σ (br_R (br_J (br_fault w : Nat)) σ) := by
  obtain ⟨hl, hc⟩ := hw
  refine br_ofW (by decide) 1 rfl (fun G C => ?_)
  have loop : ∀ (n i : Nat), i + n = w.1 → i ≤ 27 → br_fault w = br_ff w i n → G 2 [some (br_r 23), some (br_i (br_J i))] [] σ := by
    intro n
    induction n with
    | zero =>
      intro i hin hi27 hi
      have ei : i = w.1 := by omega
      refine br_iload_n C dX5_faultOf_2 rfl rfl ?_
      refine br_aload_n C dX5_faultOf_3 rfl rfl ?_
      refine br_getI C fdX5_44 dX5_faultOf_4 rfl rfl (by assumption) ?_
      refine br_icmp_geJ C (by omega) (by omega) dX5_faultOf_7 (tgt := 29) (by decide) (fun c7 => ?_) (fun c7 => ?_)
      · subst ei
        refine br_iload_n C dX5_faultOf_29 rfl rfl ?_
        exact br_iret C rfl dX5_faultOf_30 ⟨by rw [hi]; first | rfl | (unfold br_ff; rw [if_neg h17]) | (exfalso; omega), rfl⟩
      · omega
    | succ n ih =>
      intro i hin hi27 hi
      refine br_iload_n C dX5_faultOf_2 rfl rfl ?_
      refine br_aload_n C dX5_faultOf_3 rfl rfl ?_
      refine br_getI C fdX5_44 dX5_faultOf_4 rfl rfl (by assumption) ?_
      refine br_icmp_geJ C (by omega) (by omega) dX5_faultOf_7 (tgt := 29) (by decide) (fun c7 => ?_) (fun c7 => ?_)
      · refine br_iload_n C dX5_faultOf_29 rfl rfl ?_
        exact br_iret C rfl dX5_faultOf_30 ⟨by rw [hi]; first | rfl | (unfold br_ff; rw [if_neg h17]) | (exfalso; omega), rfl⟩
      · refine br_iload_n C dX5_faultOf_10 rfl rfl ?_
        refine br_aload_n C dX5_faultOf_11 rfl rfl ?_
        refine br_getR C fdX5_7 dX5_faultOf_12 rfl rfl ?_
        refine br_iload_n C dX5_faultOf_15 rfl rfl ?_
        refine br_ialdJ C rfl (by decide) (by omega) (by omega) (hc i (by omega)) dX5_faultOf_16 ?_
        refine br_cs2B C scX5_55 (c_X5_isGood i (by omega) (w.2 i) (hb i (by omega))) (by decide) (fun _ => Nat.le_of_ble_eq_true rfl) dX5_faultOf_17 (fun h17 => ?_) (fun h17 => ?_)
        · refine br_if_eq1 C dX5_faultOf_20 (tgt := 29) (by decide) ?_
          refine br_iincJ C dX5_faultOf_23 rfl (by decide) rfl (L' := [_, _]) rfl ?_
          refine br_goto C dX5_faultOf_26 (tgt := 2) (by decide) ?_
          have hf := h17.1
          exact ih (i + 1) (by omega) (by omega) (by rw [hi]; show (if _ then _ else _) = _; exact if_pos h17)
        · refine br_if_eq0 C dX5_faultOf_20 (tgt := 29) (by decide) ?_
          refine br_iload_n C dX5_faultOf_29 rfl rfl ?_
          exact br_iret C rfl dX5_faultOf_30 ⟨by rw [hi]; first | rfl | (unfold br_ff; rw [if_neg h17]) | (exfalso; omega), rfl⟩
  refine br_iconstJ C dX5_faultOf_0 ?_
  refine br_istore_n C dX5_faultOf_1 rfl (by decide) rfl (L' := [_, _]) rfl ?_
  exact loop w.1 0 (by omega) (by omega) rfl

set_option maxHeartbeats 4000000 in
set_option maxRecDepth 100000 in
theorem c_X5_fault {σ : br_Wd} {w : br_Pg} (hw : br_PM σ w) (hn : w.1 ≤ 30) (hb : ∀ j : Nat, j < w.1 → -2147483648 ≤ w.2 j ∧ w.2 j < 2147483648) : br_Met 3 mX5_fault [br_r 23] σ (br_R (br_J (br_fault w : Nat)) σ) := by
  refine br_ofW (by decide) 0 rfl (fun G C => ?_)
  refine br_aload_n C dX5_fault_0 rfl rfl ?_
  refine br_cv0R C vcX5_59 (c_X5_faultOf hw hn hb) (by decide) rfl rfl (fun _ => Nat.le_of_ble_eq_true rfl) dX5_fault_1 ?_
  exact br_iret C rfl dX5_fault_4 ⟨rfl, rfl⟩

set_option maxHeartbeats 4000000 in
set_option maxRecDepth 100000 in
theorem c_X5_lacks {σ : br_Wd} {n : Nat} (hn0 : σ.1 23 2 = br_J n) (hn : n ≤ 7) : br_Met 0 mX5_lacks [br_r 23] σ (br_R (br_J (if n = 0 then 1 else 0)) σ) := by
  refine br_ofW (by decide) 0 rfl (fun G C => ?_)
  refine br_aload_n C dX5_lacks_0 rfl rfl ?_
  refine br_getI C fdX5_63 dX5_lacks_1 rfl rfl (by assumption) ?_
  refine br_if_neJ C (by omega) dX5_lacks_4 (tgt := 11) (by decide) (fun c4 => ?_) (fun c4 => ?_)
  · refine br_iconstJ C dX5_lacks_11 ?_
    exact br_zret C (by decide) rfl dX5_lacks_12 ⟨by first | rw [if_pos (by omega)] | rw [if_neg (by omega)], rfl⟩
  · refine br_iconstJ C dX5_lacks_7 ?_
    refine br_goto C dX5_lacks_8 (tgt := 12) (by decide) ?_
    exact br_zret C (by decide) rfl dX5_lacks_12 ⟨by first | rw [if_pos (by omega)] | rw [if_neg (by omega)], rfl⟩

set_option maxHeartbeats 4000000 in
set_option maxRecDepth 100000 in
theorem c_X5_isPiece {σ : br_Wd} {n : Nat} (hn0 : σ.1 23 2 = br_J n) (hn : n ≤ 7) (z : Int) (hbz : -2147483648 ≤ z ∧ z < 2147483648) : br_Met 1 mX5_isPiece [br_r 23, br_i (br_J z)] σ (br_R (br_J (if 0 ≤ z ∧ z < n then 1 else 0)) σ) := by
  refine br_ofW (by decide) 0 rfl (fun G C => ?_)
  refine br_iload_n C dX5_isPiece_0 rfl rfl ?_
  refine br_i2lK C (by omega) dX5_isPiece_1 ?_
  refine br_lconst C dX5_isPiece_2 (v := br_K 0) (by decide) ?_
  refine br_aload_n C dX5_isPiece_3 rfl rfl ?_
  refine br_getI C fdX5_63 dX5_isPiece_4 rfl rfl (by assumption) ?_
  refine br_iconstJ C dX5_isPiece_7 ?_
  refine br_isubJ C dX5_isPiece_8 ?_
  refine br_i2lK C (by omega) dX5_isPiece_9 ?_
  refine br_cs3R C scX5_40 (c_X5_in z 0 ((n : Int) - 1) (by omega) (by omega) (by omega)) (by decide) (fun _ => Nat.le_of_ble_eq_true rfl) dX5_isPiece_10 ?_
  exact br_zret C (by split <;> decide) rfl dX5_isPiece_13 ⟨congrArg (fun x => some (br_i (br_J x))) (br_ite_iff (by omega)), rfl⟩

set_option maxHeartbeats 4000000 in
set_option maxRecDepth 100000 in
theorem c_X5_isPlace {σ : br_Wd} {n : Nat} (hn0 : σ.1 23 7 = br_J n) (hn : n ≤ 7) (z : Int) (hbz : -2147483648 ≤ z ∧ z < 2147483648) : br_Met 1 mX5_isPlace [br_r 23, br_i (br_J z)] σ (br_R (br_J (if 0 ≤ z ∧ z < n then 1 else 0)) σ) := by
  refine br_ofW (by decide) 0 rfl (fun G C => ?_)
  refine br_iload_n C dX5_isPlace_0 rfl rfl ?_
  refine br_i2lK C (by omega) dX5_isPlace_1 ?_
  refine br_lconst C dX5_isPlace_2 (v := br_K 0) (by decide) ?_
  refine br_aload_n C dX5_isPlace_3 rfl rfl ?_
  refine br_getI C fdX5_66 dX5_isPlace_4 rfl rfl (by assumption) ?_
  refine br_iconstJ C dX5_isPlace_7 ?_
  refine br_isubJ C dX5_isPlace_8 ?_
  refine br_i2lK C (by omega) dX5_isPlace_9 ?_
  refine br_cs3R C scX5_40 (c_X5_in z 0 ((n : Int) - 1) (by omega) (by omega) (by omega)) (by decide) (fun _ => Nat.le_of_ble_eq_true rfl) dX5_isPlace_10 ?_
  exact br_zret C (by split <;> decide) rfl dX5_isPlace_13 ⟨congrArg (fun x => some (br_i (br_J x))) (br_ite_iff (by omega)), rfl⟩

set_option maxHeartbeats 4000000 in
set_option maxRecDepth 100000 in
theorem c_X5_tenthsBy {σ : br_Wd} (kd su pl : Int) (h1 : -10 ≤ kd ∧ kd ≤ 10) (h2 : 0 ≤ su ∧ su ≤ 10) (h3 : 0 ≤ pl ∧ pl ≤ 10) : br_Met 0 mX5_tenthsBy [br_i (br_J kd), br_i (br_J su), br_i (br_J pl)] σ (br_R (br_J (br_ch kd su pl)) σ) := by
  refine br_ofW (by decide) 1 rfl (fun G C => ?_)
  refine br_iload_n C dX5_tenthsBy_0 rfl rfl ?_
  refine br_iconstJ C dX5_tenthsBy_1 ?_
  refine br_icmp_leJ C (by omega) (by omega) dX5_tenthsBy_2 (tgt := 16) (by decide) (fun c2 => ?_) (fun c2 => ?_)
  · refine br_iconstJ C dX5_tenthsBy_16 ?_
    refine br_istore_n C dX5_tenthsBy_17 rfl (by decide) rfl (L' := [_, _, _, _]) rfl ?_
    refine br_iload_n C dX5_tenthsBy_18 rfl rfl ?_
    refine br_iload_n C dX5_tenthsBy_19 rfl rfl ?_
    refine br_icmp_leJ C (by omega) (by omega) dX5_tenthsBy_20 (tgt := 29) (by decide) (fun c20 => ?_) (fun c20 => ?_)
    · refine br_iconstJ C dX5_tenthsBy_29 ?_
      exact br_iret C rfl dX5_tenthsBy_30 ⟨by congr 3; unfold br_ch; split <;> omega, rfl⟩
    · refine br_iload_n C dX5_tenthsBy_23 rfl rfl ?_
      refine br_iload_n C dX5_tenthsBy_24 rfl rfl ?_
      refine br_isubJ C dX5_tenthsBy_25 ?_
      refine br_goto C dX5_tenthsBy_26 (tgt := 30) (by decide) ?_
      exact br_iret C rfl dX5_tenthsBy_30 ⟨by congr 3; unfold br_ch; split <;> omega, rfl⟩
  · refine br_iload_n C dX5_tenthsBy_5 rfl rfl ?_
    refine br_iconstJ C dX5_tenthsBy_6 ?_
    refine br_icmp_eqJ C (by omega) (by omega) dX5_tenthsBy_7 (tgt := 16) (by decide) (fun c7 => ?_) (fun c7 => ?_)
    · refine br_iconstJ C dX5_tenthsBy_16 ?_
      refine br_istore_n C dX5_tenthsBy_17 rfl (by decide) rfl (L' := [_, _, _, _]) rfl ?_
      refine br_iload_n C dX5_tenthsBy_18 rfl rfl ?_
      refine br_iload_n C dX5_tenthsBy_19 rfl rfl ?_
      refine br_icmp_leJ C (by omega) (by omega) dX5_tenthsBy_20 (tgt := 29) (by decide) (fun c20 => ?_) (fun c20 => ?_)
      · refine br_iconstJ C dX5_tenthsBy_29 ?_
        exact br_iret C rfl dX5_tenthsBy_30 ⟨by congr 3; unfold br_ch; split <;> omega, rfl⟩
      · refine br_iload_n C dX5_tenthsBy_23 rfl rfl ?_
        refine br_iload_n C dX5_tenthsBy_24 rfl rfl ?_
        refine br_isubJ C dX5_tenthsBy_25 ?_
        refine br_goto C dX5_tenthsBy_26 (tgt := 30) (by decide) ?_
        exact br_iret C rfl dX5_tenthsBy_30 ⟨by congr 3; unfold br_ch; split <;> omega, rfl⟩
    · refine br_iload_n C dX5_tenthsBy_10 rfl rfl ?_
      refine br_iconstJ C dX5_tenthsBy_11 ?_
      refine br_isubJ C dX5_tenthsBy_12 ?_
      refine br_goto C dX5_tenthsBy_13 (tgt := 17) (by decide) ?_
      refine br_istore_n C dX5_tenthsBy_17 rfl (by decide) rfl (L' := [_, _, _, _]) rfl ?_
      refine br_iload_n C dX5_tenthsBy_18 rfl rfl ?_
      refine br_iload_n C dX5_tenthsBy_19 rfl rfl ?_
      refine br_icmp_leJ C (by omega) (by omega) dX5_tenthsBy_20 (tgt := 29) (by decide) (fun c20 => ?_) (fun c20 => ?_)
      · refine br_iconstJ C dX5_tenthsBy_29 ?_
        exact br_iret C rfl dX5_tenthsBy_30 ⟨by congr 3; unfold br_ch; split <;> omega, rfl⟩
      · refine br_iload_n C dX5_tenthsBy_23 rfl rfl ?_
        refine br_iload_n C dX5_tenthsBy_24 rfl rfl ?_
        refine br_isubJ C dX5_tenthsBy_25 ?_
        refine br_goto C dX5_tenthsBy_26 (tgt := 30) (by decide) ?_
        exact br_iret C rfl dX5_tenthsBy_30 ⟨by congr 3; unfold br_ch; split <;> omega, rfl⟩

set_option maxHeartbeats 4000000 in
set_option maxRecDepth 100000 in
theorem c_X5_tenthsOf {σ : br_Wd} {g : br_Gy} (hg : br_GM σ g) (hgo : br_Gok g) (p : Nat) (hp : p < g.1) (i : Nat) (hi : i ≤ 10) : br_Met 1 mX5_tenthsOf [br_r 23, br_i (br_J p), br_i (br_J i)] σ (br_R (br_J (br_ch (br_gK g p) (br_gS g p) i)) σ) := by
  have hg0 := hg
  have hgo0 := hgo
  obtain ⟨hgn, hK, hWo, hS⟩ := hg
  have hg7 := hgo.1
  refine br_ofW (by decide) 0 rfl (fun G C => ?_)
  have hgp := hgo.2 p hp
  refine br_aload_n C dX5_tenthsOf_0 rfl rfl ?_
  refine br_getR C fdX5_13 dX5_tenthsOf_1 rfl rfl ?_
  refine br_iconstJ C dX5_tenthsOf_4 ?_
  refine br_iload_n C dX5_tenthsOf_5 rfl rfl ?_
  refine br_imulJ C dX5_tenthsOf_6 ?_
  refine br_ialdJ C rfl (by decide) (by omega) (by omega) (y := br_gK g (p)) (by rw [show (3 * ((p : Nat) : Int)).toNat = 3 * p by omega]; exact hK (p) hp) dX5_tenthsOf_7 ?_
  refine br_aload_n C dX5_tenthsOf_8 rfl rfl ?_
  refine br_getR C fdX5_13 dX5_tenthsOf_9 rfl rfl ?_
  refine br_iconstJ C dX5_tenthsOf_12 ?_
  refine br_iload_n C dX5_tenthsOf_13 rfl rfl ?_
  refine br_imulJ C dX5_tenthsOf_14 ?_
  refine br_iconstJ C dX5_tenthsOf_15 ?_
  refine br_iaddJ C dX5_tenthsOf_16 ?_
  refine br_ialdJ C rfl (by decide) (by omega) (by omega) (y := br_gS g (p)) (by rw [show (3 * ((p : Nat) : Int) + 2).toNat = 3 * p + 2 by omega]; exact hS (p) hp) dX5_tenthsOf_17 ?_
  refine br_iload_n C dX5_tenthsOf_18 rfl rfl ?_
  refine br_cs3R C scX5_78 (c_X5_tenthsBy _ _ _ (by omega) (by omega) (by omega)) (by decide) (fun _ => Nat.le_of_ble_eq_true rfl) dX5_tenthsOf_19 ?_
  exact br_iret C rfl dX5_tenthsOf_22 ⟨rfl, rfl⟩

set_option maxHeartbeats 4000000 in
set_option maxRecDepth 100000 in
theorem c_X5_placeOf {σ : br_Wd} {r : br_Ro} (hr7 : σ.1 23 7 = br_J r.1) (hr : br_RM 26 σ r) (h5r : r.1 ≤ 5) (hb7 : ∀ j : Nat, j < r.1 → r.2 j < 7) (z : Int) (hbz : -2147483648 ≤ z ∧ z < 2147483648) : br_Met 0 mX5_placeOf [br_r 23, br_i (br_J z)] σ (br_R (br_J (br_po r z)) σ) := by
  refine br_ofW (by decide) 2 rfl (fun G C => ?_)
  have loop : ∀ (n i : Nat) (a : Int), i + n = r.1 → a = br_lst (fun j => decide (((r.2 j : Nat) : Int) = z)) i → G 4 [some (br_r 23), some (br_i (br_J z)), some (br_i (br_J a)), some (br_i (br_J i))] [] σ := by
    intro n
    induction n with
    | zero =>
      intro i a hin ha
      have ei : i = r.1 := by omega
      subst ei
      refine br_iload_n C dX5_placeOf_4 rfl rfl ?_
      refine br_aload_n C dX5_placeOf_5 rfl rfl ?_
      refine br_getI C fdX5_66 dX5_placeOf_6 rfl rfl (by assumption) ?_
      refine br_icmp_geJ C (by omega) (by omega) dX5_placeOf_9 (tgt := 34) (by decide) (fun c9 => ?_) (fun c9 => ?_)
      · refine br_iload_n C dX5_placeOf_34 rfl rfl ?_
        exact br_iret C rfl dX5_placeOf_35 ⟨by rw [ha]; rfl, rfl⟩
      · omega
    | succ n ih =>
      intro i a hin ha
      have hi : i < r.1 := by omega
      refine br_iload_n C dX5_placeOf_4 rfl rfl ?_
      refine br_aload_n C dX5_placeOf_5 rfl rfl ?_
      refine br_getI C fdX5_66 dX5_placeOf_6 rfl rfl (by assumption) ?_
      refine br_icmp_geJ C (by omega) (by omega) dX5_placeOf_9 (tgt := 34) (by decide) (fun c9 => ?_) (fun c9 => ?_)
      · omega
      · have hbi := hb7 i (by omega)
        refine br_aload_n C dX5_placeOf_12 rfl rfl ?_
        refine br_getR C fdX5_16 dX5_placeOf_13 rfl rfl ?_
        refine br_iload_n C dX5_placeOf_16 rfl rfl ?_
        refine br_ialdJ C rfl (by decide) (by omega) (by omega) (hr i (by omega)) dX5_placeOf_17 ?_
        refine br_iload_n C dX5_placeOf_18 rfl rfl ?_
        refine br_icmp_neJ C (by omega) (by omega) dX5_placeOf_19 (tgt := 26) (by decide) (fun c19 => ?_) (fun c19 => ?_)
        · refine br_iload_n C dX5_placeOf_26 rfl rfl ?_
          refine br_istore_n C dX5_placeOf_27 rfl (by decide) rfl (L' := [_, _, _, _]) rfl ?_
          refine br_iincJ C dX5_placeOf_28 rfl (by decide) rfl (L' := [_, _, _, _]) rfl ?_
          refine br_goto C dX5_placeOf_31 (tgt := 4) (by decide) ?_
          exact ih (i + 1) _ (by omega) (by show _ = (if decide (((r.2 i : Nat) : Int) = z) = true then (i : Int) else br_lst _ i); rw [← ha]; first | rw [if_pos (by simpa using c19)] | rw [if_neg (by simpa using c19)])
        · refine br_iload_n C dX5_placeOf_22 rfl rfl ?_
          refine br_goto C dX5_placeOf_23 (tgt := 27) (by decide) ?_
          refine br_istore_n C dX5_placeOf_27 rfl (by decide) rfl (L' := [_, _, _, _]) rfl ?_
          refine br_iincJ C dX5_placeOf_28 rfl (by decide) rfl (L' := [_, _, _, _]) rfl ?_
          refine br_goto C dX5_placeOf_31 (tgt := 4) (by decide) ?_
          exact ih (i + 1) _ (by omega) (by show _ = (if decide (((r.2 i : Nat) : Int) = z) = true then (i : Int) else br_lst _ i); rw [← ha]; first | rw [if_pos (by simpa using c19)] | rw [if_neg (by simpa using c19)])
  refine br_iconstJ C dX5_placeOf_0 ?_
  refine br_istore_n C dX5_placeOf_1 rfl (by decide) rfl (L' := [_, _, _, _]) rfl ?_
  refine br_iconstJ C dX5_placeOf_2 ?_
  refine br_istore_n C dX5_placeOf_3 rfl (by decide) rfl (L' := [_, _, _, _]) rfl ?_
  exact loop r.1 0 (-1) (by omega) rfl

set_option maxHeartbeats 4000000 in
set_option maxRecDepth 100000 in
theorem c_X5_isFlight {σ : br_Wd} {g : br_Gy} (hg : br_GM σ g) (hgo : br_Gok g) (p : Nat) (hp : p < g.1) : br_Met 0 mX5_isFlight [br_r 23, br_i (br_J p)] σ (br_R (br_J (if br_isF g p then 1 else 0)) σ) := by
  have hg0 := hg
  have hgo0 := hgo
  obtain ⟨hgn, hK, hWo, hS⟩ := hg
  have hg7 := hgo.1
  refine br_ofW (by decide) 0 rfl (fun G C => ?_)
  have hgp := hgo.2 p hp
  refine br_aload_n C dX5_isFlight_0 rfl rfl ?_
  refine br_getR C fdX5_13 dX5_isFlight_1 rfl rfl ?_
  refine br_iconstJ C dX5_isFlight_4 ?_
  refine br_iload_n C dX5_isFlight_5 rfl rfl ?_
  refine br_imulJ C dX5_isFlight_6 ?_
  refine br_ialdJ C rfl (by decide) (by omega) (by omega) (y := br_gK g (p)) (by rw [show (3 * ((p : Nat) : Int)).toNat = 3 * p by omega]; exact hK (p) hp) dX5_isFlight_7 ?_
  refine br_iconstJ C dX5_isFlight_8 ?_
  refine br_icmp_eqJ C (by omega) (by omega) dX5_isFlight_9 (tgt := 24) (by decide) (fun c9 => ?_) (fun c9 => ?_)
  · refine br_iconstJ C dX5_isFlight_24 ?_
    refine br_goto C dX5_isFlight_25 (tgt := 29) (by decide) ?_
    exact br_zret C (by decide) rfl dX5_isFlight_29 ⟨by first | rw [if_pos (by unfold br_isF; omega)] | rw [if_neg (by unfold br_isF; omega)], rfl⟩
  · refine br_aload_n C dX5_isFlight_12 rfl rfl ?_
    refine br_getR C fdX5_13 dX5_isFlight_13 rfl rfl ?_
    refine br_iconstJ C dX5_isFlight_16 ?_
    refine br_iload_n C dX5_isFlight_17 rfl rfl ?_
    refine br_imulJ C dX5_isFlight_18 ?_
    refine br_ialdJ C rfl (by decide) (by omega) (by omega) (y := br_gK g (p)) (by rw [show (3 * ((p : Nat) : Int)).toNat = 3 * p by omega]; exact hK (p) hp) dX5_isFlight_19 ?_
    refine br_iconstJ C dX5_isFlight_20 ?_
    refine br_icmp_neJ C (by omega) (by omega) dX5_isFlight_21 (tgt := 28) (by decide) (fun c21 => ?_) (fun c21 => ?_)
    · refine br_iconstJ C dX5_isFlight_28 ?_
      exact br_zret C (by decide) rfl dX5_isFlight_29 ⟨by first | rw [if_pos (by unfold br_isF; omega)] | rw [if_neg (by unfold br_isF; omega)], rfl⟩
    · refine br_iconstJ C dX5_isFlight_24 ?_
      refine br_goto C dX5_isFlight_25 (tgt := 29) (by decide) ?_
      exact br_zret C (by decide) rfl dX5_isFlight_29 ⟨by first | rw [if_pos (by unfold br_isF; omega)] | rw [if_neg (by unfold br_isF; omega)], rfl⟩

set_option maxHeartbeats 4000000 in
set_option maxRecDepth 100000 in
theorem c_X5_isTurn {σ : br_Wd} {g : br_Gy} (hg : br_GM σ g) (hgo : br_Gok g) (p : Nat) (hp : p < g.1) : br_Met 0 mX5_isTurn [br_r 23, br_i (br_J p)] σ (br_R (br_J (if br_isT g p then 1 else 0)) σ) := by
  have hg0 := hg
  have hgo0 := hgo
  obtain ⟨hgn, hK, hWo, hS⟩ := hg
  have hg7 := hgo.1
  refine br_ofW (by decide) 0 rfl (fun G C => ?_)
  have hgp := hgo.2 p hp
  refine br_aload_n C dX5_isTurn_0 rfl rfl ?_
  refine br_getR C fdX5_13 dX5_isTurn_1 rfl rfl ?_
  refine br_iconstJ C dX5_isTurn_4 ?_
  refine br_iload_n C dX5_isTurn_5 rfl rfl ?_
  refine br_imulJ C dX5_isTurn_6 ?_
  refine br_ialdJ C rfl (by decide) (by omega) (by omega) (y := br_gK g (p)) (by rw [show (3 * ((p : Nat) : Int)).toNat = 3 * p by omega]; exact hK (p) hp) dX5_isTurn_7 ?_
  refine br_iconstJ C dX5_isTurn_8 ?_
  refine br_icmp_neJ C (by omega) (by omega) dX5_isTurn_9 (tgt := 16) (by decide) (fun c9 => ?_) (fun c9 => ?_)
  · refine br_iconstJ C dX5_isTurn_16 ?_
    exact br_zret C (by decide) rfl dX5_isTurn_17 ⟨by first | rw [if_pos (by unfold br_isT; omega)] | rw [if_neg (by unfold br_isT; omega)], rfl⟩
  · refine br_iconstJ C dX5_isTurn_12 ?_
    refine br_goto C dX5_isTurn_13 (tgt := 17) (by decide) ?_
    exact br_zret C (by decide) rfl dX5_isTurn_17 ⟨by first | rw [if_pos (by unfold br_isT; omega)] | rw [if_neg (by unfold br_isT; omega)], rfl⟩

abbrev br_jn (g : br_Gy) (r : br_Ro) (i : Nat) : Prop := i + 1 < r.1 ∧ br_isF g (r.2 i) ∧ (br_isF g (r.2 (i + 1)) ∨ br_isT g (r.2 (i + 1)))

set_option maxHeartbeats 4000000 in
set_option maxRecDepth 100000 in
theorem c_X5_joins {σ : br_Wd} {g : br_Gy} (hg : br_GM σ g) (hgo : br_Gok g) {ra : Nat} (hra : br_shps[ra]? = some (.inl (false, 5))) {r : br_Ro} (hr : br_RM ra σ r) (hro : br_Rok g r) (i : Nat) (hi : i < r.1) : br_Met 1 mX5_joins [br_r 23, br_r ra, br_i (br_J r.1), br_i (br_J i)] σ (br_R (br_J (if br_jn g r i then 1 else 0)) σ) := by
  have hg0 := hg
  have hgo0 := hgo
  obtain ⟨hgn, hK, hWo, hS⟩ := hg
  have hg7 := hgo.1
  have hr0 := hr
  have h5r := hro.1
  refine br_ofW (by decide) 0 rfl (fun G C => ?_)
  refine br_iload_n C dX5_joins_0 rfl rfl ?_
  refine br_iload_n C dX5_joins_1 rfl rfl ?_
  refine br_iconstJ C dX5_joins_2 ?_
  refine br_isubJ C dX5_joins_3 ?_
  refine br_icmp_geJ C (by omega) (by omega) dX5_joins_4 (tgt := 45) (by decide) (fun c4 => ?_) (fun c4 => ?_)
  · refine br_iconstJ C dX5_joins_45 ?_
    exact br_zret C (by decide) rfl dX5_joins_46 ⟨by first | rw [if_pos (show br_jn g r i from ⟨by omega, h11, Or.inl h23⟩)] | rw [if_pos (show br_jn g r i from ⟨by omega, h11, Or.inr h35⟩)] | rw [if_neg (show ¬ br_jn g r i from fun q => absurd q.1 (by omega))] | rw [if_neg (show ¬ br_jn g r i from fun q => h11 q.2.1)] | rw [if_neg (show ¬ br_jn g r i from fun q => q.2.2.elim h23 h35)], rfl⟩
  · refine br_aload_n C dX5_joins_7 rfl rfl ?_
    refine br_aload_n C dX5_joins_8 rfl rfl ?_
    refine br_iload_n C dX5_joins_9 rfl rfl ?_
    refine br_ialdJ C hra (by decide) (by omega) (by omega) (hr i (by omega)) dX5_joins_10 ?_
    refine br_cv1B C vcX5_107 (c_X5_isFlight hg0 hgo0 (r.2 i) (hro.2.1 i hi)) (by decide) rfl rfl (fun _ => Nat.le_of_ble_eq_true rfl) dX5_joins_11 (fun h11 => ?_) (fun h11 => ?_)
    · refine br_if_eq1 C dX5_joins_14 (tgt := 45) (by decide) ?_
      refine br_aload_n C dX5_joins_17 rfl rfl ?_
      refine br_aload_n C dX5_joins_18 rfl rfl ?_
      refine br_iload_n C dX5_joins_19 rfl rfl ?_
      refine br_iconstJ C dX5_joins_20 ?_
      refine br_iaddJ C dX5_joins_21 ?_
      refine br_ialdJ C hra (by decide) (by omega) (by omega) (y := (r.2 (i + 1) : Nat)) (by rw [show ((i : Int) + 1).toNat = i + 1 by omega]; exact hr (i + 1) (by omega)) dX5_joins_22 ?_
      refine br_cv1B C vcX5_107 (c_X5_isFlight hg0 hgo0 (r.2 (i + 1)) (hro.2.1 (i + 1) (by omega))) (by decide) rfl rfl (fun _ => Nat.le_of_ble_eq_true rfl) dX5_joins_23 (fun h23 => ?_) (fun h23 => ?_)
      · refine br_if_ne1 C dX5_joins_26 (tgt := 41) (by decide) ?_
        refine br_iconstJ C dX5_joins_41 ?_
        refine br_goto C dX5_joins_42 (tgt := 46) (by decide) ?_
        exact br_zret C (by decide) rfl dX5_joins_46 ⟨by first | rw [if_pos (show br_jn g r i from ⟨by omega, h11, Or.inl h23⟩)] | rw [if_pos (show br_jn g r i from ⟨by omega, h11, Or.inr h35⟩)] | rw [if_neg (show ¬ br_jn g r i from fun q => absurd q.1 (by omega))] | rw [if_neg (show ¬ br_jn g r i from fun q => h11 q.2.1)] | rw [if_neg (show ¬ br_jn g r i from fun q => q.2.2.elim h23 h35)], rfl⟩
      · refine br_if_ne0 C dX5_joins_26 (tgt := 41) (by decide) ?_
        refine br_aload_n C dX5_joins_29 rfl rfl ?_
        refine br_aload_n C dX5_joins_30 rfl rfl ?_
        refine br_iload_n C dX5_joins_31 rfl rfl ?_
        refine br_iconstJ C dX5_joins_32 ?_
        refine br_iaddJ C dX5_joins_33 ?_
        refine br_ialdJ C hra (by decide) (by omega) (by omega) (y := (r.2 (i + 1) : Nat)) (by rw [show ((i : Int) + 1).toNat = i + 1 by omega]; exact hr (i + 1) (by omega)) dX5_joins_34 ?_
        refine br_cv1B C vcX5_110 (c_X5_isTurn hg0 hgo0 (r.2 (i + 1)) (hro.2.1 (i + 1) (by omega))) (by decide) rfl rfl (fun _ => Nat.le_of_ble_eq_true rfl) dX5_joins_35 (fun h35 => ?_) (fun h35 => ?_)
        · refine br_if_eq1 C dX5_joins_38 (tgt := 45) (by decide) ?_
          refine br_iconstJ C dX5_joins_41 ?_
          refine br_goto C dX5_joins_42 (tgt := 46) (by decide) ?_
          exact br_zret C (by decide) rfl dX5_joins_46 ⟨by first | rw [if_pos (show br_jn g r i from ⟨by omega, h11, Or.inl h23⟩)] | rw [if_pos (show br_jn g r i from ⟨by omega, h11, Or.inr h35⟩)] | rw [if_neg (show ¬ br_jn g r i from fun q => absurd q.1 (by omega))] | rw [if_neg (show ¬ br_jn g r i from fun q => h11 q.2.1)] | rw [if_neg (show ¬ br_jn g r i from fun q => q.2.2.elim h23 h35)], rfl⟩
        · refine br_if_eq0 C dX5_joins_38 (tgt := 45) (by decide) ?_
          refine br_iconstJ C dX5_joins_45 ?_
          exact br_zret C (by decide) rfl dX5_joins_46 ⟨by first | rw [if_pos (show br_jn g r i from ⟨by omega, h11, Or.inl h23⟩)] | rw [if_pos (show br_jn g r i from ⟨by omega, h11, Or.inr h35⟩)] | rw [if_neg (show ¬ br_jn g r i from fun q => absurd q.1 (by omega))] | rw [if_neg (show ¬ br_jn g r i from fun q => h11 q.2.1)] | rw [if_neg (show ¬ br_jn g r i from fun q => q.2.2.elim h23 h35)], rfl⟩
    · refine br_if_eq0 C dX5_joins_14 (tgt := 45) (by decide) ?_
      refine br_iconstJ C dX5_joins_45 ?_
      exact br_zret C (by decide) rfl dX5_joins_46 ⟨by first | rw [if_pos (show br_jn g r i from ⟨by omega, h11, Or.inl h23⟩)] | rw [if_pos (show br_jn g r i from ⟨by omega, h11, Or.inr h35⟩)] | rw [if_neg (show ¬ br_jn g r i from fun q => absurd q.1 (by omega))] | rw [if_neg (show ¬ br_jn g r i from fun q => h11 q.2.1)] | rw [if_neg (show ¬ br_jn g r i from fun q => q.2.2.elim h23 h35)], rfl⟩

set_option maxHeartbeats 4000000 in
set_option maxRecDepth 100000 in
theorem c_X5_scoreOf {σ : br_Wd} {g : br_Gy} (hg : br_GM σ g) (hgo : br_Gok g) {ra : Nat} (hra : br_shps[ra]? = some (.inl (false, 5))) {r : br_Ro} (hr : br_RM ra σ r) (hro : br_Rok g r) (f : Nat) (hf : f < 32) : br_Met 2 mX5_scoreOf [br_r 23, br_r ra, br_i (br_J r.1), br_i (br_J f)] σ (br_R (br_J (br_pt g r f)) σ) := by
  have hg0 := hg
  have hgo0 := hgo
  obtain ⟨hgn, hK, hWo, hS⟩ := hg
  have hg7 := hgo.1
  have hr0 := hr
  have h5r := hro.1
  refine br_ofW (by decide) 6 rfl (fun G C => ?_)
  have loop : ∀ (n i : Nat) (a b5 b6 : Int) (x y : Option br_V), i + n = r.1 → a = br_sum (br_gt g r f) i → b5 = br_sum (fun i => if br_isF g (r.2 i) then 1 else 0) i → b6 = br_sum (fun i => if br_isT g (r.2 i) then 1 else 0) i → G 12 [some (br_r 23), some (br_r ra), some (br_i (br_J r.1)), some (br_i (br_J f)), some (br_i (br_J a)), some (br_i (br_J b5)), some (br_i (br_J b6)), some (br_i (br_J i)), x, y] [] σ := by
    intro n
    induction n with
    | zero =>
      intro i a b5 b6 x y hin ha hb5 hb6
      have hF : 0 ≤ b5 ∧ b5 ≤ 5 := by
        have := br_sum_bnd (f := fun i => if br_isF g (r.2 i) then 1 else 0) (n := i) (a := 0) (b := 1) (fun j _ => by split <;> omega)
        omega
      have hT : 0 ≤ b6 ∧ b6 ≤ 5 := by
        have := br_sum_bnd (f := fun i => if br_isT g (r.2 i) then 1 else 0) (n := i) (a := 0) (b := 1) (fun j _ => by split <;> omega)
        omega
      refine br_iload C dX5_scoreOf_12 rfl ?_
      refine br_iload_n C dX5_scoreOf_14 rfl rfl ?_
      refine br_icmp_geJ C (by omega) (by omega) dX5_scoreOf_15 (tgt := 176) (by decide) (fun c15 => ?_) (fun c15 => ?_)
      · refine br_iload C dX5_scoreOf_176 rfl ?_
        refine br_iload C dX5_scoreOf_178 rfl ?_
        refine br_if_neJ C (by omega) dX5_scoreOf_180 (tgt := 187) (by decide) (fun c180 => ?_) (fun c180 => ?_)
        · refine br_iconstJ C dX5_scoreOf_187 ?_
          refine br_isubJ C dX5_scoreOf_188 ?_
          refine br_iload C dX5_scoreOf_189 rfl ?_
          refine br_if_neJ C (by omega) dX5_scoreOf_191 (tgt := 198) (by decide) (fun c191 => ?_) (fun c191 => ?_)
          · refine br_iconstJ C dX5_scoreOf_198 ?_
            refine br_isubJ C dX5_scoreOf_199 ?_
            exact br_iret C rfl dX5_scoreOf_200 ⟨by
                refine congrArg (fun x => some (br_i (br_J x))) ?_
                unfold br_pt br_pen br_gn
                rw [show br_nF g r = b5 by rw [hb5, show i = r.1 by omega]; rfl, show br_nT g r = b6 by rw [hb6, show i = r.1 by omega]; rfl, show br_sum (br_gt g r f) r.1 = a by rw [ha, show i = r.1 by omega]]
                first
                | (rw [if_pos (by omega), if_pos (by omega)]; omega)
                | (rw [if_pos (by omega), if_neg (by omega)]; omega)
                | (rw [if_neg (by omega), if_pos (by omega)]; omega)
                | (rw [if_neg (by omega), if_neg (by omega)]; omega), rfl⟩
          · refine br_iconstJ C dX5_scoreOf_194 ?_
            refine br_goto C dX5_scoreOf_195 (tgt := 199) (by decide) ?_
            refine br_isubJ C dX5_scoreOf_199 ?_
            exact br_iret C rfl dX5_scoreOf_200 ⟨by
                refine congrArg (fun x => some (br_i (br_J x))) ?_
                unfold br_pt br_pen br_gn
                rw [show br_nF g r = b5 by rw [hb5, show i = r.1 by omega]; rfl, show br_nT g r = b6 by rw [hb6, show i = r.1 by omega]; rfl, show br_sum (br_gt g r f) r.1 = a by rw [ha, show i = r.1 by omega]]
                first
                | (rw [if_pos (by omega), if_pos (by omega)]; omega)
                | (rw [if_pos (by omega), if_neg (by omega)]; omega)
                | (rw [if_neg (by omega), if_pos (by omega)]; omega)
                | (rw [if_neg (by omega), if_neg (by omega)]; omega), rfl⟩
        · refine br_iconstJ C dX5_scoreOf_183 ?_
          refine br_goto C dX5_scoreOf_184 (tgt := 188) (by decide) ?_
          refine br_isubJ C dX5_scoreOf_188 ?_
          refine br_iload C dX5_scoreOf_189 rfl ?_
          refine br_if_neJ C (by omega) dX5_scoreOf_191 (tgt := 198) (by decide) (fun c191 => ?_) (fun c191 => ?_)
          · refine br_iconstJ C dX5_scoreOf_198 ?_
            refine br_isubJ C dX5_scoreOf_199 ?_
            exact br_iret C rfl dX5_scoreOf_200 ⟨by
                refine congrArg (fun x => some (br_i (br_J x))) ?_
                unfold br_pt br_pen br_gn
                rw [show br_nF g r = b5 by rw [hb5, show i = r.1 by omega]; rfl, show br_nT g r = b6 by rw [hb6, show i = r.1 by omega]; rfl, show br_sum (br_gt g r f) r.1 = a by rw [ha, show i = r.1 by omega]]
                first
                | (rw [if_pos (by omega), if_pos (by omega)]; omega)
                | (rw [if_pos (by omega), if_neg (by omega)]; omega)
                | (rw [if_neg (by omega), if_pos (by omega)]; omega)
                | (rw [if_neg (by omega), if_neg (by omega)]; omega), rfl⟩
          · refine br_iconstJ C dX5_scoreOf_194 ?_
            refine br_goto C dX5_scoreOf_195 (tgt := 199) (by decide) ?_
            refine br_isubJ C dX5_scoreOf_199 ?_
            exact br_iret C rfl dX5_scoreOf_200 ⟨by
                refine congrArg (fun x => some (br_i (br_J x))) ?_
                unfold br_pt br_pen br_gn
                rw [show br_nF g r = b5 by rw [hb5, show i = r.1 by omega]; rfl, show br_nT g r = b6 by rw [hb6, show i = r.1 by omega]; rfl, show br_sum (br_gt g r f) r.1 = a by rw [ha, show i = r.1 by omega]]
                first
                | (rw [if_pos (by omega), if_pos (by omega)]; omega)
                | (rw [if_pos (by omega), if_neg (by omega)]; omega)
                | (rw [if_neg (by omega), if_pos (by omega)]; omega)
                | (rw [if_neg (by omega), if_neg (by omega)]; omega), rfl⟩
      · omega
    | succ n ih =>
      intro i a b5 b6 x y hin ha hb5 hb6
      have hi : i < r.1 := by omega
      have hri := hro.2.1 i hi
      have hgp := hgo.2 _ hri
      have K96 : ∀ (c5 c6 b8 b9 : Int), c5 = br_sum (fun i => if br_isF g (r.2 i) then 1 else 0) (i + 1) → c6 = br_sum (fun i => if br_isT g (r.2 i) then 1 else 0) (i + 1) → ((b8 = 1 ∧ br_fl f i) ∨ (b8 = 0 ∧ ¬ br_fl f i)) → ((b9 = 1 ∧ br_fl f (i + 1)) ∨ (b9 = 0 ∧ ¬ br_fl f (i + 1))) → G 96 [some (br_r 23), some (br_r ra), some (br_i (br_J r.1)), some (br_i (br_J f)), some (br_i (br_J a)), some (br_i (br_J c5)), some (br_i (br_J c6)), some (br_i (br_J i)), some (br_i (br_J b8)), some (br_i (br_J b9))] [] σ := by
        intro c5 c6 b8 b9 hc5 hc6 hb8 hb9
        refine br_iload C dX5_scoreOf_96 rfl ?_
        refine br_iload C dX5_scoreOf_98 rfl ?_
        refine br_if_eqJ C (by omega) dX5_scoreOf_100 (tgt := 108) (by decide) (fun c100 => ?_) (fun c100 => ?_)
        · refine br_aload_n C dX5_scoreOf_108 rfl rfl ?_
          refine br_getR C fdX5_13 dX5_scoreOf_109 rfl rfl ?_
          refine br_iconstJ C dX5_scoreOf_112 ?_
          refine br_aload_n C dX5_scoreOf_113 rfl rfl ?_
          refine br_iload C dX5_scoreOf_114 rfl ?_
          refine br_ialdJ C hra (by decide) (by omega) (by omega) (hr i (by omega)) dX5_scoreOf_116 ?_
          refine br_imulJ C dX5_scoreOf_117 ?_
          refine br_iconstJ C dX5_scoreOf_118 ?_
          refine br_iaddJ C dX5_scoreOf_119 ?_
          refine br_ialdJ C rfl (by decide) (by omega) (by omega) (y := br_gW g (r.2 i)) (by rw [show (3 * ((r.2 i : Nat) : Int) + 1).toNat = 3 * r.2 i + 1 by omega]; exact hWo (r.2 i) hri) dX5_scoreOf_120 ?_
          refine br_iaddJ C dX5_scoreOf_121 ?_
          refine br_istore C dX5_scoreOf_122 (by decide) rfl (L' := [_, _, _, _, _, _, _, _, _, _]) rfl ?_
          refine br_aload_n C dX5_scoreOf_124 rfl rfl ?_
          refine br_aload_n C dX5_scoreOf_125 rfl rfl ?_
          refine br_iload_n C dX5_scoreOf_126 rfl rfl ?_
          refine br_iload C dX5_scoreOf_127 rfl ?_
          refine br_cv3B C vcX5_113 (c_X5_joins hg0 hgo0 hra hr0 hro i hi) (by decide) rfl rfl (fun _ => Nat.le_of_ble_eq_true rfl) dX5_scoreOf_129 (fun h129 => ?_) (fun h129 => ?_)
          · refine br_if_eq1 C dX5_scoreOf_132 (tgt := 170) (by decide) ?_
            refine br_iload C dX5_scoreOf_135 rfl ?_
            refine br_if_neJ C (by omega) dX5_scoreOf_137 (tgt := 170) (by decide) (fun c137 => ?_) (fun c137 => ?_)
            · refine br_iincJ C dX5_scoreOf_170 rfl (by decide) rfl (L' := [_, _, _, _, _, _, _, _, _, _]) rfl ?_
              refine br_goto C dX5_scoreOf_173 (tgt := 12) (by decide) ?_
              refine ih (i + 1) _ _ _ _ _ (by omega) ?_ hc5 hc6
              show _ = br_sum _ i + br_gt g r f i
              rw [← ha]
              have ejw : br_jw g r i = (if br_jn g r i then (if br_gK g (r.2 i) = 4 then 3 else 2) else 0) := rfl
              unfold br_gt
              rw [ejw]
              first
                | (rw [if_pos (show br_fl f i by omega), if_neg (fun q => q.1 (show br_fl f i by omega))]; omega)
                | (rw [if_neg (show ¬ br_fl f i by omega), if_neg h129]; split <;> omega)
                | (rw [if_neg (show ¬ br_fl f i by omega), if_neg (fun q => q.2 (show br_fl f (i + 1) by omega))]; omega)
                | (rw [if_neg (show ¬ br_fl f i by omega), if_pos (⟨by omega, by omega⟩ : ¬ br_fl f i ∧ ¬ br_fl f (i + 1)), if_pos h129, if_pos (by omega)]; omega)
                | (rw [if_neg (show ¬ br_fl f i by omega), if_pos (⟨by omega, by omega⟩ : ¬ br_fl f i ∧ ¬ br_fl f (i + 1)), if_pos h129, if_neg (by omega)]; omega)
                | (exfalso; omega)
            · refine br_iload C dX5_scoreOf_140 rfl ?_
              refine br_if_neJ C (by omega) dX5_scoreOf_142 (tgt := 170) (by decide) (fun c142 => ?_) (fun c142 => ?_)
              · refine br_iincJ C dX5_scoreOf_170 rfl (by decide) rfl (L' := [_, _, _, _, _, _, _, _, _, _]) rfl ?_
                refine br_goto C dX5_scoreOf_173 (tgt := 12) (by decide) ?_
                refine ih (i + 1) _ _ _ _ _ (by omega) ?_ hc5 hc6
                show _ = br_sum _ i + br_gt g r f i
                rw [← ha]
                have ejw : br_jw g r i = (if br_jn g r i then (if br_gK g (r.2 i) = 4 then 3 else 2) else 0) := rfl
                unfold br_gt
                rw [ejw]
                first
                  | (rw [if_pos (show br_fl f i by omega), if_neg (fun q => q.1 (show br_fl f i by omega))]; omega)
                  | (rw [if_neg (show ¬ br_fl f i by omega), if_neg h129]; split <;> omega)
                  | (rw [if_neg (show ¬ br_fl f i by omega), if_neg (fun q => q.2 (show br_fl f (i + 1) by omega))]; omega)
                  | (rw [if_neg (show ¬ br_fl f i by omega), if_pos (⟨by omega, by omega⟩ : ¬ br_fl f i ∧ ¬ br_fl f (i + 1)), if_pos h129, if_pos (by omega)]; omega)
                  | (rw [if_neg (show ¬ br_fl f i by omega), if_pos (⟨by omega, by omega⟩ : ¬ br_fl f i ∧ ¬ br_fl f (i + 1)), if_pos h129, if_neg (by omega)]; omega)
                  | (exfalso; omega)
              · refine br_iload C dX5_scoreOf_145 rfl ?_
                refine br_aload_n C dX5_scoreOf_147 rfl rfl ?_
                refine br_getR C fdX5_13 dX5_scoreOf_148 rfl rfl ?_
                refine br_iconstJ C dX5_scoreOf_151 ?_
                refine br_aload_n C dX5_scoreOf_152 rfl rfl ?_
                refine br_iload C dX5_scoreOf_153 rfl ?_
                refine br_ialdJ C hra (by decide) (by omega) (by omega) (hr i (by omega)) dX5_scoreOf_155 ?_
                refine br_imulJ C dX5_scoreOf_156 ?_
                refine br_ialdJ C rfl (by decide) (by omega) (by omega) (y := br_gK g (r.2 i)) (by rw [show (3 * ((r.2 i : Nat) : Int)).toNat = 3 * r.2 i by omega]; exact hK (r.2 i) hri) dX5_scoreOf_157 ?_
                refine br_iconstJ C dX5_scoreOf_158 ?_
                refine br_icmp_neJ C (by omega) (by omega) dX5_scoreOf_159 (tgt := 166) (by decide) (fun c159 => ?_) (fun c159 => ?_)
                · refine br_iconstJ C dX5_scoreOf_166 ?_
                  refine br_iaddJ C dX5_scoreOf_167 ?_
                  refine br_istore C dX5_scoreOf_168 (by decide) rfl (L' := [_, _, _, _, _, _, _, _, _, _]) rfl ?_
                  refine br_iincJ C dX5_scoreOf_170 rfl (by decide) rfl (L' := [_, _, _, _, _, _, _, _, _, _]) rfl ?_
                  refine br_goto C dX5_scoreOf_173 (tgt := 12) (by decide) ?_
                  refine ih (i + 1) _ _ _ _ _ (by omega) ?_ hc5 hc6
                  show _ = br_sum _ i + br_gt g r f i
                  rw [← ha]
                  have ejw : br_jw g r i = (if br_jn g r i then (if br_gK g (r.2 i) = 4 then 3 else 2) else 0) := rfl
                  unfold br_gt
                  rw [ejw]
                  first
                    | (rw [if_pos (show br_fl f i by omega), if_neg (fun q => q.1 (show br_fl f i by omega))]; omega)
                    | (rw [if_neg (show ¬ br_fl f i by omega), if_neg h129]; split <;> omega)
                    | (rw [if_neg (show ¬ br_fl f i by omega), if_neg (fun q => q.2 (show br_fl f (i + 1) by omega))]; omega)
                    | (rw [if_neg (show ¬ br_fl f i by omega), if_pos (⟨by omega, by omega⟩ : ¬ br_fl f i ∧ ¬ br_fl f (i + 1)), if_pos h129, if_pos (by omega)]; omega)
                    | (rw [if_neg (show ¬ br_fl f i by omega), if_pos (⟨by omega, by omega⟩ : ¬ br_fl f i ∧ ¬ br_fl f (i + 1)), if_pos h129, if_neg (by omega)]; omega)
                    | (exfalso; omega)
                · refine br_iconstJ C dX5_scoreOf_162 ?_
                  refine br_goto C dX5_scoreOf_163 (tgt := 167) (by decide) ?_
                  refine br_iaddJ C dX5_scoreOf_167 ?_
                  refine br_istore C dX5_scoreOf_168 (by decide) rfl (L' := [_, _, _, _, _, _, _, _, _, _]) rfl ?_
                  refine br_iincJ C dX5_scoreOf_170 rfl (by decide) rfl (L' := [_, _, _, _, _, _, _, _, _, _]) rfl ?_
                  refine br_goto C dX5_scoreOf_173 (tgt := 12) (by decide) ?_
                  refine ih (i + 1) _ _ _ _ _ (by omega) ?_ hc5 hc6
                  show _ = br_sum _ i + br_gt g r f i
                  rw [← ha]
                  have ejw : br_jw g r i = (if br_jn g r i then (if br_gK g (r.2 i) = 4 then 3 else 2) else 0) := rfl
                  unfold br_gt
                  rw [ejw]
                  first
                    | (rw [if_pos (show br_fl f i by omega), if_neg (fun q => q.1 (show br_fl f i by omega))]; omega)
                    | (rw [if_neg (show ¬ br_fl f i by omega), if_neg h129]; split <;> omega)
                    | (rw [if_neg (show ¬ br_fl f i by omega), if_neg (fun q => q.2 (show br_fl f (i + 1) by omega))]; omega)
                    | (rw [if_neg (show ¬ br_fl f i by omega), if_pos (⟨by omega, by omega⟩ : ¬ br_fl f i ∧ ¬ br_fl f (i + 1)), if_pos h129, if_pos (by omega)]; omega)
                    | (rw [if_neg (show ¬ br_fl f i by omega), if_pos (⟨by omega, by omega⟩ : ¬ br_fl f i ∧ ¬ br_fl f (i + 1)), if_pos h129, if_neg (by omega)]; omega)
                    | (exfalso; omega)
          · refine br_if_eq0 C dX5_scoreOf_132 (tgt := 170) (by decide) ?_
            refine br_iincJ C dX5_scoreOf_170 rfl (by decide) rfl (L' := [_, _, _, _, _, _, _, _, _, _]) rfl ?_
            refine br_goto C dX5_scoreOf_173 (tgt := 12) (by decide) ?_
            refine ih (i + 1) _ _ _ _ _ (by omega) ?_ hc5 hc6
            show _ = br_sum _ i + br_gt g r f i
            rw [← ha]
            have ejw : br_jw g r i = (if br_jn g r i then (if br_gK g (r.2 i) = 4 then 3 else 2) else 0) := rfl
            unfold br_gt
            rw [ejw]
            first
              | (rw [if_pos (show br_fl f i by omega), if_neg (fun q => q.1 (show br_fl f i by omega))]; omega)
              | (rw [if_neg (show ¬ br_fl f i by omega), if_neg h129]; split <;> omega)
              | (rw [if_neg (show ¬ br_fl f i by omega), if_neg (fun q => q.2 (show br_fl f (i + 1) by omega))]; omega)
              | (rw [if_neg (show ¬ br_fl f i by omega), if_pos (⟨by omega, by omega⟩ : ¬ br_fl f i ∧ ¬ br_fl f (i + 1)), if_pos h129, if_pos (by omega)]; omega)
              | (rw [if_neg (show ¬ br_fl f i by omega), if_pos (⟨by omega, by omega⟩ : ¬ br_fl f i ∧ ¬ br_fl f (i + 1)), if_pos h129, if_neg (by omega)]; omega)
              | (exfalso; omega)
        · refine br_bipushJ C (by decide) dX5_scoreOf_103 ?_
          refine br_goto C dX5_scoreOf_105 (tgt := 121) (by decide) ?_
          refine br_iaddJ C dX5_scoreOf_121 ?_
          refine br_istore C dX5_scoreOf_122 (by decide) rfl (L' := [_, _, _, _, _, _, _, _, _, _]) rfl ?_
          refine br_aload_n C dX5_scoreOf_124 rfl rfl ?_
          refine br_aload_n C dX5_scoreOf_125 rfl rfl ?_
          refine br_iload_n C dX5_scoreOf_126 rfl rfl ?_
          refine br_iload C dX5_scoreOf_127 rfl ?_
          refine br_cv3B C vcX5_113 (c_X5_joins hg0 hgo0 hra hr0 hro i hi) (by decide) rfl rfl (fun _ => Nat.le_of_ble_eq_true rfl) dX5_scoreOf_129 (fun h129 => ?_) (fun h129 => ?_)
          · refine br_if_eq1 C dX5_scoreOf_132 (tgt := 170) (by decide) ?_
            refine br_iload C dX5_scoreOf_135 rfl ?_
            refine br_if_neJ C (by omega) dX5_scoreOf_137 (tgt := 170) (by decide) (fun c137 => ?_) (fun c137 => ?_)
            · refine br_iincJ C dX5_scoreOf_170 rfl (by decide) rfl (L' := [_, _, _, _, _, _, _, _, _, _]) rfl ?_
              refine br_goto C dX5_scoreOf_173 (tgt := 12) (by decide) ?_
              refine ih (i + 1) _ _ _ _ _ (by omega) ?_ hc5 hc6
              show _ = br_sum _ i + br_gt g r f i
              rw [← ha]
              have ejw : br_jw g r i = (if br_jn g r i then (if br_gK g (r.2 i) = 4 then 3 else 2) else 0) := rfl
              unfold br_gt
              rw [ejw]
              first
                | (rw [if_pos (show br_fl f i by omega), if_neg (fun q => q.1 (show br_fl f i by omega))]; omega)
                | (rw [if_neg (show ¬ br_fl f i by omega), if_neg h129]; split <;> omega)
                | (rw [if_neg (show ¬ br_fl f i by omega), if_neg (fun q => q.2 (show br_fl f (i + 1) by omega))]; omega)
                | (rw [if_neg (show ¬ br_fl f i by omega), if_pos (⟨by omega, by omega⟩ : ¬ br_fl f i ∧ ¬ br_fl f (i + 1)), if_pos h129, if_pos (by omega)]; omega)
                | (rw [if_neg (show ¬ br_fl f i by omega), if_pos (⟨by omega, by omega⟩ : ¬ br_fl f i ∧ ¬ br_fl f (i + 1)), if_pos h129, if_neg (by omega)]; omega)
                | (exfalso; omega)
            · refine br_iload C dX5_scoreOf_140 rfl ?_
              refine br_if_neJ C (by omega) dX5_scoreOf_142 (tgt := 170) (by decide) (fun c142 => ?_) (fun c142 => ?_)
              · refine br_iincJ C dX5_scoreOf_170 rfl (by decide) rfl (L' := [_, _, _, _, _, _, _, _, _, _]) rfl ?_
                refine br_goto C dX5_scoreOf_173 (tgt := 12) (by decide) ?_
                refine ih (i + 1) _ _ _ _ _ (by omega) ?_ hc5 hc6
                show _ = br_sum _ i + br_gt g r f i
                rw [← ha]
                have ejw : br_jw g r i = (if br_jn g r i then (if br_gK g (r.2 i) = 4 then 3 else 2) else 0) := rfl
                unfold br_gt
                rw [ejw]
                first
                  | (rw [if_pos (show br_fl f i by omega), if_neg (fun q => q.1 (show br_fl f i by omega))]; omega)
                  | (rw [if_neg (show ¬ br_fl f i by omega), if_neg h129]; split <;> omega)
                  | (rw [if_neg (show ¬ br_fl f i by omega), if_neg (fun q => q.2 (show br_fl f (i + 1) by omega))]; omega)
                  | (rw [if_neg (show ¬ br_fl f i by omega), if_pos (⟨by omega, by omega⟩ : ¬ br_fl f i ∧ ¬ br_fl f (i + 1)), if_pos h129, if_pos (by omega)]; omega)
                  | (rw [if_neg (show ¬ br_fl f i by omega), if_pos (⟨by omega, by omega⟩ : ¬ br_fl f i ∧ ¬ br_fl f (i + 1)), if_pos h129, if_neg (by omega)]; omega)
                  | (exfalso; omega)
              · refine br_iload C dX5_scoreOf_145 rfl ?_
                refine br_aload_n C dX5_scoreOf_147 rfl rfl ?_
                refine br_getR C fdX5_13 dX5_scoreOf_148 rfl rfl ?_
                refine br_iconstJ C dX5_scoreOf_151 ?_
                refine br_aload_n C dX5_scoreOf_152 rfl rfl ?_
                refine br_iload C dX5_scoreOf_153 rfl ?_
                refine br_ialdJ C hra (by decide) (by omega) (by omega) (hr i (by omega)) dX5_scoreOf_155 ?_
                refine br_imulJ C dX5_scoreOf_156 ?_
                refine br_ialdJ C rfl (by decide) (by omega) (by omega) (y := br_gK g (r.2 i)) (by rw [show (3 * ((r.2 i : Nat) : Int)).toNat = 3 * r.2 i by omega]; exact hK (r.2 i) hri) dX5_scoreOf_157 ?_
                refine br_iconstJ C dX5_scoreOf_158 ?_
                refine br_icmp_neJ C (by omega) (by omega) dX5_scoreOf_159 (tgt := 166) (by decide) (fun c159 => ?_) (fun c159 => ?_)
                · refine br_iconstJ C dX5_scoreOf_166 ?_
                  refine br_iaddJ C dX5_scoreOf_167 ?_
                  refine br_istore C dX5_scoreOf_168 (by decide) rfl (L' := [_, _, _, _, _, _, _, _, _, _]) rfl ?_
                  refine br_iincJ C dX5_scoreOf_170 rfl (by decide) rfl (L' := [_, _, _, _, _, _, _, _, _, _]) rfl ?_
                  refine br_goto C dX5_scoreOf_173 (tgt := 12) (by decide) ?_
                  refine ih (i + 1) _ _ _ _ _ (by omega) ?_ hc5 hc6
                  show _ = br_sum _ i + br_gt g r f i
                  rw [← ha]
                  have ejw : br_jw g r i = (if br_jn g r i then (if br_gK g (r.2 i) = 4 then 3 else 2) else 0) := rfl
                  unfold br_gt
                  rw [ejw]
                  first
                    | (rw [if_pos (show br_fl f i by omega), if_neg (fun q => q.1 (show br_fl f i by omega))]; omega)
                    | (rw [if_neg (show ¬ br_fl f i by omega), if_neg h129]; split <;> omega)
                    | (rw [if_neg (show ¬ br_fl f i by omega), if_neg (fun q => q.2 (show br_fl f (i + 1) by omega))]; omega)
                    | (rw [if_neg (show ¬ br_fl f i by omega), if_pos (⟨by omega, by omega⟩ : ¬ br_fl f i ∧ ¬ br_fl f (i + 1)), if_pos h129, if_pos (by omega)]; omega)
                    | (rw [if_neg (show ¬ br_fl f i by omega), if_pos (⟨by omega, by omega⟩ : ¬ br_fl f i ∧ ¬ br_fl f (i + 1)), if_pos h129, if_neg (by omega)]; omega)
                    | (exfalso; omega)
                · refine br_iconstJ C dX5_scoreOf_162 ?_
                  refine br_goto C dX5_scoreOf_163 (tgt := 167) (by decide) ?_
                  refine br_iaddJ C dX5_scoreOf_167 ?_
                  refine br_istore C dX5_scoreOf_168 (by decide) rfl (L' := [_, _, _, _, _, _, _, _, _, _]) rfl ?_
                  refine br_iincJ C dX5_scoreOf_170 rfl (by decide) rfl (L' := [_, _, _, _, _, _, _, _, _, _]) rfl ?_
                  refine br_goto C dX5_scoreOf_173 (tgt := 12) (by decide) ?_
                  refine ih (i + 1) _ _ _ _ _ (by omega) ?_ hc5 hc6
                  show _ = br_sum _ i + br_gt g r f i
                  rw [← ha]
                  have ejw : br_jw g r i = (if br_jn g r i then (if br_gK g (r.2 i) = 4 then 3 else 2) else 0) := rfl
                  unfold br_gt
                  rw [ejw]
                  first
                    | (rw [if_pos (show br_fl f i by omega), if_neg (fun q => q.1 (show br_fl f i by omega))]; omega)
                    | (rw [if_neg (show ¬ br_fl f i by omega), if_neg h129]; split <;> omega)
                    | (rw [if_neg (show ¬ br_fl f i by omega), if_neg (fun q => q.2 (show br_fl f (i + 1) by omega))]; omega)
                    | (rw [if_neg (show ¬ br_fl f i by omega), if_pos (⟨by omega, by omega⟩ : ¬ br_fl f i ∧ ¬ br_fl f (i + 1)), if_pos h129, if_pos (by omega)]; omega)
                    | (rw [if_neg (show ¬ br_fl f i by omega), if_pos (⟨by omega, by omega⟩ : ¬ br_fl f i ∧ ¬ br_fl f (i + 1)), if_pos h129, if_neg (by omega)]; omega)
                    | (exfalso; omega)
          · refine br_if_eq0 C dX5_scoreOf_132 (tgt := 170) (by decide) ?_
            refine br_iincJ C dX5_scoreOf_170 rfl (by decide) rfl (L' := [_, _, _, _, _, _, _, _, _, _]) rfl ?_
            refine br_goto C dX5_scoreOf_173 (tgt := 12) (by decide) ?_
            refine ih (i + 1) _ _ _ _ _ (by omega) ?_ hc5 hc6
            show _ = br_sum _ i + br_gt g r f i
            rw [← ha]
            have ejw : br_jw g r i = (if br_jn g r i then (if br_gK g (r.2 i) = 4 then 3 else 2) else 0) := rfl
            unfold br_gt
            rw [ejw]
            first
              | (rw [if_pos (show br_fl f i by omega), if_neg (fun q => q.1 (show br_fl f i by omega))]; omega)
              | (rw [if_neg (show ¬ br_fl f i by omega), if_neg h129]; split <;> omega)
              | (rw [if_neg (show ¬ br_fl f i by omega), if_neg (fun q => q.2 (show br_fl f (i + 1) by omega))]; omega)
              | (rw [if_neg (show ¬ br_fl f i by omega), if_pos (⟨by omega, by omega⟩ : ¬ br_fl f i ∧ ¬ br_fl f (i + 1)), if_pos h129, if_pos (by omega)]; omega)
              | (rw [if_neg (show ¬ br_fl f i by omega), if_pos (⟨by omega, by omega⟩ : ¬ br_fl f i ∧ ¬ br_fl f (i + 1)), if_pos h129, if_neg (by omega)]; omega)
              | (exfalso; omega)
      have K54 : ∀ (b8 b9 : Int), ((b8 = 1 ∧ br_fl f i) ∨ (b8 = 0 ∧ ¬ br_fl f i)) → ((b9 = 1 ∧ br_fl f (i + 1)) ∨ (b9 = 0 ∧ ¬ br_fl f (i + 1))) → G 54 [some (br_r 23), some (br_r ra), some (br_i (br_J r.1)), some (br_i (br_J f)), some (br_i (br_J a)), some (br_i (br_J b5)), some (br_i (br_J b6)), some (br_i (br_J i)), some (br_i (br_J b8)), some (br_i (br_J b9))] [] σ := by
        intro b8 b9 hb8 hb9
        refine br_iload C dX5_scoreOf_54 rfl ?_
        refine br_aload_n C dX5_scoreOf_56 rfl rfl ?_
        refine br_aload_n C dX5_scoreOf_57 rfl rfl ?_
        refine br_iload C dX5_scoreOf_58 rfl ?_
        refine br_ialdJ C hra (by decide) (by omega) (by omega) (hr i (by omega)) dX5_scoreOf_60 ?_
        refine br_cv1B C vcX5_107 (c_X5_isFlight hg0 hgo0 (r.2 i) hri) (by decide) rfl rfl (fun _ => Nat.le_of_ble_eq_true rfl) dX5_scoreOf_61 (fun h61 => ?_) (fun h61 => ?_)
        · refine br_if_eq1 C dX5_scoreOf_64 (tgt := 71) (by decide) ?_
          refine br_iconstJ C dX5_scoreOf_67 ?_
          refine br_goto C dX5_scoreOf_68 (tgt := 72) (by decide) ?_
          refine br_iaddJ C dX5_scoreOf_72 ?_
          refine br_istore C dX5_scoreOf_73 (by decide) rfl (L' := [_, _, _, _, _, _, _, _, _, _]) rfl ?_
          refine br_iload C dX5_scoreOf_75 rfl ?_
          refine br_aload_n C dX5_scoreOf_77 rfl rfl ?_
          refine br_aload_n C dX5_scoreOf_78 rfl rfl ?_
          refine br_iload C dX5_scoreOf_79 rfl ?_
          refine br_ialdJ C hra (by decide) (by omega) (by omega) (hr i (by omega)) dX5_scoreOf_81 ?_
          refine br_cv1B C vcX5_110 (c_X5_isTurn hg0 hgo0 (r.2 i) hri) (by decide) rfl rfl (fun _ => Nat.le_of_ble_eq_true rfl) dX5_scoreOf_82 (fun h82 => ?_) (fun h82 => ?_)
          · refine br_if_eq1 C dX5_scoreOf_85 (tgt := 92) (by decide) ?_
            refine br_iconstJ C dX5_scoreOf_88 ?_
            refine br_goto C dX5_scoreOf_89 (tgt := 93) (by decide) ?_
            refine br_iaddJ C dX5_scoreOf_93 ?_
            refine br_istore C dX5_scoreOf_94 (by decide) rfl (L' := [_, _, _, _, _, _, _, _, _, _]) rfl ?_
            exact K96 _ _ b8 b9 (by show _ = br_sum _ i + (if br_isF g (r.2 i) then 1 else 0); rw [← hb5]; first | rw [if_pos h61] | rw [if_neg h61]) (by show _ = br_sum _ i + (if br_isT g (r.2 i) then 1 else 0); rw [← hb6]; first | rw [if_pos h82] | rw [if_neg h82]) hb8 hb9
          · refine br_if_eq0 C dX5_scoreOf_85 (tgt := 92) (by decide) ?_
            refine br_iconstJ C dX5_scoreOf_92 ?_
            refine br_iaddJ C dX5_scoreOf_93 ?_
            refine br_istore C dX5_scoreOf_94 (by decide) rfl (L' := [_, _, _, _, _, _, _, _, _, _]) rfl ?_
            exact K96 _ _ b8 b9 (by show _ = br_sum _ i + (if br_isF g (r.2 i) then 1 else 0); rw [← hb5]; first | rw [if_pos h61] | rw [if_neg h61]) (by show _ = br_sum _ i + (if br_isT g (r.2 i) then 1 else 0); rw [← hb6]; first | rw [if_pos h82] | rw [if_neg h82]) hb8 hb9
        · refine br_if_eq0 C dX5_scoreOf_64 (tgt := 71) (by decide) ?_
          refine br_iconstJ C dX5_scoreOf_71 ?_
          refine br_iaddJ C dX5_scoreOf_72 ?_
          refine br_istore C dX5_scoreOf_73 (by decide) rfl (L' := [_, _, _, _, _, _, _, _, _, _]) rfl ?_
          refine br_iload C dX5_scoreOf_75 rfl ?_
          refine br_aload_n C dX5_scoreOf_77 rfl rfl ?_
          refine br_aload_n C dX5_scoreOf_78 rfl rfl ?_
          refine br_iload C dX5_scoreOf_79 rfl ?_
          refine br_ialdJ C hra (by decide) (by omega) (by omega) (hr i (by omega)) dX5_scoreOf_81 ?_
          refine br_cv1B C vcX5_110 (c_X5_isTurn hg0 hgo0 (r.2 i) hri) (by decide) rfl rfl (fun _ => Nat.le_of_ble_eq_true rfl) dX5_scoreOf_82 (fun h82 => ?_) (fun h82 => ?_)
          · refine br_if_eq1 C dX5_scoreOf_85 (tgt := 92) (by decide) ?_
            refine br_iconstJ C dX5_scoreOf_88 ?_
            refine br_goto C dX5_scoreOf_89 (tgt := 93) (by decide) ?_
            refine br_iaddJ C dX5_scoreOf_93 ?_
            refine br_istore C dX5_scoreOf_94 (by decide) rfl (L' := [_, _, _, _, _, _, _, _, _, _]) rfl ?_
            exact K96 _ _ b8 b9 (by show _ = br_sum _ i + (if br_isF g (r.2 i) then 1 else 0); rw [← hb5]; first | rw [if_pos h61] | rw [if_neg h61]) (by show _ = br_sum _ i + (if br_isT g (r.2 i) then 1 else 0); rw [← hb6]; first | rw [if_pos h82] | rw [if_neg h82]) hb8 hb9
          · refine br_if_eq0 C dX5_scoreOf_85 (tgt := 92) (by decide) ?_
            refine br_iconstJ C dX5_scoreOf_92 ?_
            refine br_iaddJ C dX5_scoreOf_93 ?_
            refine br_istore C dX5_scoreOf_94 (by decide) rfl (L' := [_, _, _, _, _, _, _, _, _, _]) rfl ?_
            exact K96 _ _ b8 b9 (by show _ = br_sum _ i + (if br_isF g (r.2 i) then 1 else 0); rw [← hb5]; first | rw [if_pos h61] | rw [if_neg h61]) (by show _ = br_sum _ i + (if br_isT g (r.2 i) then 1 else 0); rw [← hb6]; first | rw [if_pos h82] | rw [if_neg h82]) hb8 hb9
      refine br_iload C dX5_scoreOf_12 rfl ?_
      refine br_iload_n C dX5_scoreOf_14 rfl rfl ?_
      refine br_icmp_geJ C (by omega) (by omega) dX5_scoreOf_15 (tgt := 176) (by decide) (fun c15 => ?_) (fun c15 => ?_)
      · omega
      · refine br_iload_n C dX5_scoreOf_18 rfl rfl ?_
        refine br_iload C dX5_scoreOf_19 rfl ?_
        refine br_ishrE C (br_shr hf (by omega)) dX5_scoreOf_21 ?_
        refine br_iconstJ C dX5_scoreOf_22 ?_
        refine br_iandE C (br_and1 (br_shr_lt hf)) dX5_scoreOf_23 ?_
        refine br_iconstJ C dX5_scoreOf_24 ?_
        refine br_icmp_neJ C (by omega) (by omega) dX5_scoreOf_25 (tgt := 32) (by decide) (fun c25 => ?_) (fun c25 => ?_)
        · refine br_iconstJ C dX5_scoreOf_32 ?_
          refine br_istore C dX5_scoreOf_33 (by decide) rfl (L' := [_, _, _, _, _, _, _, _, _, _]) rfl ?_
          refine br_iload_n C dX5_scoreOf_35 rfl rfl ?_
          refine br_iload C dX5_scoreOf_36 rfl ?_
          refine br_iconstJ C dX5_scoreOf_38 ?_
          refine br_iaddJ C dX5_scoreOf_39 ?_
          refine br_ishrE C (br_shr hf (show i + 1 < 6 by omega)) dX5_scoreOf_40 ?_
          refine br_iconstJ C dX5_scoreOf_41 ?_
          refine br_iandE C (br_and1 (br_shr_lt hf)) dX5_scoreOf_42 ?_
          refine br_iconstJ C dX5_scoreOf_43 ?_
          refine br_icmp_neJ C (by omega) (by omega) dX5_scoreOf_44 (tgt := 51) (by decide) (fun c44 => ?_) (fun c44 => ?_)
          · refine br_iconstJ C dX5_scoreOf_51 ?_
            refine br_istore C dX5_scoreOf_52 (by decide) rfl (L' := [_, _, _, _, _, _, _, _, _, _]) rfl ?_
            first
              | exact K54 1 1 (Or.inl ⟨rfl, Int.ofNat.inj c25⟩) (Or.inl ⟨rfl, Int.ofNat.inj c44⟩)
              | exact K54 1 0 (Or.inl ⟨rfl, Int.ofNat.inj c25⟩) (Or.inr ⟨rfl, fun q => c44 (congrArg Int.ofNat q)⟩)
              | exact K54 0 1 (Or.inr ⟨rfl, fun q => c25 (congrArg Int.ofNat q)⟩) (Or.inl ⟨rfl, Int.ofNat.inj c44⟩)
              | exact K54 0 0 (Or.inr ⟨rfl, fun q => c25 (congrArg Int.ofNat q)⟩) (Or.inr ⟨rfl, fun q => c44 (congrArg Int.ofNat q)⟩)
          · refine br_iconstJ C dX5_scoreOf_47 ?_
            refine br_goto C dX5_scoreOf_48 (tgt := 52) (by decide) ?_
            refine br_istore C dX5_scoreOf_52 (by decide) rfl (L' := [_, _, _, _, _, _, _, _, _, _]) rfl ?_
            first
              | exact K54 1 1 (Or.inl ⟨rfl, Int.ofNat.inj c25⟩) (Or.inl ⟨rfl, Int.ofNat.inj c44⟩)
              | exact K54 1 0 (Or.inl ⟨rfl, Int.ofNat.inj c25⟩) (Or.inr ⟨rfl, fun q => c44 (congrArg Int.ofNat q)⟩)
              | exact K54 0 1 (Or.inr ⟨rfl, fun q => c25 (congrArg Int.ofNat q)⟩) (Or.inl ⟨rfl, Int.ofNat.inj c44⟩)
              | exact K54 0 0 (Or.inr ⟨rfl, fun q => c25 (congrArg Int.ofNat q)⟩) (Or.inr ⟨rfl, fun q => c44 (congrArg Int.ofNat q)⟩)
        · refine br_iconstJ C dX5_scoreOf_28 ?_
          refine br_goto C dX5_scoreOf_29 (tgt := 33) (by decide) ?_
          refine br_istore C dX5_scoreOf_33 (by decide) rfl (L' := [_, _, _, _, _, _, _, _, _, _]) rfl ?_
          refine br_iload_n C dX5_scoreOf_35 rfl rfl ?_
          refine br_iload C dX5_scoreOf_36 rfl ?_
          refine br_iconstJ C dX5_scoreOf_38 ?_
          refine br_iaddJ C dX5_scoreOf_39 ?_
          refine br_ishrE C (br_shr hf (show i + 1 < 6 by omega)) dX5_scoreOf_40 ?_
          refine br_iconstJ C dX5_scoreOf_41 ?_
          refine br_iandE C (br_and1 (br_shr_lt hf)) dX5_scoreOf_42 ?_
          refine br_iconstJ C dX5_scoreOf_43 ?_
          refine br_icmp_neJ C (by omega) (by omega) dX5_scoreOf_44 (tgt := 51) (by decide) (fun c44 => ?_) (fun c44 => ?_)
          · refine br_iconstJ C dX5_scoreOf_51 ?_
            refine br_istore C dX5_scoreOf_52 (by decide) rfl (L' := [_, _, _, _, _, _, _, _, _, _]) rfl ?_
            first
              | exact K54 1 1 (Or.inl ⟨rfl, Int.ofNat.inj c25⟩) (Or.inl ⟨rfl, Int.ofNat.inj c44⟩)
              | exact K54 1 0 (Or.inl ⟨rfl, Int.ofNat.inj c25⟩) (Or.inr ⟨rfl, fun q => c44 (congrArg Int.ofNat q)⟩)
              | exact K54 0 1 (Or.inr ⟨rfl, fun q => c25 (congrArg Int.ofNat q)⟩) (Or.inl ⟨rfl, Int.ofNat.inj c44⟩)
              | exact K54 0 0 (Or.inr ⟨rfl, fun q => c25 (congrArg Int.ofNat q)⟩) (Or.inr ⟨rfl, fun q => c44 (congrArg Int.ofNat q)⟩)
          · refine br_iconstJ C dX5_scoreOf_47 ?_
            refine br_goto C dX5_scoreOf_48 (tgt := 52) (by decide) ?_
            refine br_istore C dX5_scoreOf_52 (by decide) rfl (L' := [_, _, _, _, _, _, _, _, _, _]) rfl ?_
            first
              | exact K54 1 1 (Or.inl ⟨rfl, Int.ofNat.inj c25⟩) (Or.inl ⟨rfl, Int.ofNat.inj c44⟩)
              | exact K54 1 0 (Or.inl ⟨rfl, Int.ofNat.inj c25⟩) (Or.inr ⟨rfl, fun q => c44 (congrArg Int.ofNat q)⟩)
              | exact K54 0 1 (Or.inr ⟨rfl, fun q => c25 (congrArg Int.ofNat q)⟩) (Or.inl ⟨rfl, Int.ofNat.inj c44⟩)
              | exact K54 0 0 (Or.inr ⟨rfl, fun q => c25 (congrArg Int.ofNat q)⟩) (Or.inr ⟨rfl, fun q => c44 (congrArg Int.ofNat q)⟩)
  refine br_iconstJ C dX5_scoreOf_0 ?_
  refine br_istore C dX5_scoreOf_1 (by decide) rfl (L' := [_, _, _, _, _, _, _, _, _, _]) rfl ?_
  refine br_iconstJ C dX5_scoreOf_3 ?_
  refine br_istore C dX5_scoreOf_4 (by decide) rfl (L' := [_, _, _, _, _, _, _, _, _, _]) rfl ?_
  refine br_iconstJ C dX5_scoreOf_6 ?_
  refine br_istore C dX5_scoreOf_7 (by decide) rfl (L' := [_, _, _, _, _, _, _, _, _, _]) rfl ?_
  refine br_iconstJ C dX5_scoreOf_9 ?_
  refine br_istore C dX5_scoreOf_10 (by decide) rfl (L' := [_, _, _, _, _, _, _, _, _, _]) rfl ?_
  exact loop r.1 0 0 0 0 _ _ (by omega) rfl rfl rfl

set_option maxHeartbeats 4000000 in
set_option maxRecDepth 100000 in
theorem c_X5_waysOf {σ : br_Wd} {g : br_Gy} (hg : br_GM σ g) (hgo : br_Gok g) {ra : Nat} (hra : br_shps[ra]? = some (.inl (false, 5))) {r : br_Ro} (hr : br_RM ra σ r) (hro : br_Rok g r) (f : Nat) (hf : f < 32) : br_Met 2 mX5_waysOf [br_r 23, br_r ra, br_i (br_J r.1), br_i (br_J f)] σ (br_R (br_J (br_wy g r f)) σ) := by
  have hg0 := hg
  have hgo0 := hgo
  obtain ⟨hgn, hK, hWo, hS⟩ := hg
  have hg7 := hgo.1
  have hr0 := hr
  have h5r := hro.1
  refine br_ofW (by decide) 3 rfl (fun G C => ?_)
  have loop : ∀ (n i : Nat) (a : Int) (x : Option br_V), i + n = r.1 → a = br_prod (br_wt g r f) i → G 6 [some (br_r 23), some (br_r ra), some (br_i (br_J r.1)), some (br_i (br_J f)), some (br_i (br_J a)), some (br_i (br_J i)), x] [] σ := by
    intro n
    induction n with
    | zero =>
      intro i a x hin ha
      have ei : i = r.1 := by omega
      subst ei
      refine br_iload C dX5_waysOf_6 rfl ?_
      refine br_iload_n C dX5_waysOf_8 rfl rfl ?_
      refine br_icmp_geJ C (by omega) (by omega) dX5_waysOf_9 (tgt := 55) (by decide) (fun c9 => ?_) (fun c9 => ?_)
      · refine br_iload C dX5_waysOf_55 rfl ?_
        exact br_iret C rfl dX5_waysOf_57 ⟨by rw [ha]; rfl, rfl⟩
      · omega
    | succ n ih =>
      intro i a x hin ha
      have hi : i < r.1 := by omega
      refine br_iload C dX5_waysOf_6 rfl ?_
      refine br_iload_n C dX5_waysOf_8 rfl rfl ?_
      refine br_icmp_geJ C (by omega) (by omega) dX5_waysOf_9 (tgt := 55) (by decide) (fun c9 => ?_) (fun c9 => ?_)
      · omega
      · have hri := hro.2.1 i hi
        have hcr : br_cr g r i = br_ch (br_gK g (r.2 i)) (br_gS g (r.2 i)) i := if_pos hi
        refine br_aload_n C dX5_waysOf_12 rfl rfl ?_
        refine br_aload_n C dX5_waysOf_13 rfl rfl ?_
        refine br_iload C dX5_waysOf_14 rfl ?_
        refine br_ialdJ C hra (by decide) (by omega) (by omega) (hr i (by omega)) dX5_waysOf_16 ?_
        refine br_iload C dX5_waysOf_17 rfl ?_
        refine br_cv2R C vcX5_85 (c_X5_tenthsOf hg0 hgo0 (r.2 i) hri i (by omega)) (by decide) rfl rfl (fun _ => Nat.le_of_ble_eq_true rfl) dX5_waysOf_19 ?_
        refine br_istore C dX5_waysOf_22 (by decide) rfl (L' := [_, _, _, _, _, _, _]) rfl ?_
        refine br_iload C dX5_waysOf_24 rfl ?_
        refine br_iload_n C dX5_waysOf_26 rfl rfl ?_
        refine br_iload C dX5_waysOf_27 rfl ?_
        refine br_ishrE C (br_shr hf (by omega)) dX5_waysOf_29 ?_
        refine br_iconstJ C dX5_waysOf_30 ?_
        refine br_iandE C (br_and1 (br_shr_lt hf)) dX5_waysOf_31 ?_
        refine br_iconstJ C dX5_waysOf_32 ?_
        refine br_icmp_neJ C (by omega) (by omega) dX5_waysOf_33 (tgt := 44) (by decide) (fun c33 => ?_) (fun c33 => ?_)
        · refine br_iload C dX5_waysOf_44 rfl ?_
          refine br_imulJ C dX5_waysOf_46 ?_
          refine br_istore C dX5_waysOf_47 (by decide) rfl (L' := [_, _, _, _, _, _, _]) rfl ?_
          refine br_iincJ C dX5_waysOf_49 rfl (by decide) rfl (L' := [_, _, _, _, _, _, _]) rfl ?_
          refine br_goto C dX5_waysOf_52 (tgt := 6) (by decide) ?_
          exact ih (i + 1) _ _ (by omega) (by show _ = br_prod _ i * br_wt g r f i; rw [← ha]; unfold br_wt; rw [hcr]; first | rw [if_pos (by omega)] | rw [if_neg (by omega)])
        · refine br_bipushJ C (by decide) dX5_waysOf_36 ?_
          refine br_iload C dX5_waysOf_38 rfl ?_
          refine br_isubJ C dX5_waysOf_40 ?_
          refine br_goto C dX5_waysOf_41 (tgt := 46) (by decide) ?_
          refine br_imulJ C dX5_waysOf_46 ?_
          refine br_istore C dX5_waysOf_47 (by decide) rfl (L' := [_, _, _, _, _, _, _]) rfl ?_
          refine br_iincJ C dX5_waysOf_49 rfl (by decide) rfl (L' := [_, _, _, _, _, _, _]) rfl ?_
          refine br_goto C dX5_waysOf_52 (tgt := 6) (by decide) ?_
          exact ih (i + 1) _ _ (by omega) (by show _ = br_prod _ i * br_wt g r f i; rw [← ha]; unfold br_wt; rw [hcr]; first | rw [if_pos (by omega)] | rw [if_neg (by omega)])
  refine br_iconstJ C dX5_waysOf_0 ?_
  refine br_istore C dX5_waysOf_1 (by decide) rfl (L' := [_, _, _, _, _, _, _]) rfl ?_
  refine br_iconstJ C dX5_waysOf_3 ?_
  refine br_istore C dX5_waysOf_4 (by decide) rfl (L' := [_, _, _, _, _, _, _]) rfl ?_
  exact loop r.1 0 1 _ (by omega) rfl

set_option maxHeartbeats 4000000 in
set_option maxRecDepth 100000 in
theorem c_X5_powerOf {σ : br_Wd} (k : Nat) (hk : k ≤ 5) : br_Met 0 mX5_powerOf [br_i (br_J k)] σ (br_R (br_J ((10 : Int) ^ k)) σ) := by
  refine br_ofW (by decide) 2 rfl (fun G C => ?_)
  have loop : ∀ (n i : Nat) (a : Int), i + n = k → a = HPow.hPow (10 : Int) i → G 4 [some (br_i (br_J k)), some (br_i (br_J a)), some (br_i (br_J i))] [] σ := by
    intro n
    induction n with
    | zero =>
      intro i a hin ha
      have ei : i = k := by omega
      subst ei
      refine br_iload_n C dX5_powerOf_4 rfl rfl ?_
      refine br_iload_n C dX5_powerOf_5 rfl rfl ?_
      refine br_icmp_geJ C (by omega) (by omega) dX5_powerOf_6 (tgt := 20) (by decide) (fun c6 => ?_) (fun c6 => ?_)
      · refine br_iload_n C dX5_powerOf_20 rfl rfl ?_
        exact br_iret C rfl dX5_powerOf_21 ⟨by rw [ha], rfl⟩
      · omega
    | succ n ih =>
      intro i a hin ha
      have hi : i < k := by omega
      refine br_iload_n C dX5_powerOf_4 rfl rfl ?_
      refine br_iload_n C dX5_powerOf_5 rfl rfl ?_
      refine br_icmp_geJ C (by omega) (by omega) dX5_powerOf_6 (tgt := 20) (by decide) (fun c6 => ?_) (fun c6 => ?_)
      · omega
      · refine br_iload_n C dX5_powerOf_9 rfl rfl ?_
        refine br_bipushJ C (by decide) dX5_powerOf_10 ?_
        refine br_imulJ C dX5_powerOf_12 ?_
        refine br_istore_n C dX5_powerOf_13 rfl (by decide) rfl (L' := [_, _, _]) rfl ?_
        refine br_iincJ C dX5_powerOf_14 rfl (by decide) rfl (L' := [_, _, _]) rfl ?_
        refine br_goto C dX5_powerOf_17 (tgt := 4) (by decide) ?_
        exact ih (i + 1) _ (by omega) (by rw [Int.pow_succ, ← ha])
  refine br_iconstJ C dX5_powerOf_0 ?_
  refine br_istore_n C dX5_powerOf_1 rfl (by decide) rfl (L' := [_, _, _]) rfl ?_
  refine br_iconstJ C dX5_powerOf_2 ?_
  refine br_istore_n C dX5_powerOf_3 rfl (by decide) rfl (L' := [_, _, _]) rfl ?_
  exact loop k 0 1 (by omega) rfl

set_option maxHeartbeats 4000000 in
set_option maxRecDepth 100000 in
theorem c_X5_meanUp {σ : br_Wd} {g : br_Gy} (hg : br_GM σ g) (hgo : br_Gok g) {ra : Nat} (hra : br_shps[ra]? = some (.inl (false, 5))) {r : br_Ro} (hr : br_RM ra σ r) (hro : br_Rok g r) : br_Met 3 mX5_meanUp [br_r 23, br_r ra, br_i (br_J r.1)] σ (br_R (br_J (br_mu g r)) σ) := by
  have hg0 := hg
  have hgo0 := hgo
  obtain ⟨hgn, hK, hWo, hS⟩ := hg
  have hg7 := hgo.1
  have hr0 := hr
  have h5r := hro.1
  refine br_ofW (by decide) 2 rfl (fun G C => ?_)
  have hp2 := br_pow2 h5r
  have loop : ∀ (n i : Nat) (a : Int), i + n = 2 ^ r.1 → a = br_sum (fun f => br_wy g r f * (br_pt g r f + 200)) i → G 5 [some (br_r 23), some (br_r ra), some (br_i (br_J r.1)), some (br_i (br_J a)), some (br_i (br_J i))] [] σ := by
    intro n
    induction n with
    | zero =>
      intro i a hin ha
      have ei : i = 2 ^ r.1 := by omega
      rw [ei] at ha
      refine br_iload C dX5_meanUp_5 rfl ?_
      refine br_iconstJ C dX5_meanUp_7 ?_
      refine br_iload_n C dX5_meanUp_8 rfl rfl ?_
      refine br_ishlE C (br_shl1 h5r) dX5_meanUp_9 ?_
      refine br_icmp_geJ C (by omega) (by omega) dX5_meanUp_10 (tgt := 43) (by decide) (fun c10 => ?_) (fun c10 => ?_)
      · refine br_iload_n C dX5_meanUp_43 rfl rfl ?_
        exact br_iret C rfl dX5_meanUp_44 ⟨by rw [ha]; rfl, rfl⟩
      · omega
    | succ n ih =>
      intro i a hin ha
      have hi : i < 2 ^ r.1 := by omega
      refine br_iload C dX5_meanUp_5 rfl ?_
      refine br_iconstJ C dX5_meanUp_7 ?_
      refine br_iload_n C dX5_meanUp_8 rfl rfl ?_
      refine br_ishlE C (br_shl1 h5r) dX5_meanUp_9 ?_
      refine br_icmp_geJ C (by omega) (by omega) dX5_meanUp_10 (tgt := 43) (by decide) (fun c10 => ?_) (fun c10 => ?_)
      · omega
      · refine br_iload_n C dX5_meanUp_13 rfl rfl ?_
        refine br_aload_n C dX5_meanUp_14 rfl rfl ?_
        refine br_aload_n C dX5_meanUp_15 rfl rfl ?_
        refine br_iload_n C dX5_meanUp_16 rfl rfl ?_
        refine br_iload C dX5_meanUp_17 rfl ?_
        refine br_cv3R C vcX5_125 (c_X5_waysOf hg0 hgo0 hra hr0 hro i (by omega)) (by decide) rfl rfl (fun _ => Nat.le_of_ble_eq_true rfl) dX5_meanUp_19 ?_
        refine br_aload_n C dX5_meanUp_22 rfl rfl ?_
        refine br_aload_n C dX5_meanUp_23 rfl rfl ?_
        refine br_iload_n C dX5_meanUp_24 rfl rfl ?_
        refine br_iload C dX5_meanUp_25 rfl ?_
        refine br_cv3R C vcX5_121 (c_X5_scoreOf hg0 hgo0 hra hr0 hro i (by omega)) (by decide) rfl rfl (fun _ => Nat.le_of_ble_eq_true rfl) dX5_meanUp_27 ?_
        refine br_sipushJ C (by decide) dX5_meanUp_30 ?_
        refine br_iaddJ C dX5_meanUp_33 ?_
        refine br_imulJ C dX5_meanUp_34 ?_
        refine br_iaddJ C dX5_meanUp_35 ?_
        refine br_istore_n C dX5_meanUp_36 rfl (by decide) rfl (L' := [_, _, _, _, _]) rfl ?_
        refine br_iincJ C dX5_meanUp_37 rfl (by decide) rfl (L' := [_, _, _, _, _]) rfl ?_
        refine br_goto C dX5_meanUp_40 (tgt := 5) (by decide) ?_
        exact ih (i + 1) _ (by omega) (by rw [ha]; rfl)
  refine br_iconstJ C dX5_meanUp_0 ?_
  refine br_istore_n C dX5_meanUp_1 rfl (by decide) rfl (L' := [_, _, _, _, _]) rfl ?_
  refine br_iconstJ C dX5_meanUp_2 ?_
  refine br_istore C dX5_meanUp_3 (by decide) rfl (L' := [_, _, _, _, _]) rfl ?_
  exact loop (2 ^ r.1) 0 0 (by omega) rfl

set_option maxHeartbeats 4000000 in
set_option maxRecDepth 100000 in
theorem c_X5_oddsUp {σ : br_Wd} {g : br_Gy} (hg : br_GM σ g) (hgo : br_Gok g) {ra : Nat} (hra : br_shps[ra]? = some (.inl (false, 5))) {r : br_Ro} (hr : br_RM ra σ r) (hro : br_Rok g r) (s : Int) (hsb : -100 ≤ s ∧ s ≤ 100) : br_Met 3 mX5_oddsUp [br_r 23, br_r ra, br_i (br_J r.1), br_i (br_J s)] σ (br_R (br_J (br_od g r s)) σ) := by
  have hg0 := hg
  have hgo0 := hgo
  obtain ⟨hgn, hK, hWo, hS⟩ := hg
  have hg7 := hgo.1
  have hr0 := hr
  have h5r := hro.1
  refine br_ofW (by decide) 2 rfl (fun G C => ?_)
  have hp2 := br_pow2 h5r
  have loop : ∀ (n i : Nat) (a : Int), i + n = 2 ^ r.1 → a = br_sum (fun f => if s ≤ br_pt g r f then br_wy g r f else 0) i → G 6 [some (br_r 23), some (br_r ra), some (br_i (br_J r.1)), some (br_i (br_J s)), some (br_i (br_J a)), some (br_i (br_J i))] [] σ := by
    intro n
    induction n with
    | zero =>
      intro i a hin ha
      have ei : i = 2 ^ r.1 := by omega
      rw [ei] at ha
      refine br_iload C dX5_oddsUp_6 rfl ?_
      refine br_iconstJ C dX5_oddsUp_8 ?_
      refine br_iload_n C dX5_oddsUp_9 rfl rfl ?_
      refine br_ishlE C (br_shl1 h5r) dX5_oddsUp_10 ?_
      refine br_icmp_geJ C (by omega) (by omega) dX5_oddsUp_11 (tgt := 49) (by decide) (fun c11 => ?_) (fun c11 => ?_)
      · refine br_iload C dX5_oddsUp_49 rfl ?_
        exact br_iret C rfl dX5_oddsUp_51 ⟨by rw [ha]; rfl, rfl⟩
      · omega
    | succ n ih =>
      intro i a hin ha
      have hi : i < 2 ^ r.1 := by omega
      refine br_iload C dX5_oddsUp_6 rfl ?_
      refine br_iconstJ C dX5_oddsUp_8 ?_
      refine br_iload_n C dX5_oddsUp_9 rfl rfl ?_
      refine br_ishlE C (br_shl1 h5r) dX5_oddsUp_10 ?_
      refine br_icmp_geJ C (by omega) (by omega) dX5_oddsUp_11 (tgt := 49) (by decide) (fun c11 => ?_) (fun c11 => ?_)
      · omega
      · have hgb := br_gn_bnd hgo hro i
        have hpn := br_pen_bnd g r
        have hptb : -60 ≤ br_pt g r i ∧ br_pt g r i ≤ 60 := by unfold br_pt; omega
        refine br_iload C dX5_oddsUp_14 rfl ?_
        refine br_aload_n C dX5_oddsUp_16 rfl rfl ?_
        refine br_aload_n C dX5_oddsUp_17 rfl rfl ?_
        refine br_iload_n C dX5_oddsUp_18 rfl rfl ?_
        refine br_iload C dX5_oddsUp_19 rfl ?_
        refine br_cv3R C vcX5_121 (c_X5_scoreOf hg0 hgo0 hra hr0 hro i (by omega)) (by decide) rfl rfl (fun _ => Nat.le_of_ble_eq_true rfl) dX5_oddsUp_21 ?_
        refine br_iload_n C dX5_oddsUp_24 rfl rfl ?_
        refine br_icmp_ltJ C (by omega) (by omega) dX5_oddsUp_25 (tgt := 39) (by decide) (fun c25 => ?_) (fun c25 => ?_)
        · refine br_iconstJ C dX5_oddsUp_39 ?_
          refine br_iaddJ C dX5_oddsUp_40 ?_
          refine br_istore C dX5_oddsUp_41 (by decide) rfl (L' := [_, _, _, _, _, _]) rfl ?_
          refine br_iincJ C dX5_oddsUp_43 rfl (by decide) rfl (L' := [_, _, _, _, _, _]) rfl ?_
          refine br_goto C dX5_oddsUp_46 (tgt := 6) (by decide) ?_
          exact ih (i + 1) _ (by omega) (by show _ = br_sum _ i + (if s ≤ br_pt g r i then _ else _); rw [← ha]; first | rw [if_pos (by omega)] | rw [if_neg (by omega)])
        · refine br_aload_n C dX5_oddsUp_28 rfl rfl ?_
          refine br_aload_n C dX5_oddsUp_29 rfl rfl ?_
          refine br_iload_n C dX5_oddsUp_30 rfl rfl ?_
          refine br_iload C dX5_oddsUp_31 rfl ?_
          refine br_cv3R C vcX5_125 (c_X5_waysOf hg0 hgo0 hra hr0 hro i (by omega)) (by decide) rfl rfl (fun _ => Nat.le_of_ble_eq_true rfl) dX5_oddsUp_33 ?_
          refine br_goto C dX5_oddsUp_36 (tgt := 40) (by decide) ?_
          refine br_iaddJ C dX5_oddsUp_40 ?_
          refine br_istore C dX5_oddsUp_41 (by decide) rfl (L' := [_, _, _, _, _, _]) rfl ?_
          refine br_iincJ C dX5_oddsUp_43 rfl (by decide) rfl (L' := [_, _, _, _, _, _]) rfl ?_
          refine br_goto C dX5_oddsUp_46 (tgt := 6) (by decide) ?_
          exact ih (i + 1) _ (by omega) (by show _ = br_sum _ i + (if s ≤ br_pt g r i then _ else _); rw [← ha]; first | rw [if_pos (by omega)] | rw [if_neg (by omega)])
  refine br_iconstJ C dX5_oddsUp_0 ?_
  refine br_istore C dX5_oddsUp_1 (by decide) rfl (L' := [_, _, _, _, _, _]) rfl ?_
  refine br_iconstJ C dX5_oddsUp_3 ?_
  refine br_istore C dX5_oddsUp_4 (by decide) rfl (L' := [_, _, _, _, _, _]) rfl ?_
  exact loop (2 ^ r.1) 0 0 (by omega) rfl
