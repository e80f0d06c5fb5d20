-- what is tried: how many; piece, behind how many, whether it succeeded
abbrev br_Tr : Type := Nat × (Nat → Nat) × (Nat → Nat) × (Nat → Nat)
def br_Tok (g : br_Gy) (t : br_Tr) : Prop := t.1 ≤ 8 ∧ ∀ j : Nat, j < t.1 → t.2.1 j < g.1 ∧ t.2.2.1 j ≤ 4 ∧ t.2.2.2 j ≤ 1
def br_TC (q : Nat) (σ : br_Wd) (t : br_Tr) : Prop := σ.1 q 4 = br_J t.1 ∧ (∀ j : Nat, j < t.1 → σ.1 (q + 1) j = br_J (t.2.1 j : Nat)) ∧ (∀ j : Nat, j < t.1 → σ.1 (q + 2) j = br_J (t.2.2.1 j : Nat)) ∧ ∀ j : Nat, j < t.1 → σ.1 (q + 3) j = br_J (t.2.2.2 j : Nat)
def br_TM (a : Nat) (σ : br_Wd) (t : br_Tr) : Prop := (∀ j : Nat, j < t.1 → σ.1 a (3 * j) = br_J (t.2.1 j : Nat)) ∧ (∀ j : Nat, j < t.1 → σ.1 a (3 * j + 1) = br_J (t.2.2.1 j : Nat)) ∧ ∀ j : Nat, j < t.1 → σ.1 a (3 * j + 2) = br_J (t.2.2.2 j : Nat)
def br_tadd (t : br_Tr) (p b s : Nat) : br_Tr := (t.1 + 1, fun j => if j = t.1 then p else t.2.1 j, fun j => if j = t.1 then b else t.2.2.1 j, fun j => if j = t.1 then s else t.2.2.2 j)
def br_lkf (g : br_Gy) (t : br_Tr) (p : Nat) (v : Int) (i : Nat) : Int := if t.2.1 i = p then (if t.2.2.2 i = 1 then br_ch (br_gK g p) v (t.2.2.1 i : Nat) else 10 - br_ch (br_gK g p) v (t.2.2.1 i : Nat)) else 1
def br_lk (g : br_Gy) (t : br_Tr) (p : Nat) (v : Int) : Int := br_prod (br_lkf g t p v) t.1
theorem br_lkf_bnd (g : br_Gy) (t : br_Tr) (p : Nat) {v : Int} (hv : 0 ≤ v ∧ v ≤ 9) (i : Nat) : 0 ≤ br_lkf g t p v i ∧ br_lkf g t p v i ≤ 10 := by
  have := br_ch_bnd (kd := br_gK g p) (pl := (t.2.2.1 i : Nat)) hv
  unfold br_lkf; (repeat' split) <;> omega
theorem br_pow10' {n : Nat} (h : n ≤ 8) : (10 : Int) ^ n ≤ 100000000 := by
  have key : ∀ n : Fin 9, (10 : Int) ^ (n : Nat) ≤ 100000000 := by decide +kernel
  exact key ⟨n, by omega⟩
theorem br_lk_bnd (g : br_Gy) (t : br_Tr) (p : Nat) {v : Int} (hv : 0 ≤ v ∧ v ≤ 9) (ht : t.1 ≤ 8) : 0 ≤ br_lk g t p v ∧ br_lk g t p v ≤ 100000000 := by
  have h1 := br_prod_bnd (f := br_lkf g t p v) (n := t.1) (fun j _ => br_lkf_bnd g t p hv j)
  have h2 := br_pow10' ht
  unfold br_lk; omega
/-- bits of the numbers from 0 on at which f is above 0 -/
def br_bt (f : Nat → Int) : Nat → Int32
  | 0 => br_J 0
  | n + 1 => br_bt f n ||| (if 0 < f n then br_J 1 <<< (br_J n &&& 31) else br_J 0)
/-- the first greatest above 0: its number from 1 on, and it -/
def br_am (f : Nat → Int) : Nat → Int × Int
  | 0 => (-1, 0)
  | n + 1 => if (br_am f n).2 < f n then ((n : Int) + 1, f n) else br_am f n
theorem br_am_bnd {f : Nat → Int} {n : Nat} {b : Int} (hb : 0 ≤ b) (h : ∀ j : Nat, j < n → f j ≤ b) : (-1 ≤ (br_am f n).1 ∧ (br_am f n).1 ≤ n) ∧ 0 ≤ (br_am f n).2 ∧ (br_am f n).2 ≤ b := by
  induction n with
  | zero => exact ⟨⟨by show (-1 : Int) ≤ -1; omega, by show (-1 : Int) ≤ 0; omega⟩, by show (0 : Int) ≤ 0; omega, hb⟩
  | succ n ih =>
    have h1 := ih (fun j hj => h j (by omega))
    have h2 := h n (by omega)
    unfold br_am
    split
    · exact ⟨⟨by show (-1 : Int) ≤ (n : Int) + 1; omega, by show (n : Int) + 1 ≤ ((n + 1 : Nat) : Int); omega⟩, by show 0 ≤ f n; omega, h2⟩
    · exact ⟨⟨h1.1.1, by omega⟩, h1.2⟩
def br_sures (g : br_Gy) (t : br_Tr) (p : Nat) : Int32 := br_bt (fun v => br_lk g t p ((v : Int) + 1)) 9
def br_likely (g : br_Gy) (t : br_Tr) (p : Nat) : Int := (br_am (fun v => br_lk g t p ((v : Int) + 1)) 9).1
theorem br_narb {s : Nat} (h : s ≤ 1) : vp_nar .boolean (br_J s) = br_J s := by
  have key : ∀ s : Fin 2, vp_nar .boolean (br_J (s : Nat)) = br_J (s : Nat) := by decide +kernel
  exact key ⟨s, by omega⟩
theorem br_TC_add {q : Nat} {σ : br_Wd} {t : br_Tr} (ht : br_TC q σ t) (p b s : Nat) : br_TC q (br_up (br_up (br_up (br_up σ (q + 1) t.1 (br_J p)) (q + 2) t.1 (br_J b)) (q + 3) t.1 (br_J s)) q 4 (br_J (t.1 + 1))) (br_tadd t p b s) := by
  obtain ⟨hs, h1, h2, h3⟩ := ht
  refine ⟨by simp [br_up, br_tadd], fun j hj => ?_, fun j hj => ?_, fun j hj => ?_⟩ <;> (
    have hj' : j < t.1 + 1 := hj
    simp only [br_up, br_tadd]
    by_cases e : j = t.1
    · simp [e]
    · simp [e]
      first | exact h1 j (by omega) | exact h2 j (by omega) | exact h3 j (by omega))

set_option maxHeartbeats 4000000 in
set_option maxRecDepth 100000 in
theorem c_X3_add {σ : br_Wd} {q : Nat} (hq : br_shps[q]? = some (.inr (3, [br_fr 3, br_fr (q + 1), br_fr (q + 2), br_fr (q + 3), none]))) (hq1 : br_shps[q + 1]? = some (.inl (false, 8))) (hq2 : br_shps[q + 2]? = some (.inl (false, 8))) (hq3 : br_shps[q + 3]? = some (.inl (true, 8))) {t : br_Tr} (ht : br_TC q σ t) (p b s : Nat) (hlt : t.1 < 8) (hs1 : s ≤ 1) : br_Met 0 mX3_add [br_r q, br_i (br_J p), br_i (br_J b), br_i (br_J s)] σ (fun v τ => v = none ∧ br_TC q τ (br_tadd t p b s) ∧ br_sm [q, q + 1, q + 2, q + 3] σ τ) := by
  have ht0 := ht
  obtain ⟨hs, h1, h2, h3⟩ := ht
  refine br_ofW (by decide) 0 rfl (fun G C => ?_)
  refine br_aload_n C dX3_add_0 rfl rfl ?_
  refine br_getI C fdX3_22 dX3_add_1 hq rfl (by assumption) ?_
  refine br_bipushJ C (by decide) dX3_add_4 ?_
  refine br_icmp_geJ C (by omega) (by omega) dX3_add_6 (tgt := 49) (by decide) (fun c6 => ?_) (fun c6 => ?_)
  · omega
  · refine br_aload_n C dX3_add_9 rfl rfl ?_
    refine br_getR C fdX3_9 dX3_add_10 hq rfl ?_
    refine br_aload_n C dX3_add_13 rfl rfl ?_
    refine br_getI C fdX3_22 dX3_add_14 hq rfl (by assumption) ?_
    refine br_iload_n C dX3_add_17 rfl rfl ?_
    refine br_iastJ C hq1 (by decide) (by omega) (by omega) rfl dX3_add_18 ?_
    refine br_aload_n C dX3_add_19 rfl rfl ?_
    refine br_getR C fdX3_15 dX3_add_20 hq rfl ?_
    refine br_aload_n C dX3_add_23 rfl rfl ?_
    refine br_getI C fdX3_22 dX3_add_24 hq rfl (x := br_J t.1) (by simp [br_up]; exact hs) ?_
    refine br_iload_n C dX3_add_27 rfl rfl ?_
    refine br_iastJ C hq2 (by decide) (by omega) (by omega) rfl dX3_add_28 ?_
    refine br_aload_n C dX3_add_29 rfl rfl ?_
    refine br_getR C fdX3_18 dX3_add_30 hq rfl ?_
    refine br_aload_n C dX3_add_33 rfl rfl ?_
    refine br_getI C fdX3_22 dX3_add_34 hq rfl (x := br_J t.1) (by simp [br_up]; exact hs) ?_
    refine br_iload_n C dX3_add_37 rfl rfl ?_
    refine br_zastJ C hq3 (by decide) (by omega) (by omega) rfl dX3_add_38 ?_
    refine br_aload_n C dX3_add_39 rfl rfl ?_
    refine br_dup C dX3_add_40 rfl ?_
    refine br_getI C fdX3_22 dX3_add_41 hq rfl (x := br_J t.1) (by simp [br_up]; exact hs) ?_
    refine br_iconstJ C dX3_add_44 ?_
    refine br_iaddJ C dX3_add_45 ?_
    refine br_putI C fdX3_22 dX3_add_46 hq rfl rfl ?_
    exact br_vret C rfl dX3_add_49 ⟨rfl, by rw [br_narb hs1]; simpa using br_TC_add ht0 p b s, (((br_sm.rfl.up (by simp)).up (by simp)).up (by simp)).up (by simp)⟩

set_option maxHeartbeats 4000000 in
set_option maxRecDepth 100000 in
theorem c_X3_copyFrom {σ : br_Wd} {q : Nat} (hq : br_shps[q]? = some (.inr (3, [br_fr 3, br_fr (q + 1), br_fr (q + 2), br_fr (q + 3), none]))) (hq1 : br_shps[q + 1]? = some (.inl (false, 8))) (hq2 : br_shps[q + 2]? = some (.inl (false, 8))) (hq3 : br_shps[q + 3]? = some (.inl (true, 8))) {q2 : Nat} (hr : br_shps[q2]? = some (.inr (3, [br_fr 3, br_fr (q2 + 1), br_fr (q2 + 2), br_fr (q2 + 3), none]))) (hr1 : br_shps[q2 + 1]? = some (.inl (false, 8))) (hr2 : br_shps[q2 + 2]? = some (.inl (false, 8))) (hr3 : br_shps[q2 + 3]? = some (.inl (true, 8))) {t2 : br_Tr} (ht2 : br_TC q2 σ t2) (h82 : t2.1 ≤ 8 ∧ ∀ j : Nat, j < t2.1 → t2.2.2.2 j ≤ 1) (hne : q + 3 < q2 ∨ q2 + 3 < q) : br_Met 0 mX3_copyFrom [br_r q, br_r q2] σ (fun v τ => v = none ∧ br_TC q τ t2 ∧ br_sm [q, q + 1, q + 2, q + 3] σ τ) := by
  obtain ⟨hs2, k1, k2, k3⟩ := ht2
  have h8 := h82.1
  refine br_ofW (by decide) 1 rfl (fun G C => ?_)
  have loop : ∀ (n i : Nat) (τ : br_Wd), i + n = t2.1 → br_sm [q, q + 1, q + 2, q + 3] σ τ → τ.1 q 4 = br_J t2.1 → (∀ j : Nat, j < i → τ.1 (q + 1) j = br_J (t2.2.1 j : Nat) ∧ τ.1 (q + 2) j = br_J (t2.2.2.1 j : Nat) ∧ τ.1 (q + 3) j = br_J (t2.2.2.2 j : Nat)) → G 10 [some (br_r q), some (br_r q2), some (br_i (br_J i))] [] τ := by
    intro n
    induction n with
    | zero =>
      intro i τ hin hsm hs1 hm
      refine br_iload_n C dX3_copyFrom_10 rfl rfl ?_
      refine br_aload_n C dX3_copyFrom_11 rfl rfl ?_
      refine br_getI C fdX3_22 dX3_copyFrom_12 hq rfl hs1 ?_
      refine br_icmp_geJ C (by omega) (by omega) dX3_copyFrom_15 (tgt := 60) (by decide) (fun c15 => ?_) (fun c15 => ?_)
      · exact br_vret C rfl dX3_copyFrom_60 ⟨rfl, ⟨hs1, fun j hj => (hm j (by omega)).1, fun j hj => (hm j (by omega)).2.1, fun j hj => (hm j (by omega)).2.2⟩, hsm⟩
      · omega
    | succ n ih =>
      intro i τ hin hsm hs1 hm
      refine br_iload_n C dX3_copyFrom_10 rfl rfl ?_
      refine br_aload_n C dX3_copyFrom_11 rfl rfl ?_
      refine br_getI C fdX3_22 dX3_copyFrom_12 hq rfl hs1 ?_
      refine br_icmp_geJ C (by omega) (by omega) dX3_copyFrom_15 (tgt := 60) (by decide) (fun c15 => ?_) (fun c15 => ?_)
      · omega
      · refine br_aload_n C dX3_copyFrom_18 rfl rfl ?_
        refine br_getR C fdX3_9 dX3_copyFrom_19 hq rfl ?_
        refine br_iload_n C dX3_copyFrom_22 rfl rfl ?_
        refine br_aload_n C dX3_copyFrom_23 rfl rfl ?_
        refine br_getR C fdX3_9 dX3_copyFrom_24 hr rfl ?_
        refine br_iload_n C dX3_copyFrom_27 rfl rfl ?_
        refine br_ialdJ C hr1 (by decide) (by omega) (by omega) (y := (t2.2.1 i : Nat)) (by rw [show ((i : Nat) : Int).toNat = i by omega, hsm.1 (q2 + 1) (by simp; omega)]; exact k1 i (by omega)) dX3_copyFrom_28 ?_
        refine br_iastJ C hq1 (by decide) (by omega) (by omega) rfl dX3_copyFrom_29 ?_
        refine br_aload_n C dX3_copyFrom_30 rfl rfl ?_
        refine br_getR C fdX3_15 dX3_copyFrom_31 hq rfl ?_
        refine br_iload_n C dX3_copyFrom_34 rfl rfl ?_
        refine br_aload_n C dX3_copyFrom_35 rfl rfl ?_
        refine br_getR C fdX3_15 dX3_copyFrom_36 hr rfl ?_
        refine br_iload_n C dX3_copyFrom_39 rfl rfl ?_
        refine br_ialdJ C hr2 (by decide) (by omega) (by omega) (y := (t2.2.2.1 i : Nat)) (by rw [show ((i : Nat) : Int).toNat = i by omega, (hsm.up (by simp)).1 (q2 + 2) (by simp; omega)]; exact k2 i (by omega)) dX3_copyFrom_40 ?_
        refine br_iastJ C hq2 (by decide) (by omega) (by omega) rfl dX3_copyFrom_41 ?_
        refine br_aload_n C dX3_copyFrom_42 rfl rfl ?_
        refine br_getR C fdX3_18 dX3_copyFrom_43 hq rfl ?_
        refine br_iload_n C dX3_copyFrom_46 rfl rfl ?_
        refine br_aload_n C dX3_copyFrom_47 rfl rfl ?_
        refine br_getR C fdX3_18 dX3_copyFrom_48 hr rfl ?_
        refine br_iload_n C dX3_copyFrom_51 rfl rfl ?_
        refine br_zaldJ C hr3 (by decide) (by omega) (by omega) (y := (t2.2.2.2 i : Nat)) (by rw [show ((i : Nat) : Int).toNat = i by omega, ((hsm.up (by simp)).up (by simp)).1 (q2 + 3) (by simp; omega)]; exact k3 i (by omega)) dX3_copyFrom_52 ?_
        refine br_zastJ C hq3 (by decide) (by omega) (by omega) rfl dX3_copyFrom_53 ?_
        refine br_iincJ C dX3_copyFrom_54 rfl (by decide) rfl (L' := [_, _, _]) rfl ?_
        refine br_goto C dX3_copyFrom_57 (tgt := 10) (by decide) ?_
        refine ih (i + 1) _ (by omega) (((hsm.up (by simp)).up (by simp)).up (by simp)) (by simp [br_up]; exact hs1) (fun j hj => ?_)
        rw [br_narb (h82.2 i (by omega))]
        simp only [br_up]
        by_cases e : j = ((i : Nat) : Int).toNat
        · have e2 : j = i := by omega
          subst e2
          simp
        · have e2 : ¬ j = i := by omega
          simp [e2]; exact hm j (by omega)
  refine br_aload_n C dX3_copyFrom_0 rfl rfl ?_
  refine br_aload_n C dX3_copyFrom_1 rfl rfl ?_
  refine br_getI C fdX3_22 dX3_copyFrom_2 hr rfl hs2 ?_
  refine br_putI C fdX3_22 dX3_copyFrom_5 hq rfl rfl ?_
  refine br_iconstJ C dX3_copyFrom_8 ?_
  refine br_istore_n C dX3_copyFrom_9 rfl (by decide) rfl (L' := [_, _, _]) rfl ?_
  exact loop t2.1 0 _ (by omega) (br_sm.rfl.up (by simp)) (by simp [br_up]) (fun j hj => absurd hj (by omega))

set_option maxHeartbeats 4000000 in
set_option maxRecDepth 100000 in
theorem c_X3_likelihood {σ : br_Wd} {q : Nat} (hq : br_shps[q]? = some (.inr (3, [br_fr 3, br_fr (q + 1), br_fr (q + 2), br_fr (q + 3), none]))) (hq1 : br_shps[q + 1]? = some (.inl (false, 8))) (hq2 : br_shps[q + 2]? = some (.inl (false, 8))) (hq3 : br_shps[q + 3]? = some (.inl (true, 8))) {g : br_Gy} {t : br_Tr} (hg : br_GC σ g) (hgo : br_Gok g) (ht : br_TC q σ t) (hto : br_Tok g t) (p : Nat) (hpn : p < g.1) (v : Int) (hv : 0 ≤ v ∧ v ≤ 9) : br_Met 2 mX3_likelihood [br_r q, br_i (br_J p), br_i (br_J v)] σ (br_R (br_J (br_lk g t p v)) σ) := by
  have ht0 := ht
  obtain ⟨hs, h1, h2, h3⟩ := ht
  have hg0 := hg
  have h8 := hto.1
  have hn := hgo.1
  have hkp := (hgo.2 p hpn).1
  refine br_ofW (by decide) 3 rfl (fun G C => ?_)
  have loop : ∀ (n i : Nat) (a : Int) (x : Option br_V), i + n = t.1 → a = br_prod (br_lkf g t p v) i → G 5 [some (br_r q), some (br_i (br_J p)), some (br_i (br_J v)), some (br_i (br_J a)), some (br_i (br_J i)), x] [] σ := by
    intro n
    induction n with
    | zero =>
      intro i a x hin ha
      have ei : i = t.1 := by omega
      subst ei
      refine br_iload C dX3_likelihood_5 rfl ?_
      refine br_aload_n C dX3_likelihood_7 rfl rfl ?_
      refine br_getI C fdX3_22 dX3_likelihood_8 hq rfl (by assumption) ?_
      refine br_icmp_geJ C (by omega) (by omega) dX3_likelihood_11 (tgt := 75) (by decide) (fun c11 => ?_) (fun c11 => ?_)
      · refine br_iload_n C dX3_likelihood_75 rfl rfl ?_
        exact br_iret C rfl dX3_likelihood_76 ⟨by rw [ha]; rfl, rfl⟩
      · omega
    | succ n ih =>
      intro i a x hin ha
      have hi : i < t.1 := by omega
      refine br_iload C dX3_likelihood_5 rfl ?_
      refine br_aload_n C dX3_likelihood_7 rfl rfl ?_
      refine br_getI C fdX3_22 dX3_likelihood_8 hq rfl (by assumption) ?_
      refine br_icmp_geJ C (by omega) (by omega) dX3_likelihood_11 (tgt := 75) (by decide) (fun c11 => ?_) (fun c11 => ?_)
      · omega
      · have hti := hto.2 i hi
        refine br_aload_n C dX3_likelihood_14 rfl rfl ?_
        refine br_getR C fdX3_9 dX3_likelihood_15 hq rfl ?_
        refine br_iload C dX3_likelihood_18 rfl ?_
        refine br_ialdJ C hq1 (by decide) (by omega) (by omega) (h1 i (by omega)) dX3_likelihood_20 ?_
        refine br_iload_n C dX3_likelihood_21 rfl rfl ?_
        refine br_icmp_neJ C (by omega) (by omega) dX3_likelihood_22 (tgt := 69) (by decide) (fun c22 => ?_) (fun c22 => ?_)
        · refine br_iincJ C dX3_likelihood_69 rfl (by decide) rfl (L' := [_, _, _, _, _, _]) rfl ?_
          refine br_goto C dX3_likelihood_72 (tgt := 5) (by decide) ?_
          exact ih (i + 1) _ _ (by omega) (by show _ = br_prod _ i * br_lkf g t p v i; rw [← ha]; unfold br_lkf; first | rw [if_neg (by omega), Int.mul_one] | rw [if_pos (by omega), if_pos (by omega)] | rw [if_pos (by omega), if_neg (by omega)])
        · refine br_aload_n C dX3_likelihood_25 rfl rfl ?_
          refine br_getR C fdX3_26 dX3_likelihood_26 hq rfl ?_
          refine br_iload_n C dX3_likelihood_29 rfl rfl ?_
          refine br_cv1R C vcX3_34 ((br_kO_in hpn) ▸ c_X0_kindOf hg0 hn (p : Nat) (by omega)) (by decide) rfl rfl (fun _ => Nat.le_of_ble_eq_true rfl) dX3_likelihood_30 ?_
          refine br_iload_n C dX3_likelihood_33 rfl rfl ?_
          refine br_aload_n C dX3_likelihood_34 rfl rfl ?_
          refine br_getR C fdX3_15 dX3_likelihood_35 hq rfl ?_
          refine br_iload C dX3_likelihood_38 rfl ?_
          refine br_ialdJ C hq2 (by decide) (by omega) (by omega) (h2 i (by omega)) dX3_likelihood_40 ?_
          refine br_cs3R C scX3_40 (c_X4_chanceOf _ _ _ (by omega) (by omega) (by omega)) (by decide) (fun _ => Nat.le_of_ble_eq_true rfl) dX3_likelihood_41 ?_
          refine br_istore C dX3_likelihood_44 (by decide) rfl (L' := [_, _, _, _, _, _]) rfl ?_
          refine br_iload_n C dX3_likelihood_46 rfl rfl ?_
          refine br_aload_n C dX3_likelihood_47 rfl rfl ?_
          refine br_getR C fdX3_18 dX3_likelihood_48 hq rfl ?_
          refine br_iload C dX3_likelihood_51 rfl ?_
          refine br_zaldJ C hq3 (by decide) (by omega) (by omega) (h3 i (by omega)) dX3_likelihood_53 ?_
          refine br_if_eqJ C (by omega) dX3_likelihood_54 (tgt := 62) (by decide) (fun c54 => ?_) (fun c54 => ?_)
          · refine br_bipushJ C (by decide) dX3_likelihood_62 ?_
            refine br_iload C dX3_likelihood_64 rfl ?_
            refine br_isubJ C dX3_likelihood_66 ?_
            refine br_imulJ C dX3_likelihood_67 ?_
            refine br_istore_n C dX3_likelihood_68 rfl (by decide) rfl (L' := [_, _, _, _, _, _]) rfl ?_
            refine br_iincJ C dX3_likelihood_69 rfl (by decide) rfl (L' := [_, _, _, _, _, _]) rfl ?_
            refine br_goto C dX3_likelihood_72 (tgt := 5) (by decide) ?_
            exact ih (i + 1) _ _ (by omega) (by show _ = br_prod _ i * br_lkf g t p v i; rw [← ha]; unfold br_lkf; first | rw [if_neg (by omega), Int.mul_one] | rw [if_pos (by omega), if_pos (by omega)] | rw [if_pos (by omega), if_neg (by omega)])
          · refine br_iload C dX3_likelihood_57 rfl ?_
            refine br_goto C dX3_likelihood_59 (tgt := 67) (by decide) ?_
            refine br_imulJ C dX3_likelihood_67 ?_
            refine br_istore_n C dX3_likelihood_68 rfl (by decide) rfl (L' := [_, _, _, _, _, _]) rfl ?_
            refine br_iincJ C dX3_likelihood_69 rfl (by decide) rfl (L' := [_, _, _, _, _, _]) rfl ?_
            refine br_goto C dX3_likelihood_72 (tgt := 5) (by decide) ?_
            exact ih (i + 1) _ _ (by omega) (by show _ = br_prod _ i * br_lkf g t p v i; rw [← ha]; unfold br_lkf; first | rw [if_neg (by omega), Int.mul_one] | rw [if_pos (by omega), if_pos (by omega)] | rw [if_pos (by omega), if_neg (by omega)])
  refine br_iconstJ C dX3_likelihood_0 ?_
  refine br_istore_n C dX3_likelihood_1 rfl (by decide) rfl (L' := [_, _, _, _, _, _]) rfl ?_
  refine br_iconstJ C dX3_likelihood_2 ?_
  refine br_istore C dX3_likelihood_3 (by decide) rfl (L' := [_, _, _, _, _, _]) rfl ?_
  exact loop t.1 0 1 _ (by omega) rfl

set_option maxHeartbeats 4000000 in
set_option maxRecDepth 100000 in
theorem c_X3_possibleSures {σ : br_Wd} {q : Nat} (hq : br_shps[q]? = some (.inr (3, [br_fr 3, br_fr (q + 1), br_fr (q + 2), br_fr (q + 3), none]))) (hq1 : br_shps[q + 1]? = some (.inl (false, 8))) (hq2 : br_shps[q + 2]? = some (.inl (false, 8))) (hq3 : br_shps[q + 3]? = some (.inl (true, 8))) {g : br_Gy} {t : br_Tr} (hg : br_GC σ g) (hgo : br_Gok g) (ht : br_TC q σ t) (hto : br_Tok g t) (p : Nat) (hpn : p < g.1) : br_Met 3 mX3_possibleSures [br_r q, br_i (br_J p)] σ (br_R (br_sures g t p) σ) := by
  have ht0 := ht
  obtain ⟨hs, h1, h2, h3⟩ := ht
  have hg0 := hg
  have h8 := hto.1
  have hn := hgo.1
  refine br_ofW (by decide) 2 rfl (fun G C => ?_)
  have loop : ∀ (n i : Nat) (a : Int32), i + n = 9 → a = br_bt (fun v : Nat => br_lk g t p ((v : Int) + 1)) i → G 4 [some (br_r q), some (br_i (br_J p)), some (br_i a), some (br_i (br_J ((i : Int) + 1)))] [] σ := by
    intro n
    induction n with
    | zero =>
      intro i a hin ha
      refine br_iload_n C dX3_possibleSures_4 rfl rfl ?_
      refine br_bipushJ C (by decide) dX3_possibleSures_5 ?_
      refine br_icmp_gtJ C (by omega) (by omega) dX3_possibleSures_7 (tgt := 37) (by decide) (fun c7 => ?_) (fun c7 => ?_)
      · refine br_iload_n C dX3_possibleSures_37 rfl rfl ?_
        exact br_iret C rfl dX3_possibleSures_38 ⟨by rw [ha, show i = 9 by omega]; rfl, rfl⟩
      · omega
    | succ n ih =>
      intro i a hin ha
      have hi : i < 9 := by omega
      refine br_iload_n C dX3_possibleSures_4 rfl rfl ?_
      refine br_bipushJ C (by decide) dX3_possibleSures_5 ?_
      refine br_icmp_gtJ C (by omega) (by omega) dX3_possibleSures_7 (tgt := 37) (by decide) (fun c7 => ?_) (fun c7 => ?_)
      · omega
      · refine br_iload_n C dX3_possibleSures_10 rfl rfl ?_
        refine br_aload_n C dX3_possibleSures_11 rfl rfl ?_
        refine br_iload_n C dX3_possibleSures_12 rfl rfl ?_
        refine br_iload_n C dX3_possibleSures_13 rfl rfl ?_
        have hlb := br_lk_bnd g t p (v := (i : Int) + 1) (by omega) h8
        refine br_cv2R C vcX3_30 (c_X3_likelihood hq hq1 hq2 hq3 hg0 hgo ht0 hto p hpn ((i : Int) + 1) (by omega)) (by decide) hq rfl (fun _ => Nat.le_of_ble_eq_true rfl) dX3_possibleSures_14 ?_
        refine br_if_leJ C (by omega) dX3_possibleSures_17 (tgt := 28) (by decide) (fun c17 => ?_) (fun c17 => ?_)
        · refine br_iconstJ C dX3_possibleSures_28 ?_
          refine br_iorE C rfl dX3_possibleSures_29 ?_
          refine br_istore_n C dX3_possibleSures_30 rfl (by decide) rfl (L' := [_, _, _, _]) rfl ?_
          refine br_iincJ C dX3_possibleSures_31 rfl (by decide) rfl (L' := [_, _, _, _]) rfl ?_
          refine br_goto C dX3_possibleSures_34 (tgt := 4) (by decide) ?_
          exact ih (i + 1) _ (by omega) (by show _ = br_bt _ i ||| (if 0 < (fun v : Nat => br_lk g t p ((v : Int) + 1)) i then br_J 1 <<< (br_J i &&& 31) else br_J 0); rw [← ha]; first | (rw [if_pos c17]; rw [show (i : Int) + 1 - 1 = i by omega]) | rw [if_neg (by simp only []; omega)])
        · refine br_iconstJ C dX3_possibleSures_20 ?_
          refine br_iload_n C dX3_possibleSures_21 rfl rfl ?_
          refine br_iconstJ C dX3_possibleSures_22 ?_
          refine br_isubJ C dX3_possibleSures_23 ?_
          refine br_ishlE C rfl dX3_possibleSures_24 ?_
          refine br_goto C dX3_possibleSures_25 (tgt := 29) (by decide) ?_
          refine br_iorE C rfl dX3_possibleSures_29 ?_
          refine br_istore_n C dX3_possibleSures_30 rfl (by decide) rfl (L' := [_, _, _, _]) rfl ?_
          refine br_iincJ C dX3_possibleSures_31 rfl (by decide) rfl (L' := [_, _, _, _]) rfl ?_
          refine br_goto C dX3_possibleSures_34 (tgt := 4) (by decide) ?_
          exact ih (i + 1) _ (by omega) (by show _ = br_bt _ i ||| (if 0 < (fun v : Nat => br_lk g t p ((v : Int) + 1)) i then br_J 1 <<< (br_J i &&& 31) else br_J 0); rw [← ha]; first | (rw [if_pos c17]; rw [show (i : Int) + 1 - 1 = i by omega]) | rw [if_neg (by simp only []; omega)])
  refine br_iconstJ C dX3_possibleSures_0 ?_
  refine br_istore_n C dX3_possibleSures_1 rfl (by decide) rfl (L' := [_, _, _, _]) rfl ?_
  refine br_iconstJ C dX3_possibleSures_2 ?_
  refine br_istore_n C dX3_possibleSures_3 rfl (by decide) rfl (L' := [_, _, _, _]) rfl ?_
  exact loop 9 0 (br_J 0) (by omega) rfl

set_option maxHeartbeats 4000000 in
set_option maxRecDepth 100000 in
theorem c_X3_likeliestSure {σ : br_Wd} {q : Nat} (hq : br_shps[q]? = some (.inr (3, [br_fr 3, br_fr (q + 1), br_fr (q + 2), br_fr (q + 3), none]))) (hq1 : br_shps[q + 1]? = some (.inl (false, 8))) (hq2 : br_shps[q + 2]? = some (.inl (false, 8))) (hq3 : br_shps[q + 3]? = some (.inl (true, 8))) {g : br_Gy} {t : br_Tr} (hg : br_GC σ g) (hgo : br_Gok g) (ht : br_TC q σ t) (hto : br_Tok g t) (p : Nat) (hpn : p < g.1) : br_Met 3 mX3_likeliestSure [br_r q, br_i (br_J p)] σ (br_R (br_J (br_likely g t p)) σ) := by
  have ht0 := ht
  obtain ⟨hs, h1, h2, h3⟩ := ht
  have hg0 := hg
  have h8 := hto.1
  have hn := hgo.1
  refine br_ofW (by decide) 4 rfl (fun G C => ?_)
  have loop : ∀ (n i : Nat) (a : Int × Int) (x : Option br_V), i + n = 9 → a = br_am (fun v : Nat => br_lk g t p ((v : Int) + 1)) i → G 7 [some (br_r q), some (br_i (br_J p)), some (br_i (br_J a.1)), some (br_i (br_J a.2)), some (br_i (br_J ((i : Int) + 1))), x] [] σ := by
    intro n
    induction n with
    | zero =>
      intro i a x hin ha
      refine br_iload C dX3_likeliestSure_7 rfl ?_
      refine br_bipushJ C (by decide) dX3_likeliestSure_9 ?_
      refine br_icmp_gtJ C (by omega) (by omega) dX3_likeliestSure_11 (tgt := 41) (by decide) (fun c11 => ?_) (fun c11 => ?_)
      · refine br_iload_n C dX3_likeliestSure_41 rfl rfl ?_
        exact br_iret C rfl dX3_likeliestSure_42 ⟨by rw [ha, show i = 9 by omega]; rfl, rfl⟩
      · omega
    | succ n ih =>
      intro i a x hin ha
      have hi : i < 9 := by omega
      have hab : 0 ≤ a.2 ∧ a.2 ≤ 100000000 := by
        rw [ha]
        exact (br_am_bnd (by omega) (fun j hj => (br_lk_bnd g t p (v := (j : Int) + 1) (by omega) h8).2)).2
      refine br_iload C dX3_likeliestSure_7 rfl ?_
      refine br_bipushJ C (by decide) dX3_likeliestSure_9 ?_
      refine br_icmp_gtJ C (by omega) (by omega) dX3_likeliestSure_11 (tgt := 41) (by decide) (fun c11 => ?_) (fun c11 => ?_)
      · omega
      · have hlb := br_lk_bnd g t p (v := (i : Int) + 1) (by omega) h8
        refine br_aload_n C dX3_likeliestSure_14 rfl rfl ?_
        refine br_iload_n C dX3_likeliestSure_15 rfl rfl ?_
        refine br_iload C dX3_likeliestSure_16 rfl ?_
        refine br_cv2R C vcX3_30 (c_X3_likelihood hq hq1 hq2 hq3 hg0 hgo ht0 hto p hpn ((i : Int) + 1) (by omega)) (by decide) hq rfl (fun _ => Nat.le_of_ble_eq_true rfl) dX3_likeliestSure_18 ?_
        refine br_istore C dX3_likeliestSure_21 (by decide) rfl (L' := [_, _, _, _, _, _]) rfl ?_
        refine br_iload C dX3_likeliestSure_23 rfl ?_
        refine br_iload_n C dX3_likeliestSure_25 rfl rfl ?_
        refine br_icmp_leJ C (by omega) (by omega) dX3_likeliestSure_26 (tgt := 35) (by decide) (fun c26 => ?_) (fun c26 => ?_)
        · refine br_iincJ C dX3_likeliestSure_35 rfl (by decide) rfl (L' := [_, _, _, _, _, _]) rfl ?_
          refine br_goto C dX3_likeliestSure_38 (tgt := 7) (by decide) ?_
          exact ih (i + 1) _ _ (by omega) (show (_, _) = (if (br_am (fun v : Nat => br_lk g t p ((v : Int) + 1)) i).2 < (fun v : Nat => br_lk g t p ((v : Int) + 1)) i then ((i : Int) + 1, (fun v : Nat => br_lk g t p ((v : Int) + 1)) i) else br_am (fun v : Nat => br_lk g t p ((v : Int) + 1)) i) by rw [← ha]; first | (rw [if_pos c26]; done) | (rw [if_pos c26]; rfl) | rw [if_neg (by simp only []; omega)])
        · refine br_iload C dX3_likeliestSure_29 rfl ?_
          refine br_istore_n C dX3_likeliestSure_31 rfl (by decide) rfl (L' := [_, _, _, _, _, _]) rfl ?_
          refine br_iload C dX3_likeliestSure_32 rfl ?_
          refine br_istore_n C dX3_likeliestSure_34 rfl (by decide) rfl (L' := [_, _, _, _, _, _]) rfl ?_
          refine br_iincJ C dX3_likeliestSure_35 rfl (by decide) rfl (L' := [_, _, _, _, _, _]) rfl ?_
          refine br_goto C dX3_likeliestSure_38 (tgt := 7) (by decide) ?_
          exact ih (i + 1) _ _ (by omega) (show (_, _) = (if (br_am (fun v : Nat => br_lk g t p ((v : Int) + 1)) i).2 < (fun v : Nat => br_lk g t p ((v : Int) + 1)) i then ((i : Int) + 1, (fun v : Nat => br_lk g t p ((v : Int) + 1)) i) else br_am (fun v : Nat => br_lk g t p ((v : Int) + 1)) i) by rw [← ha]; first | (rw [if_pos c26]; done) | (rw [if_pos c26]; rfl) | rw [if_neg (by simp only []; omega)])
  refine br_iconstJ C dX3_likeliestSure_0 ?_
  refine br_istore_n C dX3_likeliestSure_1 rfl (by decide) rfl (L' := [_, _, _, _, _, _]) rfl ?_
  refine br_iconstJ C dX3_likeliestSure_2 ?_
  refine br_istore_n C dX3_likeliestSure_3 rfl (by decide) rfl (L' := [_, _, _, _, _, _]) rfl ?_
  refine br_iconstJ C dX3_likeliestSure_4 ?_
  refine br_istore C dX3_likeliestSure_5 (by decide) rfl (L' := [_, _, _, _, _, _]) rfl ?_
  exact loop 9 0 (-1, 0) _ (by omega) rfl
