set_option maxHeartbeats 4000000 in
set_option maxRecDepth 100000 in
theorem c_X2_reaches {σ : br_Wd} {q : Nat} (hq : br_shps[q]? = some (.inr (2, [br_fr 3, br_fr (q + 1), none]))) (hq1 : br_shps[q + 1]? = some (.inl (false, 5))) {r : br_Ro} (hr : br_RC q σ r) (h5 : r.1 ≤ 5) (z : Int) (hz : -2147483648 ≤ z ∧ z < 2147483648) : br_Met 0 mX2_reaches [br_r q, br_i (br_J z)] σ (br_R (br_J (if 0 ≤ z ∧ z < r.1 then 1 else 0)) σ) := by
  have hr0 := hr
  obtain ⟨hs, hp⟩ := hr
  refine br_ofW (by decide) 0 rfl (fun G C => ?_)
  refine br_iload_n C dX2_reaches_0 rfl rfl ?_
  refine br_if_ltJ C (by omega) dX2_reaches_1 (tgt := 16) (by decide) (fun c1 => ?_) (fun c1 => ?_)
  · refine br_iconstJ C dX2_reaches_16 ?_
    exact br_zret C (by decide) rfl dX2_reaches_17 ⟨by first | rw [if_pos (by omega)] | rw [if_neg (by omega)], rfl⟩
  · refine br_iload_n C dX2_reaches_4 rfl rfl ?_
    refine br_aload_n C dX2_reaches_5 rfl rfl ?_
    refine br_getI C fdX2_15 dX2_reaches_6 hq rfl (by assumption) ?_
    refine br_icmp_geJ C (by omega) (by omega) dX2_reaches_9 (tgt := 16) (by decide) (fun c9 => ?_) (fun c9 => ?_)
    · refine br_iconstJ C dX2_reaches_16 ?_
      exact br_zret C (by decide) rfl dX2_reaches_17 ⟨by first | rw [if_pos (by omega)] | rw [if_neg (by omega)], rfl⟩
    · refine br_iconstJ C dX2_reaches_12 ?_
      refine br_goto C dX2_reaches_13 (tgt := 17) (by decide) ?_
      exact br_zret C (by decide) rfl dX2_reaches_17 ⟨by first | rw [if_pos (by omega)] | rw [if_neg (by omega)], rfl⟩

set_option maxHeartbeats 4000000 in
set_option maxRecDepth 100000 in
theorem c_X2_pieceAt {σ : br_Wd} {q : Nat} (hq : br_shps[q]? = some (.inr (2, [br_fr 3, br_fr (q + 1), none]))) (hq1 : br_shps[q + 1]? = some (.inl (false, 5))) {r : br_Ro} (hr : br_RC q σ r) (h5 : r.1 ≤ 5) (z : Int) (hz : -2147483648 ≤ z ∧ z < 2147483648) : br_Met 1 mX2_pieceAt [br_r q, br_i (br_J z)] σ (br_R (br_J (br_pO r z)) σ) := by
  have hr0 := hr
  obtain ⟨hs, hp⟩ := hr
  refine br_ofW (by decide) 0 rfl (fun G C => ?_)
  refine br_aload_n C dX2_pieceAt_0 rfl rfl ?_
  refine br_iload_n C dX2_pieceAt_1 rfl rfl ?_
  refine br_cv1B C vcX2_23 (c_X2_reaches hq hq1 hr0 h5 z hz) (by decide) hq rfl (fun _ => Nat.le_of_ble_eq_true rfl) dX2_pieceAt_2 (fun h2 => ?_) (fun h2 => ?_)
  · refine br_if_eq1 C dX2_pieceAt_5 (tgt := 17) (by decide) ?_
    refine br_aload_n C dX2_pieceAt_8 rfl rfl ?_
    refine br_getR C fdX2_9 dX2_pieceAt_9 hq rfl ?_
    refine br_iload_n C dX2_pieceAt_12 rfl rfl ?_
    refine br_ialdJ C hq1 (by decide) h2.1 (by omega) (hp z.toNat (by omega)) dX2_pieceAt_13 ?_
    refine br_goto C dX2_pieceAt_14 (tgt := 18) (by decide) ?_
    exact br_iret C rfl dX2_pieceAt_18 ⟨by unfold br_pO; first | rw [if_pos h2] | rw [if_neg h2], rfl⟩
  · refine br_if_eq0 C dX2_pieceAt_5 (tgt := 17) (by decide) ?_
    refine br_iconstJ C dX2_pieceAt_17 ?_
    exact br_iret C rfl dX2_pieceAt_18 ⟨by unfold br_pO; first | rw [if_pos h2] | rw [if_neg h2], rfl⟩

set_option maxHeartbeats 4000000 in
set_option maxRecDepth 100000 in
theorem c_X2_placeOf {σ : br_Wd} {q : Nat} (hq : br_shps[q]? = some (.inr (2, [br_fr 3, br_fr (q + 1), none]))) (hq1 : br_shps[q + 1]? = some (.inl (false, 5))) {r : br_Ro} (hr : br_RC q σ r) (h5 : r.1 ≤ 5) (hu : ∀ i j : Nat, i < r.1 → j < r.1 → r.2 i = r.2 j → i = j) (hb : ∀ j : Nat, j < r.1 → r.2 j < 7) (z : Int) (hz : -2147483648 ≤ z ∧ z < 2147483648) : br_Met 0 mX2_placeOf [br_r q, br_i (br_J z)] σ (br_R (br_J (br_po r z)) σ) := by
  have hr0 := hr
  obtain ⟨hs, hp⟩ := hr
  refine br_ofW (by decide) 1 rfl (fun G C => ?_)
  have loop : ∀ (n i : Nat), i + n = r.1 → (∀ j : Nat, j < i → decide (((r.2 j : Nat) : Int) = z) = false) → G 2 [some (br_r q), some (br_i (br_J z)), some (br_i (br_J i))] [] σ := by
    intro n
    induction n with
    | zero =>
      intro i hin hno
      refine br_iload_n C dX2_placeOf_2 rfl rfl ?_
      refine br_aload_n C dX2_placeOf_3 rfl rfl ?_
      refine br_getI C fdX2_15 dX2_placeOf_4 hq rfl (by assumption) ?_
      refine br_icmp_geJ C (by omega) (by omega) dX2_placeOf_7 (tgt := 28) (by decide) (fun c7 => ?_) (fun c7 => ?_)
      · refine br_iconstJ C dX2_placeOf_28 ?_
        exact br_iret C rfl dX2_placeOf_29 ⟨by unfold br_po; rw [br_lst_none _ r.1 (fun j hj => hno j (by omega))], rfl⟩
      · omega
    | succ n ih =>
      intro i hin hno
      have hbi := hb i (by omega)
      refine br_iload_n C dX2_placeOf_2 rfl rfl ?_
      refine br_aload_n C dX2_placeOf_3 rfl rfl ?_
      refine br_getI C fdX2_15 dX2_placeOf_4 hq rfl (by assumption) ?_
      refine br_icmp_geJ C (by omega) (by omega) dX2_placeOf_7 (tgt := 28) (by decide) (fun c7 => ?_) (fun c7 => ?_)
      · omega
      · refine br_aload_n C dX2_placeOf_10 rfl rfl ?_
        refine br_getR C fdX2_9 dX2_placeOf_11 hq rfl ?_
        refine br_iload_n C dX2_placeOf_14 rfl rfl ?_
        refine br_ialdJ C hq1 (by decide) (by omega) (by omega) (hp i (by omega)) dX2_placeOf_15 ?_
        refine br_iload_n C dX2_placeOf_16 rfl rfl ?_
        refine br_icmp_neJ C (by omega) (by omega) dX2_placeOf_17 (tgt := 22) (by decide) (fun c17 => ?_) (fun c17 => ?_)
        · refine br_iincJ C dX2_placeOf_22 rfl (by decide) rfl (L' := [_, _, _]) rfl ?_
          refine br_goto C dX2_placeOf_25 (tgt := 2) (by decide) ?_
          exact ih (i + 1) (by omega) (fun j hj => by
            rcases Nat.lt_or_ge j i with h | h
            · exact hno j h
            · rw [show j = i by omega]; simpa using c17)
        · refine br_iload_n C dX2_placeOf_20 rfl rfl ?_
          exact br_iret C rfl dX2_placeOf_21 ⟨by unfold br_po; rw [br_lst_one _ r.1 i (by omega) (by simpa using c17) (fun j hj hpj => hu j i hj (by omega) (by have h9 := of_decide_eq_true hpj; omega))], rfl⟩
  refine br_iconstJ C dX2_placeOf_0 ?_
  refine br_istore_n C dX2_placeOf_1 rfl (by decide) rfl (L' := [_, _, _]) rfl ?_
  exact loop r.1 0 (by omega) (fun j hj => absurd hj (by omega))

set_option maxHeartbeats 4000000 in
set_option maxRecDepth 100000 in
theorem c_X2_holds {σ : br_Wd} {q : Nat} (hq : br_shps[q]? = some (.inr (2, [br_fr 3, br_fr (q + 1), none]))) (hq1 : br_shps[q + 1]? = some (.inl (false, 5))) {r : br_Ro} (hr : br_RC q σ r) (h5 : r.1 ≤ 5) (hu : ∀ i j : Nat, i < r.1 → j < r.1 → r.2 i = r.2 j → i = j) (hb : ∀ j : Nat, j < r.1 → r.2 j < 7) (z : Int) (hz : -2147483648 ≤ z ∧ z < 2147483648) : br_Met 1 mX2_holds [br_r q, br_i (br_J z)] σ (br_R (br_J (if ¬ br_po r z = -1 then 1 else 0)) σ) := by
  have hr0 := hr
  obtain ⟨hs, hp⟩ := hr
  refine br_ofW (by decide) 0 rfl (fun G C => ?_)
  have hpo : -1 ≤ br_po r z ∧ br_po r z < r.1 := br_lst_bnd _ _
  refine br_aload_n C dX2_holds_0 rfl rfl ?_
  refine br_iload_n C dX2_holds_1 rfl rfl ?_
  refine br_cv1R C vcX2_27 (c_X2_placeOf hq hq1 hr0 h5 hu hb z hz) (by decide) hq rfl (fun _ => Nat.le_of_ble_eq_true rfl) dX2_holds_2 ?_
  refine br_iconstJ C dX2_holds_5 ?_
  refine br_icmp_eqJ C (by omega) (by omega) dX2_holds_6 (tgt := 13) (by decide) (fun c6 => ?_) (fun c6 => ?_)
  · refine br_iconstJ C dX2_holds_13 ?_
    exact br_zret C (by decide) rfl dX2_holds_14 ⟨by first | rw [if_pos (by omega)] | rw [if_neg (by omega)], rfl⟩
  · refine br_iconstJ C dX2_holds_9 ?_
    refine br_goto C dX2_holds_10 (tgt := 14) (by decide) ?_
    exact br_zret C (by decide) rfl dX2_holds_14 ⟨by first | rw [if_pos (by omega)] | rw [if_neg (by omega)], rfl⟩

theorem br_RC_app {q : Nat} {σ : br_Wd} {r : br_Ro} (hr : br_RC q σ r) (p : Nat) : br_RC q (br_up (br_up σ (q + 1) r.1 (br_J p)) q 2 (br_J (r.1 + 1))) (br_app r p) := by
  refine ⟨?_, fun j hj => ?_⟩
  · simp [br_up, br_app]
  · have hj' : j < r.1 + 1 := hj
    simp only [br_up, br_app]
    rw [if_neg (by omega), if_pos True.intro]
    by_cases e : j = r.1
    · rw [if_pos e, if_pos e]
    · rw [if_neg e, if_neg e]; exact hr.2 j (by omega)

set_option maxHeartbeats 4000000 in
set_option maxRecDepth 100000 in
theorem c_X2_append {σ : br_Wd} {q : Nat} (hq : br_shps[q]? = some (.inr (2, [br_fr 3, br_fr (q + 1), none]))) (hq1 : br_shps[q + 1]? = some (.inl (false, 5))) {r : br_Ro} (hr : br_RC q σ r) (h5 : r.1 ≤ 5) (p : Nat) (hlt : r.1 < 5) : br_Met 0 mX2_append [br_r q, br_i (br_J p)] σ (fun v τ => v = none ∧ br_RC q τ (br_app r p) ∧ br_sm [q, q + 1] σ τ) := by
  have hr0 := hr
  obtain ⟨hs, hp⟩ := hr
  refine br_ofW (by decide) 0 rfl (fun G C => ?_)
  refine br_aload_n C dX2_append_0 rfl rfl ?_
  refine br_getI C fdX2_15 dX2_append_1 hq rfl (by assumption) ?_
  refine br_iconstJ C dX2_append_4 ?_
  refine br_icmp_geJ C (by omega) (by omega) dX2_append_5 (tgt := 28) (by decide) (fun c5 => ?_) (fun c5 => ?_)
  · omega
  · refine br_aload_n C dX2_append_8 rfl rfl ?_
    refine br_getR C fdX2_9 dX2_append_9 hq rfl ?_
    refine br_aload_n C dX2_append_12 rfl rfl ?_
    refine br_getI C fdX2_15 dX2_append_13 hq rfl (by assumption) ?_
    refine br_iload_n C dX2_append_16 rfl rfl ?_
    refine br_iastJ C hq1 (by decide) (by omega) (by omega) rfl dX2_append_17 ?_
    refine br_aload_n C dX2_append_18 rfl rfl ?_
    refine br_dup C dX2_append_19 rfl ?_
    refine br_getI C fdX2_15 dX2_append_20 hq rfl (x := br_J r.1) (by simp only [br_up]; rw [if_neg (by omega)]; exact hs) ?_
    refine br_iconstJ C dX2_append_23 ?_
    refine br_iaddJ C dX2_append_24 ?_
    refine br_putI C fdX2_15 dX2_append_25 hq rfl rfl ?_
    exact br_vret C rfl dX2_append_28 ⟨rfl, by simpa using br_RC_app hr0 p, (br_sm.rfl.up (by simp)).up (by simp)⟩

set_option maxHeartbeats 4000000 in
set_option maxRecDepth 100000 in
theorem c_X2_removeAt {σ : br_Wd} {q : Nat} (hq : br_shps[q]? = some (.inr (2, [br_fr 3, br_fr (q + 1), none]))) (hq1 : br_shps[q + 1]? = some (.inl (false, 5))) {r : br_Ro} (hr : br_RC q σ r) (h5 : r.1 ≤ 5) (k : Nat) (hk : k < r.1) : br_Met 1 mX2_removeAt [br_r q, br_i (br_J k)] σ (fun v τ => v = some (br_i (br_J (r.2 k : Nat))) ∧ br_RC q τ (br_rem r k) ∧ br_sm [q, q + 1] σ τ) := by
  have hr0 := hr
  obtain ⟨hs, hp⟩ := hr
  refine br_ofW (by decide) 2 rfl (fun G C => ?_)
  have loop : ∀ (n i : Nat) (τ : br_Wd), i + n = r.1 → k < i → br_sm [q, q + 1] σ τ → τ.1 q 2 = br_J r.1 → (∀ j : Nat, j < r.1 → τ.1 (q + 1) j = br_J ((if j < k then r.2 j else if j + 1 < i then r.2 (j + 1) else r.2 j : Nat) : Int)) → G 21 [some (br_r q), some (br_i (br_J k)), some (br_i (br_J (r.2 k : Nat))), some (br_i (br_J i))] [] τ := by
    intro n
    induction n with
    | zero =>
      intro i τ hin hki hsm hs1 hm
      refine br_iload_n C dX2_removeAt_21 rfl rfl ?_
      refine br_aload_n C dX2_removeAt_22 rfl rfl ?_
      refine br_getI C fdX2_15 dX2_removeAt_23 hq rfl hs1 ?_
      refine br_icmp_geJ C (by omega) (by omega) dX2_removeAt_26 (tgt := 49) (by decide) (fun c26 => ?_) (fun c26 => ?_)
      · refine br_aload_n C dX2_removeAt_49 rfl rfl ?_
        refine br_dup C dX2_removeAt_50 rfl ?_
        refine br_getI C fdX2_15 dX2_removeAt_51 hq rfl hs1 ?_
        refine br_iconstJ C dX2_removeAt_54 ?_
        refine br_isubJ C dX2_removeAt_55 ?_
        refine br_putI C fdX2_15 dX2_removeAt_56 hq rfl rfl ?_
        refine br_iload_n C dX2_removeAt_59 rfl rfl ?_
        exact br_iret C rfl dX2_removeAt_60 ⟨rfl, ⟨by simp only [br_up]; rw [if_pos True.intro, if_pos True.intro]; congr 1; show _ = ((r.1 - 1 : Nat) : Int); omega, fun j hj => by
          have hj2 : j < r.1 - 1 := hj
          have h9 := hm j (by omega)
          simp only [br_up]
          rw [if_neg (by omega), h9]
          show _ = br_J ((if j < k then r.2 j else r.2 (j + 1) : Nat) : Int)
          by_cases e : j < k
          · rw [if_pos e, if_pos e]
          · rw [if_neg e, if_neg e, if_pos (by omega)]⟩, hsm.up (by simp)⟩
      · omega
    | succ n ih =>
      intro i τ hin hki hsm hs1 hm
      refine br_iload_n C dX2_removeAt_21 rfl rfl ?_
      refine br_aload_n C dX2_removeAt_22 rfl rfl ?_
      refine br_getI C fdX2_15 dX2_removeAt_23 hq rfl hs1 ?_
      refine br_icmp_geJ C (by omega) (by omega) dX2_removeAt_26 (tgt := 49) (by decide) (fun c26 => ?_) (fun c26 => ?_)
      · omega
      · refine br_aload_n C dX2_removeAt_29 rfl rfl ?_
        refine br_getR C fdX2_9 dX2_removeAt_30 hq rfl ?_
        refine br_iload_n C dX2_removeAt_33 rfl rfl ?_
        refine br_iconstJ C dX2_removeAt_34 ?_
        refine br_isubJ C dX2_removeAt_35 ?_
        refine br_aload_n C dX2_removeAt_36 rfl rfl ?_
        refine br_getR C fdX2_9 dX2_removeAt_37 hq rfl ?_
        refine br_iload_n C dX2_removeAt_40 rfl rfl ?_
        refine br_ialdJ C hq1 (by decide) (by omega) (by omega) (y := (r.2 i : Nat)) (by rw [show ((i : Nat) : Int).toNat = i by omega, hm i (by omega), if_neg (by omega), if_neg (by omega)]) dX2_removeAt_41 ?_
        refine br_iastJ C hq1 (by decide) (by omega) (by omega) rfl dX2_removeAt_42 ?_
        refine br_iincJ C dX2_removeAt_43 rfl (by decide) rfl (L' := [_, _, _, _]) rfl ?_
        refine br_goto C dX2_removeAt_46 (tgt := 21) (by decide) ?_
        refine ih (i + 1) _ (by omega) (by omega) (hsm.up (by simp)) (by simp only [br_up]; rw [if_neg (by omega)]; exact hs1) (fun j hj => ?_)
        simp only [br_up]
        rw [if_pos True.intro]
        by_cases e : j = ((i : Int) - 1).toNat
        · rw [if_pos e, if_neg (by omega), if_pos (by omega), show j + 1 = i by omega]
        · rw [if_neg e, hm j hj]
          by_cases e1 : j < k
          · rw [if_pos e1, if_pos e1]
          · rw [if_neg e1, if_neg e1]
            by_cases e2 : j + 1 < i
            · rw [if_pos e2, if_pos (by omega)]
            · rw [if_neg e2, if_neg (by omega)]
  refine br_aload_n C dX2_removeAt_0 rfl rfl ?_
  refine br_iload_n C dX2_removeAt_1 rfl rfl ?_
  refine br_cv1B C vcX2_23 (c_X2_reaches hq hq1 hr0 h5 k (by omega)) (by decide) hq rfl (fun _ => Nat.le_of_ble_eq_true rfl) dX2_removeAt_2 (fun h2 => ?_) (fun h2 => ?_)
  · refine br_if_ne1 C dX2_removeAt_5 (tgt := 10) (by decide) ?_
    refine br_aload_n C dX2_removeAt_10 rfl rfl ?_
    refine br_getR C fdX2_9 dX2_removeAt_11 hq rfl ?_
    refine br_iload_n C dX2_removeAt_14 rfl rfl ?_
    refine br_ialdJ C hq1 (by decide) (by omega) (by omega) (hp k (by omega)) dX2_removeAt_15 ?_
    refine br_istore_n C dX2_removeAt_16 rfl (by decide) rfl (L' := [_, _, _, _]) rfl ?_
    refine br_iload_n C dX2_removeAt_17 rfl rfl ?_
    refine br_iconstJ C dX2_removeAt_18 ?_
    refine br_iaddJ C dX2_removeAt_19 ?_
    refine br_istore_n C dX2_removeAt_20 rfl (by decide) rfl (L' := [_, _, _, _]) rfl ?_
    exact loop (r.1 - (k + 1)) (k + 1) σ (by omega) (by omega) br_sm.rfl hs (fun j hj => by
      rw [hp j hj]
      by_cases e1 : j < k
      · rw [if_pos e1]
      · rw [if_neg e1, if_neg (by omega)])
  · refine br_if_ne0 C dX2_removeAt_5 (tgt := 10) (by decide) ?_
    omega

theorem br_RC_swp {q : Nat} {σ : br_Wd} {r : br_Ro} (hr : br_RC q σ r) (a b : Nat) (ha : a < r.1) (hb : b < r.1) : br_RC q (br_up (br_up σ (q + 1) a (br_J (r.2 b : Nat))) (q + 1) b (br_J (r.2 a : Nat))) (br_swp r a b) := by
  refine ⟨?_, fun j hj => ?_⟩
  · simp only [br_up]
    rw [if_neg (by omega), if_neg (by omega)]
    exact hr.1
  · have hj' : j < r.1 := hj
    simp only [br_up, br_swp]
    rw [if_pos True.intro]
    by_cases e : j = b
    · rw [if_pos e, if_pos e]
    · rw [if_neg e, if_neg e, if_pos True.intro]
      by_cases e2 : j = a
      · rw [if_pos e2, if_pos e2]
      · rw [if_neg e2, if_neg e2]; exact hr.2 j (by omega)

set_option maxHeartbeats 4000000 in
set_option maxRecDepth 100000 in
theorem c_X2_exchange {σ : br_Wd} {q : Nat} (hq : br_shps[q]? = some (.inr (2, [br_fr 3, br_fr (q + 1), none]))) (hq1 : br_shps[q + 1]? = some (.inl (false, 5))) {r : br_Ro} (hr : br_RC q σ r) (h5 : r.1 ≤ 5) (a b : Nat) (ha : a < r.1) (hb : b < r.1) : br_Met 1 mX2_exchange [br_r q, br_i (br_J a), br_i (br_J b)] σ (fun v τ => v = none ∧ br_RC q τ (br_swp r a b) ∧ br_sm [q, q + 1] σ τ) := by
  have hr0 := hr
  obtain ⟨hs, hp⟩ := hr
  refine br_ofW (by decide) 1 rfl (fun G C => ?_)
  refine br_aload_n C dX2_exchange_0 rfl rfl ?_
  refine br_iload_n C dX2_exchange_1 rfl rfl ?_
  refine br_cv1B C vcX2_23 (c_X2_reaches hq hq1 hr0 h5 a (by omega)) (by decide) hq rfl (fun _ => Nat.le_of_ble_eq_true rfl) dX2_exchange_2 (fun h2 => ?_) (fun h2 => ?_)
  · refine br_if_eq1 C dX2_exchange_5 (tgt := 42) (by decide) ?_
    refine br_aload_n C dX2_exchange_8 rfl rfl ?_
    refine br_iload_n C dX2_exchange_9 rfl rfl ?_
    refine br_cv1B C vcX2_23 (c_X2_reaches hq hq1 hr0 h5 b (by omega)) (by decide) hq rfl (fun _ => Nat.le_of_ble_eq_true rfl) dX2_exchange_10 (fun h10 => ?_) (fun h10 => ?_)
    · refine br_if_eq1 C dX2_exchange_13 (tgt := 42) (by decide) ?_
      refine br_aload_n C dX2_exchange_16 rfl rfl ?_
      refine br_getR C fdX2_9 dX2_exchange_17 hq rfl ?_
      refine br_iload_n C dX2_exchange_20 rfl rfl ?_
      refine br_ialdJ C hq1 (by decide) (by omega) (by omega) (hp a (by omega)) dX2_exchange_21 ?_
      refine br_istore_n C dX2_exchange_22 rfl (by decide) rfl (L' := [_, _, _, _]) rfl ?_
      refine br_aload_n C dX2_exchange_23 rfl rfl ?_
      refine br_getR C fdX2_9 dX2_exchange_24 hq rfl ?_
      refine br_iload_n C dX2_exchange_27 rfl rfl ?_
      refine br_aload_n C dX2_exchange_28 rfl rfl ?_
      refine br_getR C fdX2_9 dX2_exchange_29 hq rfl ?_
      refine br_iload_n C dX2_exchange_32 rfl rfl ?_
      refine br_ialdJ C hq1 (by decide) (by omega) (by omega) (hp b (by omega)) dX2_exchange_33 ?_
      refine br_iastJ C hq1 (by decide) (by omega) (by omega) rfl dX2_exchange_34 ?_
      refine br_aload_n C dX2_exchange_35 rfl rfl ?_
      refine br_getR C fdX2_9 dX2_exchange_36 hq rfl ?_
      refine br_iload_n C dX2_exchange_39 rfl rfl ?_
      refine br_iload_n C dX2_exchange_40 rfl rfl ?_
      refine br_iastJ C hq1 (by decide) (by omega) (by omega) rfl dX2_exchange_41 ?_
      exact br_vret C rfl dX2_exchange_42 ⟨rfl, by simpa using br_RC_swp hr0 a b ha hb, (br_sm.rfl.up (by simp)).up (by simp)⟩
    · omega
  · omega

set_option maxHeartbeats 4000000 in
set_option maxRecDepth 100000 in
theorem c_X2_copyFrom {σ : br_Wd} {q : Nat} (hq : br_shps[q]? = some (.inr (2, [br_fr 3, br_fr (q + 1), none]))) (hq1 : br_shps[q + 1]? = some (.inl (false, 5))) {q2 : Nat} (hq2 : br_shps[q2]? = some (.inr (2, [br_fr 3, br_fr (q2 + 1), none]))) (hq3 : br_shps[q2 + 1]? = some (.inl (false, 5))) {r2 : br_Ro} (hr2 : br_RC q2 σ r2) (h52 : r2.1 ≤ 5) (hne : ¬ q2 = q ∧ ¬ q2 = q + 1 ∧ ¬ q2 + 1 = q) : br_Met 0 mX2_copyFrom [br_r q, br_r q2] σ (fun v τ => v = none ∧ br_RC q τ r2 ∧ br_sm [q, q + 1] σ τ) := by
  obtain ⟨hs2, hp2⟩ := hr2
  refine br_ofW (by decide) 1 rfl (fun G C => ?_)
  have loop : ∀ (n i : Nat) (τ : br_Wd), i + n = r2.1 → br_sm [q, q + 1] σ τ → τ.1 q 2 = br_J r2.1 → (∀ j : Nat, j < i → τ.1 (q + 1) j = br_J (r2.2 j : Nat)) → G 10 [some (br_r q), some (br_r q2), some (br_i (br_J i))] [] τ := by
    intro n
    induction n with
    | zero =>
      intro i τ hin hsm hs1 hm
      refine br_iload_n C dX2_copyFrom_10 rfl rfl ?_
      refine br_aload_n C dX2_copyFrom_11 rfl rfl ?_
      refine br_getI C fdX2_15 dX2_copyFrom_12 hq rfl hs1 ?_
      refine br_icmp_geJ C (by omega) (by omega) dX2_copyFrom_15 (tgt := 36) (by decide) (fun c15 => ?_) (fun c15 => ?_)
      · exact br_vret C rfl dX2_copyFrom_36 ⟨rfl, ⟨hs1, fun j hj => hm j (by omega)⟩, hsm⟩
      · omega
    | succ n ih =>
      intro i τ hin hsm hs1 hm
      refine br_iload_n C dX2_copyFrom_10 rfl rfl ?_
      refine br_aload_n C dX2_copyFrom_11 rfl rfl ?_
      refine br_getI C fdX2_15 dX2_copyFrom_12 hq rfl hs1 ?_
      refine br_icmp_geJ C (by omega) (by omega) dX2_copyFrom_15 (tgt := 36) (by decide) (fun c15 => ?_) (fun c15 => ?_)
      · omega
      · refine br_aload_n C dX2_copyFrom_18 rfl rfl ?_
        refine br_getR C fdX2_9 dX2_copyFrom_19 hq rfl ?_
        refine br_iload_n C dX2_copyFrom_22 rfl rfl ?_
        refine br_aload_n C dX2_copyFrom_23 rfl rfl ?_
        refine br_getR C fdX2_9 dX2_copyFrom_24 hq2 rfl ?_
        refine br_iload_n C dX2_copyFrom_27 rfl rfl ?_
        refine br_ialdJ C hq3 (by decide) (by omega) (by omega) (y := (r2.2 i : Nat)) (by rw [show ((i : Nat) : Int).toNat = i by omega, hsm.1 (q2 + 1) (by simp; omega)]; exact hp2 i (by omega)) dX2_copyFrom_28 ?_
        refine br_iastJ C hq1 (by decide) (by omega) (by omega) rfl dX2_copyFrom_29 ?_
        refine br_iincJ C dX2_copyFrom_30 rfl (by decide) rfl (L' := [_, _, _]) rfl ?_
        refine br_goto C dX2_copyFrom_33 (tgt := 10) (by decide) ?_
        refine ih (i + 1) _ (by omega) (hsm.up (by simp)) (by simp only [br_up]; rw [if_neg (by omega)]; exact hs1) (fun j hj => ?_)
        simp only [br_up]
        rw [if_pos True.intro]
        by_cases e : j = ((i : Nat) : Int).toNat
        · rw [if_pos e, show j = i by omega]
        · rw [if_neg e]; exact hm j (by omega)
  refine br_aload_n C dX2_copyFrom_0 rfl rfl ?_
  refine br_aload_n C dX2_copyFrom_1 rfl rfl ?_
  refine br_getI C fdX2_15 dX2_copyFrom_2 hq2 rfl hs2 ?_
  refine br_putI C fdX2_15 dX2_copyFrom_5 hq rfl rfl ?_
  refine br_iconstJ C dX2_copyFrom_8 ?_
  refine br_istore_n C dX2_copyFrom_9 rfl (by decide) rfl (L' := [_, _, _]) rfl ?_
  exact loop r2.1 0 _ (by omega) (br_sm.rfl.up (by simp)) (by simp [br_up]) (fun j hj => absurd hj (by omega))
