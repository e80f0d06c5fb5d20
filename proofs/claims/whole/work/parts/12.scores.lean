theorem br_kO_bnd {g : br_Gy} (hg : br_Gok g) (z : Int) : -1 ≤ br_kO g z ∧ br_kO g z ≤ 4 := by
  unfold br_kO; split
  · have := (hg.2 z.toNat (by omega)).1
    omega
  · omega
theorem br_sO_bnd {g : br_Gy} (hg : br_Gok g) (z : Int) : 0 ≤ br_sO g z ∧ br_sO g z ≤ 9 := by
  unfold br_sO; split
  · have := (hg.2 z.toNat (by omega)).2.2
    omega
  · omega
theorem br_kO_in {g : br_Gy} {p : Nat} (h : p < g.1) : br_kO g p = br_gK g p := by
  unfold br_kO; rw [if_pos (by omega)]; rfl
theorem br_sO_in {g : br_Gy} {p : Nat} (h : p < g.1) : br_sO g p = br_gS g p := by
  unfold br_sO; rw [if_pos (by omega)]; rfl
theorem br_wO_in {g : br_Gy} {p : Nat} (h : p < g.1) : br_wO g p = br_gW g p := by
  unfold br_wO; rw [if_pos (by omega)]; rfl
theorem br_pO_in {r : br_Ro} {i : Nat} (h : i < r.1) : br_pO r i = (r.2 i : Nat) := by
  unfold br_pO; rw [if_pos (by omega)]; rfl
theorem br_pO_out {r : br_Ro} {z : Int} (h : r.1 ≤ z) : br_pO r z = -1 := by
  unfold br_pO; rw [if_neg (by omega)]
theorem br_pO_bnd {g : br_Gy} {r : br_Ro} (hg : br_Gok g) (hr : br_Rok g r) (z : Int) : -1 ≤ br_pO r z ∧ br_pO r z ≤ 6 := by
  unfold br_pO; split
  · have := hr.2.1 z.toNat (by omega)
    have := hg.1
    omega
  · omega
theorem br_isP_F {g : br_Gy} {p : Nat} (h : p < g.1) : br_isP g p 1 ↔ br_isF g p := by
  unfold br_isP br_isF
  rw [show ((p : Nat) : Int).toNat = p from rfl]
  omega
theorem br_isP_T {g : br_Gy} {p : Nat} (h : p < g.1) : br_isP g p 2 ↔ br_isT g p := by
  unfold br_isP br_isT
  rw [show ((p : Nat) : Int).toNat = p from rfl]
  omega
theorem br_isP_4 {g : br_Gy} {p : Nat} (h : p < g.1) : br_isP g p 4 ↔ br_gK g p = 4 := by
  unfold br_isP
  rw [show ((p : Nat) : Int).toNat = p from rfl]
  omega
theorem br_nF_bnd (g : br_Gy) (r : br_Ro) (h : r.1 ≤ 5) : 0 ≤ br_nF g r ∧ br_nF g r ≤ 5 := by
  have := br_sum_bnd (f := fun i => if br_isF g (r.2 i) then 1 else 0) (n := r.1) (a := 0) (b := 1) (fun j _ => by split <;> omega)
  unfold br_nF; omega
theorem br_nT_bnd (g : br_Gy) (r : br_Ro) (h : r.1 ≤ 5) : 0 ≤ br_nT g r ∧ br_nT g r ≤ 5 := by
  have := br_sum_bnd (f := fun i => if br_isT g (r.2 i) then 1 else 0) (n := r.1) (a := 0) (b := 1) (fun j _ => by split <;> omega)
  unfold br_nT; omega
theorem br_shl1 {k : Nat} (h : k ≤ 5) : br_J 1 <<< (br_J k &&& 31) = br_J ((2 ^ k : Nat) : Int) := by
  have key : ∀ k : Fin 6, br_J 1 <<< (br_J (k : Nat) &&& 31) = br_J ((2 ^ (k : Nat) : Nat) : Int) := by decide +kernel
  exact key ⟨k, by omega⟩

set_option maxHeartbeats 4000000 in
set_option maxRecDepth 100000 in
theorem c_X2_howMany {σ : br_Wd} {q : Nat} (hq : br_shps[q]? = some (.inr (2, [br_fr 3, br_fr (q + 1), none]))) (hq1 : br_shps[q + 1]? = some (.inl (false, 5))) {g : br_Gy} {r : br_Ro} (hg : br_GC σ g) (hgo : br_Gok g) (hr : br_RC q σ r) (hro : br_Rok g r) (kd : Int) (hkd : -2147483648 ≤ kd ∧ kd < 2147483648) : br_Met 2 mX2_howMany [br_r q, br_i (br_J kd)] σ (br_R (br_J (br_sum (fun j => if br_isP g (r.2 j : Nat) kd then 1 else 0) r.1)) σ) := by
  have hr0 := hr
  have hg0 := hg
  obtain ⟨hs, hp⟩ := hr
  have h5 := hro.1
  have hn := hgo.1
  have hk := fun (j : Nat) (hj : j < g.1) => (hgo.2 j hj).1
  refine br_ofW (by decide) 2 rfl (fun G C => ?_)
  have loop : ∀ (n i : Nat) (a : Int), i + n = r.1 → a = br_sum (fun j => if br_isP g (r.2 j : Nat) kd then 1 else 0) i → G 4 [some (br_r q), some (br_i (br_J kd)), some (br_i (br_J a)), some (br_i (br_J i))] [] σ := by
    intro n
    induction n with
    | zero =>
      intro i a hin ha
      have ei : i = r.1 := by omega
      subst ei
      refine br_iload_n C dX2_howMany_4 rfl rfl ?_
      refine br_aload_n C dX2_howMany_5 rfl rfl ?_
      refine br_getI C fdX2_15 dX2_howMany_6 hq rfl (by assumption) ?_
      refine br_icmp_geJ C (by omega) (by omega) dX2_howMany_9 (tgt := 43) (by decide) (fun c9 => ?_) (fun c9 => ?_)
      · refine br_iload_n C dX2_howMany_43 rfl rfl ?_
        exact br_iret C rfl dX2_howMany_44 ⟨by rw [ha], rfl⟩
      · omega
    | succ n ih =>
      intro i a hin ha
      have hi : i < r.1 := by omega
      refine br_iload_n C dX2_howMany_4 rfl rfl ?_
      refine br_aload_n C dX2_howMany_5 rfl rfl ?_
      refine br_getI C fdX2_15 dX2_howMany_6 hq rfl (by assumption) ?_
      refine br_icmp_geJ C (by omega) (by omega) dX2_howMany_9 (tgt := 43) (by decide) (fun c9 => ?_) (fun c9 => ?_)
      · omega
      · refine br_iload_n C dX2_howMany_12 rfl rfl ?_
        refine br_aload_n C dX2_howMany_13 rfl rfl ?_
        refine br_getR C fdX2_19 dX2_howMany_14 hq rfl ?_
        refine br_aload_n C dX2_howMany_17 rfl rfl ?_
        refine br_getR C fdX2_9 dX2_howMany_18 hq rfl ?_
        refine br_iload_n C dX2_howMany_21 rfl rfl ?_
        have hri := hro.2.1 i hi
        refine br_ialdJ C hq1 (by decide) (by omega) (by omega) (hp i (by omega)) dX2_howMany_22 ?_
        refine br_iload_n C dX2_howMany_23 rfl rfl ?_
        refine br_cv2B C vcX2_31 (c_X0_isA hg0 hn hk (r.2 i : Nat) kd (by omega) (by omega)) (by decide) rfl rfl (fun _ => Nat.le_of_ble_eq_true rfl) dX2_howMany_24 (fun h24 => ?_) (fun h24 => ?_)
        · refine br_if_eq1 C dX2_howMany_27 (tgt := 34) (by decide) ?_
          refine br_iconstJ C dX2_howMany_30 ?_
          refine br_goto C dX2_howMany_31 (tgt := 35) (by decide) ?_
          refine br_iaddJ C dX2_howMany_35 ?_
          refine br_istore_n C dX2_howMany_36 rfl (by decide) rfl (L' := [_, _, _, _]) rfl ?_
          refine br_iincJ C dX2_howMany_37 rfl (by decide) rfl (L' := [_, _, _, _]) rfl ?_
          refine br_goto C dX2_howMany_40 (tgt := 4) (by decide) ?_
          exact ih (i + 1) _ (by omega) (by show _ = br_sum _ i + (if _ then _ else _); rw [← ha]; first | rw [if_pos h24] | rw [if_neg h24])
        · refine br_if_eq0 C dX2_howMany_27 (tgt := 34) (by decide) ?_
          refine br_iconstJ C dX2_howMany_34 ?_
          refine br_iaddJ C dX2_howMany_35 ?_
          refine br_istore_n C dX2_howMany_36 rfl (by decide) rfl (L' := [_, _, _, _]) rfl ?_
          refine br_iincJ C dX2_howMany_37 rfl (by decide) rfl (L' := [_, _, _, _]) rfl ?_
          refine br_goto C dX2_howMany_40 (tgt := 4) (by decide) ?_
          exact ih (i + 1) _ (by omega) (by show _ = br_sum _ i + (if _ then _ else _); rw [← ha]; first | rw [if_pos h24] | rw [if_neg h24])
  refine br_iconstJ C dX2_howMany_0 ?_
  refine br_istore_n C dX2_howMany_1 rfl (by decide) rfl (L' := [_, _, _, _]) rfl ?_
  refine br_iconstJ C dX2_howMany_2 ?_
  refine br_istore_n C dX2_howMany_3 rfl (by decide) rfl (L' := [_, _, _, _]) rfl ?_
  exact loop r.1 0 0 (by omega) rfl

theorem br_nF_eq {g : br_Gy} {r : br_Ro} (hr : br_Rok g r) : br_sum (fun j => if br_isP g (r.2 j : Nat) 1 then 1 else 0) r.1 = br_nF g r := br_sum_congr (fun j hj => by
  have := br_isP_F (hr.2.1 j hj)
  by_cases h : br_isF g (r.2 j)
  · rw [if_pos h, if_pos (this.mpr h)]
  · rw [if_neg h, if_neg (fun q => h (this.mp q))])
theorem br_nT_eq {g : br_Gy} {r : br_Ro} (hr : br_Rok g r) : br_sum (fun j => if br_isP g (r.2 j : Nat) 2 then 1 else 0) r.1 = br_nT g r := br_sum_congr (fun j hj => by
  have := br_isP_T (hr.2.1 j hj)
  by_cases h : br_isT g (r.2 j)
  · rw [if_pos h, if_pos (this.mpr h)]
  · rw [if_neg h, if_neg (fun q => h (this.mp q))])

theorem c_howF {σ : br_Wd} {q : Nat} (hq : br_shps[q]? = some (.inr (2, [br_fr 3, br_fr (q + 1), none]))) (hq1 : br_shps[q + 1]? = some (.inl (false, 5))) {g : br_Gy} {r : br_Ro} (hg : br_GC σ g) (hgo : br_Gok g) (hr : br_RC q σ r) (hro : br_Rok g r) : br_Met 2 mX2_howMany [br_r q, br_i (br_J 1)] σ (br_R (br_J (br_nF g r)) σ) := by
  rw [← br_nF_eq hro]
  exact c_X2_howMany hq hq1 hg hgo hr hro 1 (by omega)

theorem c_howT {σ : br_Wd} {q : Nat} (hq : br_shps[q]? = some (.inr (2, [br_fr 3, br_fr (q + 1), none]))) (hq1 : br_shps[q + 1]? = some (.inl (false, 5))) {g : br_Gy} {r : br_Ro} (hg : br_GC σ g) (hgo : br_Gok g) (hr : br_RC q σ r) (hro : br_Rok g r) : br_Met 2 mX2_howMany [br_r q, br_i (br_J 2)] σ (br_R (br_J (br_nT g r)) σ) := by
  rw [← br_nT_eq hro]
  exact c_X2_howMany hq hq1 hg hgo hr hro 2 (by omega)

set_option maxHeartbeats 4000000 in
set_option maxRecDepth 100000 in
theorem c_X2_lackingPenalty {σ : br_Wd} {q : Nat} (hq : br_shps[q]? = some (.inr (2, [br_fr 3, br_fr (q + 1), none]))) (hq1 : br_shps[q + 1]? = some (.inl (false, 5))) {g : br_Gy} {r : br_Ro} (hg : br_GC σ g) (hgo : br_Gok g) (hr : br_RC q σ r) (hro : br_Rok g r) : br_Met 3 mX2_lackingPenalty [br_r q] σ (br_R (br_J (br_pen g r)) σ) := by
  have hr0 := hr
  have hg0 := hg
  obtain ⟨hs, hp⟩ := hr
  have h5 := hro.1
  have hn := hgo.1
  have hk := fun (j : Nat) (hj : j < g.1) => (hgo.2 j hj).1
  refine br_ofW (by decide) 0 rfl (fun G C => ?_)
  have hF := br_nF_bnd g r h5
  have hT := br_nT_bnd g r h5
  refine br_aload_n C dX2_lackingPenalty_0 rfl rfl ?_
  refine br_iconstJ C dX2_lackingPenalty_1 ?_
  refine br_cv1R C vcX2_43 (c_howF hq hq1 hg0 hgo hr0 hro) (by decide) hq rfl (fun _ => Nat.le_of_ble_eq_true rfl) dX2_lackingPenalty_2 ?_
  refine br_if_neJ C (by omega) dX2_lackingPenalty_5 (tgt := 12) (by decide) (fun c5 => ?_) (fun c5 => ?_)
  · refine br_iconstJ C dX2_lackingPenalty_12 ?_
    refine br_aload_n C dX2_lackingPenalty_13 rfl rfl ?_
    refine br_iconstJ C dX2_lackingPenalty_14 ?_
    refine br_cv1R C vcX2_43 (c_howT hq hq1 hg0 hgo hr0 hro) (by decide) hq rfl (fun _ => Nat.le_of_ble_eq_true rfl) dX2_lackingPenalty_15 ?_
    refine br_if_neJ C (by omega) dX2_lackingPenalty_18 (tgt := 25) (by decide) (fun c18 => ?_) (fun c18 => ?_)
    · refine br_iconstJ C dX2_lackingPenalty_25 ?_
      refine br_iaddJ C dX2_lackingPenalty_26 ?_
      exact br_iret C rfl dX2_lackingPenalty_27 ⟨by unfold br_pen; first | rw [if_pos (by omega), if_pos (by omega)] | rw [if_pos (by omega), if_neg (by omega)] | rw [if_neg (by omega), if_pos (by omega)] | rw [if_neg (by omega), if_neg (by omega)], rfl⟩
    · refine br_iconstJ C dX2_lackingPenalty_21 ?_
      refine br_goto C dX2_lackingPenalty_22 (tgt := 26) (by decide) ?_
      refine br_iaddJ C dX2_lackingPenalty_26 ?_
      exact br_iret C rfl dX2_lackingPenalty_27 ⟨by unfold br_pen; first | rw [if_pos (by omega), if_pos (by omega)] | rw [if_pos (by omega), if_neg (by omega)] | rw [if_neg (by omega), if_pos (by omega)] | rw [if_neg (by omega), if_neg (by omega)], rfl⟩
  · refine br_iconstJ C dX2_lackingPenalty_8 ?_
    refine br_goto C dX2_lackingPenalty_9 (tgt := 13) (by decide) ?_
    refine br_aload_n C dX2_lackingPenalty_13 rfl rfl ?_
    refine br_iconstJ C dX2_lackingPenalty_14 ?_
    refine br_cv1R C vcX2_43 (c_howT hq hq1 hg0 hgo hr0 hro) (by decide) hq rfl (fun _ => Nat.le_of_ble_eq_true rfl) dX2_lackingPenalty_15 ?_
    refine br_if_neJ C (by omega) dX2_lackingPenalty_18 (tgt := 25) (by decide) (fun c18 => ?_) (fun c18 => ?_)
    · refine br_iconstJ C dX2_lackingPenalty_25 ?_
      refine br_iaddJ C dX2_lackingPenalty_26 ?_
      exact br_iret C rfl dX2_lackingPenalty_27 ⟨by unfold br_pen; first | rw [if_pos (by omega), if_pos (by omega)] | rw [if_pos (by omega), if_neg (by omega)] | rw [if_neg (by omega), if_pos (by omega)] | rw [if_neg (by omega), if_neg (by omega)], rfl⟩
    · refine br_iconstJ C dX2_lackingPenalty_21 ?_
      refine br_goto C dX2_lackingPenalty_22 (tgt := 26) (by decide) ?_
      refine br_iaddJ C dX2_lackingPenalty_26 ?_
      exact br_iret C rfl dX2_lackingPenalty_27 ⟨by unfold br_pen; first | rw [if_pos (by omega), if_pos (by omega)] | rw [if_pos (by omega), if_neg (by omega)] | rw [if_neg (by omega), if_pos (by omega)] | rw [if_neg (by omega), if_neg (by omega)], rfl⟩

set_option maxHeartbeats 4000000 in
set_option maxRecDepth 100000 in
theorem c_X2_joinWorth {σ : br_Wd} {q : Nat} (hq : br_shps[q]? = some (.inr (2, [br_fr 3, br_fr (q + 1), none]))) (hq1 : br_shps[q + 1]? = some (.inl (false, 5))) {g : br_Gy} {r : br_Ro} (hg : br_GC σ g) (hgo : br_Gok g) (hr : br_RC q σ r) (hro : br_Rok g r) (i : Nat) (hi : i < r.1) : br_Met 2 mX2_joinWorth [br_r q, br_i (br_J i)] σ (br_R (br_J (br_jw g r i)) σ) := by
  have hr0 := hr
  have hg0 := hg
  obtain ⟨hs, hp⟩ := hr
  have h5 := hro.1
  have hn := hgo.1
  have hk := fun (j : Nat) (hj : j < g.1) => (hgo.2 j hj).1
  refine br_ofW (by decide) 2 rfl (fun G C => ?_)
  have hri := hro.2.1 i hi
  have hc1 := c_X2_pieceAt hq hq1 hr0 h5 i (by omega)
  rw [br_pO_in hi] at hc1
  have hs2 := br_pO_bnd hgo hro (i + 1)
  have hA := br_isP_F hri
  have hD := br_isP_4 hri
  have hB : br_isP g (br_pO r (i + 1)) 1 ↔ i + 1 < r.1 ∧ br_isF g (r.2 (i + 1)) := by
    by_cases h : i + 1 < r.1
    · rw [show ((i : Int) + 1) = ((i + 1 : Nat) : Int) from rfl, br_pO_in h, br_isP_F (hro.2.1 (i + 1) h)]
      exact ⟨fun q => ⟨h, q⟩, fun q => q.2⟩
    · rw [br_pO_out (by omega)]
      exact ⟨fun q => absurd q.1.1 (by omega), fun q => absurd q.1 h⟩
  have hC : br_isP g (br_pO r (i + 1)) 2 ↔ i + 1 < r.1 ∧ br_isT g (r.2 (i + 1)) := by
    by_cases h : i + 1 < r.1
    · rw [show ((i : Int) + 1) = ((i + 1 : Nat) : Int) from rfl, br_pO_in h, br_isP_T (hro.2.1 (i + 1) h)]
      exact ⟨fun q => ⟨h, q⟩, fun q => q.2⟩
    · rw [br_pO_out (by omega)]
      exact ⟨fun q => absurd q.1.1 (by omega), fun q => absurd q.1 h⟩
  refine br_aload_n C dX2_joinWorth_0 rfl rfl ?_
  refine br_iload_n C dX2_joinWorth_1 rfl rfl ?_
  refine br_cv1R C vcX2_40 (hc1) (by decide) hq rfl (fun _ => Nat.le_of_ble_eq_true rfl) dX2_joinWorth_2 ?_
  refine br_istore_n C dX2_joinWorth_5 rfl (by decide) rfl (L' := [_, _, _, _]) rfl ?_
  refine br_aload_n C dX2_joinWorth_6 rfl rfl ?_
  refine br_iload_n C dX2_joinWorth_7 rfl rfl ?_
  refine br_iconstJ C dX2_joinWorth_8 ?_
  refine br_iaddJ C dX2_joinWorth_9 ?_
  refine br_cv1R C vcX2_40 (c_X2_pieceAt hq hq1 hr0 h5 (i + 1) (by omega)) (by decide) hq rfl (fun _ => Nat.le_of_ble_eq_true rfl) dX2_joinWorth_10 ?_
  refine br_istore_n C dX2_joinWorth_13 rfl (by decide) rfl (L' := [_, _, _, _]) rfl ?_
  refine br_aload_n C dX2_joinWorth_14 rfl rfl ?_
  refine br_getR C fdX2_19 dX2_joinWorth_15 hq rfl ?_
  refine br_iload_n C dX2_joinWorth_18 rfl rfl ?_
  refine br_iconstJ C dX2_joinWorth_19 ?_
  refine br_cv2B C vcX2_31 (c_X0_isA hg0 hn hk (r.2 i : Nat) 1 (by omega) (by omega)) (by decide) rfl rfl (fun _ => Nat.le_of_ble_eq_true rfl) dX2_joinWorth_20 (fun h20 => ?_) (fun h20 => ?_)
  · refine br_if_eq1 C dX2_joinWorth_23 (tgt := 50) (by decide) ?_
    refine br_aload_n C dX2_joinWorth_26 rfl rfl ?_
    refine br_getR C fdX2_19 dX2_joinWorth_27 hq rfl ?_
    refine br_iload_n C dX2_joinWorth_30 rfl rfl ?_
    refine br_iconstJ C dX2_joinWorth_31 ?_
    refine br_cv2B C vcX2_31 (c_X0_isA hg0 hn hk (br_pO r (i + 1)) 1 (by omega) (by omega)) (by decide) rfl rfl (fun _ => Nat.le_of_ble_eq_true rfl) dX2_joinWorth_32 (fun h32 => ?_) (fun h32 => ?_)
    · refine br_if_ne1 C dX2_joinWorth_35 (tgt := 52) (by decide) ?_
      refine br_aload_n C dX2_joinWorth_52 rfl rfl ?_
      refine br_getR C fdX2_19 dX2_joinWorth_53 hq rfl ?_
      refine br_iload_n C dX2_joinWorth_56 rfl rfl ?_
      refine br_iconstJ C dX2_joinWorth_57 ?_
      refine br_cv2B C vcX2_31 (c_X0_isA hg0 hn hk (r.2 i : Nat) 4 (by omega) (by omega)) (by decide) rfl rfl (fun _ => Nat.le_of_ble_eq_true rfl) dX2_joinWorth_58 (fun h58 => ?_) (fun h58 => ?_)
      · refine br_if_eq1 C dX2_joinWorth_61 (tgt := 68) (by decide) ?_
        refine br_iconstJ C dX2_joinWorth_64 ?_
        refine br_goto C dX2_joinWorth_65 (tgt := 69) (by decide) ?_
        exact br_iret C rfl dX2_joinWorth_69 ⟨by unfold br_jw; (first | rw [if_pos (⟨(hB.mp h32).1, hA.mp h20, Or.inl (hB.mp h32).2⟩ : i + 1 < r.1 ∧ br_isF g (r.2 i) ∧ (br_isF g (r.2 (i + 1)) ∨ br_isT g (r.2 (i + 1))))] | rw [if_pos (⟨(hC.mp h44).1, hA.mp h20, Or.inr (hC.mp h44).2⟩ : i + 1 < r.1 ∧ br_isF g (r.2 i) ∧ (br_isF g (r.2 (i + 1)) ∨ br_isT g (r.2 (i + 1))))]); (first | rw [if_pos (hD.mp h58)] | rw [if_neg (fun q => h58 (hD.mpr q))]), rfl⟩
      · refine br_if_eq0 C dX2_joinWorth_61 (tgt := 68) (by decide) ?_
        refine br_iconstJ C dX2_joinWorth_68 ?_
        exact br_iret C rfl dX2_joinWorth_69 ⟨by unfold br_jw; (first | rw [if_pos (⟨(hB.mp h32).1, hA.mp h20, Or.inl (hB.mp h32).2⟩ : i + 1 < r.1 ∧ br_isF g (r.2 i) ∧ (br_isF g (r.2 (i + 1)) ∨ br_isT g (r.2 (i + 1))))] | rw [if_pos (⟨(hC.mp h44).1, hA.mp h20, Or.inr (hC.mp h44).2⟩ : i + 1 < r.1 ∧ br_isF g (r.2 i) ∧ (br_isF g (r.2 (i + 1)) ∨ br_isT g (r.2 (i + 1))))]); (first | rw [if_pos (hD.mp h58)] | rw [if_neg (fun q => h58 (hD.mpr q))]), rfl⟩
    · refine br_if_ne0 C dX2_joinWorth_35 (tgt := 52) (by decide) ?_
      refine br_aload_n C dX2_joinWorth_38 rfl rfl ?_
      refine br_getR C fdX2_19 dX2_joinWorth_39 hq rfl ?_
      refine br_iload_n C dX2_joinWorth_42 rfl rfl ?_
      refine br_iconstJ C dX2_joinWorth_43 ?_
      refine br_cv2B C vcX2_31 (c_X0_isA hg0 hn hk (br_pO r (i + 1)) 2 (by omega) (by omega)) (by decide) rfl rfl (fun _ => Nat.le_of_ble_eq_true rfl) dX2_joinWorth_44 (fun h44 => ?_) (fun h44 => ?_)
      · refine br_if_ne1 C dX2_joinWorth_47 (tgt := 52) (by decide) ?_
        refine br_aload_n C dX2_joinWorth_52 rfl rfl ?_
        refine br_getR C fdX2_19 dX2_joinWorth_53 hq rfl ?_
        refine br_iload_n C dX2_joinWorth_56 rfl rfl ?_
        refine br_iconstJ C dX2_joinWorth_57 ?_
        refine br_cv2B C vcX2_31 (c_X0_isA hg0 hn hk (r.2 i : Nat) 4 (by omega) (by omega)) (by decide) rfl rfl (fun _ => Nat.le_of_ble_eq_true rfl) dX2_joinWorth_58 (fun h58 => ?_) (fun h58 => ?_)
        · refine br_if_eq1 C dX2_joinWorth_61 (tgt := 68) (by decide) ?_
          refine br_iconstJ C dX2_joinWorth_64 ?_
          refine br_goto C dX2_joinWorth_65 (tgt := 69) (by decide) ?_
          exact br_iret C rfl dX2_joinWorth_69 ⟨by unfold br_jw; (first | rw [if_pos (⟨(hB.mp h32).1, hA.mp h20, Or.inl (hB.mp h32).2⟩ : i + 1 < r.1 ∧ br_isF g (r.2 i) ∧ (br_isF g (r.2 (i + 1)) ∨ br_isT g (r.2 (i + 1))))] | rw [if_pos (⟨(hC.mp h44).1, hA.mp h20, Or.inr (hC.mp h44).2⟩ : i + 1 < r.1 ∧ br_isF g (r.2 i) ∧ (br_isF g (r.2 (i + 1)) ∨ br_isT g (r.2 (i + 1))))]); (first | rw [if_pos (hD.mp h58)] | rw [if_neg (fun q => h58 (hD.mpr q))]), rfl⟩
        · refine br_if_eq0 C dX2_joinWorth_61 (tgt := 68) (by decide) ?_
          refine br_iconstJ C dX2_joinWorth_68 ?_
          exact br_iret C rfl dX2_joinWorth_69 ⟨by unfold br_jw; (first | rw [if_pos (⟨(hB.mp h32).1, hA.mp h20, Or.inl (hB.mp h32).2⟩ : i + 1 < r.1 ∧ br_isF g (r.2 i) ∧ (br_isF g (r.2 (i + 1)) ∨ br_isT g (r.2 (i + 1))))] | rw [if_pos (⟨(hC.mp h44).1, hA.mp h20, Or.inr (hC.mp h44).2⟩ : i + 1 < r.1 ∧ br_isF g (r.2 i) ∧ (br_isF g (r.2 (i + 1)) ∨ br_isT g (r.2 (i + 1))))]); (first | rw [if_pos (hD.mp h58)] | rw [if_neg (fun q => h58 (hD.mpr q))]), rfl⟩
      · refine br_if_ne0 C dX2_joinWorth_47 (tgt := 52) (by decide) ?_
        refine br_iconstJ C dX2_joinWorth_50 ?_
        exact br_iret C rfl dX2_joinWorth_51 ⟨by unfold br_jw; rw [if_neg (fun q => by first | exact h20 (hA.mpr q.2.1) | (rcases q.2.2 with q3 | q3; exact h32 (hB.mpr ⟨q.1, q3⟩); exact h44 (hC.mpr ⟨q.1, q3⟩)))], rfl⟩
  · refine br_if_eq0 C dX2_joinWorth_23 (tgt := 50) (by decide) ?_
    refine br_iconstJ C dX2_joinWorth_50 ?_
    exact br_iret C rfl dX2_joinWorth_51 ⟨by unfold br_jw; rw [if_neg (fun q => by first | exact h20 (hA.mpr q.2.1) | (rcases q.2.2 with q3 | q3; exact h32 (hB.mpr ⟨q.1, q3⟩); exact h44 (hC.mpr ⟨q.1, q3⟩)))], rfl⟩

set_option maxHeartbeats 4000000 in
set_option maxRecDepth 100000 in
theorem c_X2_joins {σ : br_Wd} {q : Nat} (hq : br_shps[q]? = some (.inr (2, [br_fr 3, br_fr (q + 1), none]))) (hq1 : br_shps[q + 1]? = some (.inl (false, 5))) {g : br_Gy} {r : br_Ro} (hg : br_GC σ g) (hgo : br_Gok g) (hr : br_RC q σ r) (hro : br_Rok g r) : br_Met 3 mX2_joins [br_r q] σ (br_R (br_J (br_nJ g r)) σ) := by
  have hr0 := hr
  have hg0 := hg
  obtain ⟨hs, hp⟩ := hr
  have h5 := hro.1
  have hn := hgo.1
  have hk := fun (j : Nat) (hj : j < g.1) => (hgo.2 j hj).1
  refine br_ofW (by decide) 2 rfl (fun G C => ?_)
  have loop : ∀ (n i : Nat) (a : Int), i + n = r.1 → a = br_sum (fun i => if 0 < br_jw g r i then 1 else 0) i → G 4 [some (br_r q), some (br_i (br_J a)), some (br_i (br_J i))] [] σ := by
    intro n
    induction n with
    | zero =>
      intro i a hin ha
      have ei : i = r.1 := by omega
      subst ei
      refine br_iload_n C dX2_joins_4 rfl rfl ?_
      refine br_aload_n C dX2_joins_5 rfl rfl ?_
      refine br_getI C fdX2_15 dX2_joins_6 hq rfl (by assumption) ?_
      refine br_icmp_geJ C (by omega) (by omega) dX2_joins_9 (tgt := 34) (by decide) (fun c9 => ?_) (fun c9 => ?_)
      · refine br_iload_n C dX2_joins_34 rfl rfl ?_
        exact br_iret C rfl dX2_joins_35 ⟨by rw [ha]; rfl, rfl⟩
      · omega
    | succ n ih =>
      intro i a hin ha
      have hi : i < r.1 := by omega
      refine br_iload_n C dX2_joins_4 rfl rfl ?_
      refine br_aload_n C dX2_joins_5 rfl rfl ?_
      refine br_getI C fdX2_15 dX2_joins_6 hq rfl (by assumption) ?_
      refine br_icmp_geJ C (by omega) (by omega) dX2_joins_9 (tgt := 34) (by decide) (fun c9 => ?_) (fun c9 => ?_)
      · omega
      · have hj := br_jw_bnd g r i
        refine br_iload_n C dX2_joins_12 rfl rfl ?_
        refine br_aload_n C dX2_joins_13 rfl rfl ?_
        refine br_iload_n C dX2_joins_14 rfl rfl ?_
        refine br_cv1R C vcX2_37 (c_X2_joinWorth hq hq1 hg0 hgo hr0 hro i (by omega)) (by decide) hq rfl (fun _ => Nat.le_of_ble_eq_true rfl) dX2_joins_15 ?_
        refine br_if_leJ C (by omega) dX2_joins_18 (tgt := 25) (by decide) (fun c18 => ?_) (fun c18 => ?_)
        · refine br_iconstJ C dX2_joins_25 ?_
          refine br_iaddJ C dX2_joins_26 ?_
          refine br_istore_n C dX2_joins_27 rfl (by decide) rfl (L' := [_, _, _]) rfl ?_
          refine br_iincJ C dX2_joins_28 rfl (by decide) rfl (L' := [_, _, _]) rfl ?_
          refine br_goto C dX2_joins_31 (tgt := 4) (by decide) ?_
          exact ih (i + 1) _ (by omega) (by show _ = br_sum _ i + (if _ then _ else _); rw [← ha]; first | rw [if_pos c18] | rw [if_neg (by omega)])
        · refine br_iconstJ C dX2_joins_21 ?_
          refine br_goto C dX2_joins_22 (tgt := 26) (by decide) ?_
          refine br_iaddJ C dX2_joins_26 ?_
          refine br_istore_n C dX2_joins_27 rfl (by decide) rfl (L' := [_, _, _]) rfl ?_
          refine br_iincJ C dX2_joins_28 rfl (by decide) rfl (L' := [_, _, _]) rfl ?_
          refine br_goto C dX2_joins_31 (tgt := 4) (by decide) ?_
          exact ih (i + 1) _ (by omega) (by show _ = br_sum _ i + (if _ then _ else _); rw [← ha]; first | rw [if_pos c18] | rw [if_neg (by omega)])
  refine br_iconstJ C dX2_joins_0 ?_
  refine br_istore_n C dX2_joins_1 rfl (by decide) rfl (L' := [_, _, _]) rfl ?_
  refine br_iconstJ C dX2_joins_2 ?_
  refine br_istore_n C dX2_joins_3 rfl (by decide) rfl (L' := [_, _, _]) rfl ?_
  exact loop r.1 0 0 (by omega) rfl

set_option maxHeartbeats 4000000 in
set_option maxRecDepth 100000 in
theorem c_X2_chanceAt {σ : br_Wd} {q : Nat} (hq : br_shps[q]? = some (.inr (2, [br_fr 3, br_fr (q + 1), none]))) (hq1 : br_shps[q + 1]? = some (.inl (false, 5))) {g : br_Gy} {r : br_Ro} (hg : br_GC σ g) (hgo : br_Gok g) (hr : br_RC q σ r) (hro : br_Rok g r) (i : Nat) (hi : i ≤ 5) : br_Met 2 mX2_chanceAt [br_r q, br_i (br_J i)] σ (br_R (br_J (br_cr g r i)) σ) := by
  have hr0 := hr
  have hg0 := hg
  obtain ⟨hs, hp⟩ := hr
  have h5 := hro.1
  have hn := hgo.1
  have hk := fun (j : Nat) (hj : j < g.1) => (hgo.2 j hj).1
  refine br_ofW (by decide) 1 rfl (fun G C => ?_)
  have hs2 := br_pO_bnd hgo hro i
  have hkO := br_kO_bnd hgo (br_pO r i)
  have hsO := br_sO_bnd hgo (br_pO r i)
  refine br_aload_n C dX2_chanceAt_0 rfl rfl ?_
  refine br_iload_n C dX2_chanceAt_1 rfl rfl ?_
  refine br_cv1R C vcX2_40 (c_X2_pieceAt hq hq1 hr0 h5 i (by omega)) (by decide) hq rfl (fun _ => Nat.le_of_ble_eq_true rfl) dX2_chanceAt_2 ?_
  refine br_istore_n C dX2_chanceAt_5 rfl (by decide) rfl (L' := [_, _, _]) rfl ?_
  refine br_aload_n C dX2_chanceAt_6 rfl rfl ?_
  refine br_getR C fdX2_19 dX2_chanceAt_7 hq rfl ?_
  refine br_iload_n C dX2_chanceAt_10 rfl rfl ?_
  refine br_cv1R C vcX2_46 (c_X0_kindOf hg0 hn (br_pO r i) (by omega)) (by decide) rfl rfl (fun _ => Nat.le_of_ble_eq_true rfl) dX2_chanceAt_11 ?_
  refine br_aload_n C dX2_chanceAt_14 rfl rfl ?_
  refine br_getR C fdX2_19 dX2_chanceAt_15 hq rfl ?_
  refine br_iload_n C dX2_chanceAt_18 rfl rfl ?_
  refine br_cv1R C vcX2_49 (c_X0_sureOf hg0 hn (br_pO r i) (by omega)) (by decide) rfl rfl (fun _ => Nat.le_of_ble_eq_true rfl) dX2_chanceAt_19 ?_
  refine br_iload_n C dX2_chanceAt_22 rfl rfl ?_
  refine br_cs3R C scX2_52 (c_X4_chanceOf _ _ _ (by omega) (by omega) (by omega)) (by decide) (fun _ => Nat.le_of_ble_eq_true rfl) dX2_chanceAt_23 ?_
  exact br_iret C rfl dX2_chanceAt_26 ⟨by
      unfold br_cr
      by_cases h : i < r.1
      · rw [if_pos h, br_pO_in h, br_kO_in (hro.2.1 i h), br_sO_in (hro.2.1 i h)]
      · rw [if_neg h, br_pO_out (by omega)]
        rw [show br_kO g (-1) = -1 from rfl, show br_sO g (-1) = 0 from rfl]
        have : br_ch (-1) 0 i = 0 := by unfold br_ch; rw [if_neg (by decide)]; omega
        rw [this], rfl⟩

set_option maxHeartbeats 4000000 in
set_option maxRecDepth 100000 in
theorem c_X2_gained {σ : br_Wd} {q : Nat} (hq : br_shps[q]? = some (.inr (2, [br_fr 3, br_fr (q + 1), none]))) (hq1 : br_shps[q + 1]? = some (.inl (false, 5))) {g : br_Gy} {r : br_Ro} (hg : br_GC σ g) (hgo : br_Gok g) (hr : br_RC q σ r) (hro : br_Rok g r) (f : Nat) (hf : f < 32) : br_Met 3 mX2_gained [br_r q, br_i (br_J f)] σ (br_R (br_J (br_gn g r f)) σ) := by
  have hr0 := hr
  have hg0 := hg
  obtain ⟨hs, hp⟩ := hr
  have h5 := hro.1
  have hn := hgo.1
  have hk := fun (j : Nat) (hj : j < g.1) => (hgo.2 j hj).1
  refine br_ofW (by decide) 2 rfl (fun G C => ?_)
  have loop : ∀ (n i : Nat) (a : Int), i + n = r.1 → a = br_sum (br_gt g r f) i → G 4 [some (br_r q), some (br_i (br_J f)), some (br_i (br_J a)), some (br_i (br_J i))] [] σ := by
    intro n
    induction n with
    | zero =>
      intro i a hin ha
      have ei : i = r.1 := by omega
      subst ei
      refine br_iload_n C dX2_gained_4 rfl rfl ?_
      refine br_aload_n C dX2_gained_5 rfl rfl ?_
      refine br_getI C fdX2_15 dX2_gained_6 hq rfl (by assumption) ?_
      refine br_icmp_geJ C (by omega) (by omega) dX2_gained_9 (tgt := 64) (by decide) (fun c9 => ?_) (fun c9 => ?_)
      · refine br_iload_n C dX2_gained_64 rfl rfl ?_
        exact br_iret C rfl dX2_gained_65 ⟨by rw [ha]; rfl, rfl⟩
      · omega
    | succ n ih =>
      intro i a hin ha
      have hi : i < r.1 := by omega
      refine br_iload_n C dX2_gained_4 rfl rfl ?_
      refine br_aload_n C dX2_gained_5 rfl rfl ?_
      refine br_getI C fdX2_15 dX2_gained_6 hq rfl (by assumption) ?_
      refine br_icmp_geJ C (by omega) (by omega) dX2_gained_9 (tgt := 64) (by decide) (fun c9 => ?_) (fun c9 => ?_)
      · omega
      · have hri := hro.2.1 i hi
        have hm4 := br_mod4 f i
        refine br_iload_n C dX2_gained_12 rfl rfl ?_
        refine br_iload_n C dX2_gained_13 rfl rfl ?_
        refine br_ishrE C (br_shr hf (by omega)) dX2_gained_14 ?_
        refine br_iconstJ C dX2_gained_15 ?_
        refine br_iandE C (br_and1 (br_shr_lt hf)) dX2_gained_16 ?_
        refine br_if_eqJ C (by omega) dX2_gained_17 (tgt := 26) (by decide) (fun c17 => ?_) (fun c17 => ?_)
        · refine br_iload_n C dX2_gained_26 rfl rfl ?_
          refine br_aload_n C dX2_gained_27 rfl rfl ?_
          refine br_getR C fdX2_19 dX2_gained_28 hq rfl ?_
          refine br_aload_n C dX2_gained_31 rfl rfl ?_
          refine br_getR C fdX2_9 dX2_gained_32 hq rfl ?_
          refine br_iload_n C dX2_gained_35 rfl rfl ?_
          refine br_ialdJ C hq1 (by decide) (by omega) (by omega) (hp i (by omega)) dX2_gained_36 ?_
          refine br_cv1R C vcX2_63 ((br_wO_in hri) ▸ c_X0_worthOf hg0 hn (r.2 i : Nat) (by omega)) (by decide) rfl rfl (fun _ => Nat.le_of_ble_eq_true rfl) dX2_gained_37 ?_
          refine br_iaddJ C dX2_gained_40 ?_
          refine br_istore_n C dX2_gained_41 rfl (by decide) rfl (L' := [_, _, _, _]) rfl ?_
          refine br_iload_n C dX2_gained_42 rfl rfl ?_
          refine br_iload_n C dX2_gained_43 rfl rfl ?_
          refine br_ishrE C (br_shr hf (by omega)) dX2_gained_44 ?_
          refine br_iconstJ C dX2_gained_45 ?_
          refine br_iandE C (br_and3 (br_shr_lt hf)) dX2_gained_46 ?_
          refine br_if_neJ C (by omega) dX2_gained_47 (tgt := 58) (by decide) (fun c47 => ?_) (fun c47 => ?_)
          · refine br_iincJ C dX2_gained_58 rfl (by decide) rfl (L' := [_, _, _, _]) rfl ?_
            refine br_goto C dX2_gained_61 (tgt := 4) (by decide) ?_
            exact ih (i + 1) _ (by omega) (by show _ = br_sum _ i + br_gt g r f i; rw [← ha]; unfold br_gt; (repeat' split) <;> omega)
          · refine br_iload_n C dX2_gained_50 rfl rfl ?_
            refine br_aload_n C dX2_gained_51 rfl rfl ?_
            refine br_iload_n C dX2_gained_52 rfl rfl ?_
            refine br_cv1R C vcX2_37 (c_X2_joinWorth hq hq1 hg0 hgo hr0 hro i (by omega)) (by decide) hq rfl (fun _ => Nat.le_of_ble_eq_true rfl) dX2_gained_53 ?_
            refine br_iaddJ C dX2_gained_56 ?_
            refine br_istore_n C dX2_gained_57 rfl (by decide) rfl (L' := [_, _, _, _]) rfl ?_
            refine br_iincJ C dX2_gained_58 rfl (by decide) rfl (L' := [_, _, _, _]) rfl ?_
            refine br_goto C dX2_gained_61 (tgt := 4) (by decide) ?_
            exact ih (i + 1) _ (by omega) (by show _ = br_sum _ i + br_gt g r f i; rw [← ha]; unfold br_gt; (repeat' split) <;> omega)
        · refine br_iincJ C dX2_gained_20 rfl (by decide) rfl (L' := [_, _, _, _]) rfl ?_
          refine br_goto C dX2_gained_23 (tgt := 42) (by decide) ?_
          refine br_iload_n C dX2_gained_42 rfl rfl ?_
          refine br_iload_n C dX2_gained_43 rfl rfl ?_
          refine br_ishrE C (br_shr hf (by omega)) dX2_gained_44 ?_
          refine br_iconstJ C dX2_gained_45 ?_
          refine br_iandE C (br_and3 (br_shr_lt hf)) dX2_gained_46 ?_
          refine br_if_neJ C (by omega) dX2_gained_47 (tgt := 58) (by decide) (fun c47 => ?_) (fun c47 => ?_)
          · refine br_iincJ C dX2_gained_58 rfl (by decide) rfl (L' := [_, _, _, _]) rfl ?_
            refine br_goto C dX2_gained_61 (tgt := 4) (by decide) ?_
            exact ih (i + 1) _ (by omega) (by show _ = br_sum _ i + br_gt g r f i; rw [← ha]; unfold br_gt; (repeat' split) <;> omega)
          · refine br_iload_n C dX2_gained_50 rfl rfl ?_
            refine br_aload_n C dX2_gained_51 rfl rfl ?_
            refine br_iload_n C dX2_gained_52 rfl rfl ?_
            refine br_cv1R C vcX2_37 (c_X2_joinWorth hq hq1 hg0 hgo hr0 hro i (by omega)) (by decide) hq rfl (fun _ => Nat.le_of_ble_eq_true rfl) dX2_gained_53 ?_
            refine br_iaddJ C dX2_gained_56 ?_
            refine br_istore_n C dX2_gained_57 rfl (by decide) rfl (L' := [_, _, _, _]) rfl ?_
            refine br_iincJ C dX2_gained_58 rfl (by decide) rfl (L' := [_, _, _, _]) rfl ?_
            refine br_goto C dX2_gained_61 (tgt := 4) (by decide) ?_
            exact ih (i + 1) _ (by omega) (by show _ = br_sum _ i + br_gt g r f i; rw [← ha]; unfold br_gt; (repeat' split) <;> omega)
  refine br_iconstJ C dX2_gained_0 ?_
  refine br_istore_n C dX2_gained_1 rfl (by decide) rfl (L' := [_, _, _, _]) rfl ?_
  refine br_iconstJ C dX2_gained_2 ?_
  refine br_istore_n C dX2_gained_3 rfl (by decide) rfl (L' := [_, _, _, _]) rfl ?_
  exact loop r.1 0 0 (by omega) rfl

set_option maxHeartbeats 4000000 in
set_option maxRecDepth 100000 in
theorem c_X2_points {σ : br_Wd} {q : Nat} (hq : br_shps[q]? = some (.inr (2, [br_fr 3, br_fr (q + 1), none]))) (hq1 : br_shps[q + 1]? = some (.inl (false, 5))) {g : br_Gy} {r : br_Ro} (hg : br_GC σ g) (hgo : br_Gok g) (hr : br_RC q σ r) (hro : br_Rok g r) (f : Nat) (hf : f < 32) : br_Met 4 mX2_points [br_r q, br_i (br_J f)] σ (br_R (br_J (br_pt g r f)) σ) := by
  have hr0 := hr
  have hg0 := hg
  obtain ⟨hs, hp⟩ := hr
  have h5 := hro.1
  have hn := hgo.1
  have hk := fun (j : Nat) (hj : j < g.1) => (hgo.2 j hj).1
  refine br_ofW (by decide) 0 rfl (fun G C => ?_)
  refine br_aload_n C dX2_points_0 rfl rfl ?_
  refine br_iload_n C dX2_points_1 rfl rfl ?_
  refine br_cv1R C vcX2_56 (c_X2_gained hq hq1 hg0 hgo hr0 hro f hf) (by decide) hq rfl (fun _ => Nat.le_of_ble_eq_true rfl) dX2_points_2 ?_
  refine br_aload_n C dX2_points_5 rfl rfl ?_
  refine br_cv0R C vcX2_59 (c_X2_lackingPenalty hq hq1 hg0 hgo hr0 hro) (by decide) hq rfl (fun _ => Nat.le_of_ble_eq_true rfl) dX2_points_6 ?_
  refine br_isubJ C dX2_points_9 ?_
  exact br_iret C rfl dX2_points_10 ⟨rfl, rfl⟩

set_option maxHeartbeats 4000000 in
set_option maxRecDepth 100000 in
theorem c_X2_meanInHundredths {σ : br_Wd} {q : Nat} (hq : br_shps[q]? = some (.inr (2, [br_fr 3, br_fr (q + 1), none]))) (hq1 : br_shps[q + 1]? = some (.inl (false, 5))) {g : br_Gy} {r : br_Ro} (hg : br_GC σ g) (hgo : br_Gok g) (hr : br_RC q σ r) (hro : br_Rok g r) : br_Met 4 mX2_meanInHundredths [br_r q] σ (br_R (br_J (br_mh g r)) σ) := by
  have hr0 := hr
  have hg0 := hg
  obtain ⟨hs, hp⟩ := hr
  have h5 := hro.1
  have hn := hgo.1
  have hk := fun (j : Nat) (hj : j < g.1) => (hgo.2 j hj).1
  refine br_ofW (by decide) 3 rfl (fun G C => ?_)
  have loop : ∀ (n i : Nat) (a : Int) (x : Option br_V), i + n = r.1 → a = br_sum (br_mt g r) i → G 14 [some (br_r q), some (br_i (br_J (100 * (200 - br_pen g r) + a))), some (br_i (br_J i)), x] [] σ := by
    intro n
    induction n with
    | zero =>
      intro i a x hin ha
      have ei : i = r.1 := by omega
      subst ei
      refine br_iload_n C dX2_meanInHundredths_14 rfl rfl ?_
      refine br_aload_n C dX2_meanInHundredths_15 rfl rfl ?_
      refine br_getI C fdX2_15 dX2_meanInHundredths_16 hq rfl (by assumption) ?_
      refine br_icmp_geJ C (by omega) (by omega) dX2_meanInHundredths_19 (tgt := 81) (by decide) (fun c19 => ?_) (fun c19 => ?_)
      · refine br_iload_n C dX2_meanInHundredths_81 rfl rfl ?_
        exact br_iret C rfl dX2_meanInHundredths_82 ⟨by rw [ha]; rfl, rfl⟩
      · omega
    | succ n ih =>
      intro i a x hin ha
      have hi : i < r.1 := by omega
      refine br_iload_n C dX2_meanInHundredths_14 rfl rfl ?_
      refine br_aload_n C dX2_meanInHundredths_15 rfl rfl ?_
      refine br_getI C fdX2_15 dX2_meanInHundredths_16 hq rfl (by assumption) ?_
      refine br_icmp_geJ C (by omega) (by omega) dX2_meanInHundredths_19 (tgt := 81) (by decide) (fun c19 => ?_) (fun c19 => ?_)
      · omega
      · have hri := hro.2.1 i hi
        refine br_aload_n C dX2_meanInHundredths_22 rfl rfl ?_
        refine br_iload_n C dX2_meanInHundredths_23 rfl rfl ?_
        refine br_cv1R C vcX2_66 (c_X2_chanceAt hq hq1 hg0 hgo hr0 hro i (by omega)) (by decide) hq rfl (fun _ => Nat.le_of_ble_eq_true rfl) dX2_meanInHundredths_24 ?_
        refine br_istore_n C dX2_meanInHundredths_27 rfl (by decide) rfl (L' := [_, _, _, _]) rfl ?_
        refine br_iload_n C dX2_meanInHundredths_28 rfl rfl ?_
        refine br_bipushJ C (by decide) dX2_meanInHundredths_29 ?_
        refine br_iload_n C dX2_meanInHundredths_31 rfl rfl ?_
        refine br_aload_n C dX2_meanInHundredths_32 rfl rfl ?_
        refine br_getR C fdX2_19 dX2_meanInHundredths_33 hq rfl ?_
        refine br_aload_n C dX2_meanInHundredths_36 rfl rfl ?_
        refine br_getR C fdX2_9 dX2_meanInHundredths_37 hq rfl ?_
        refine br_iload_n C dX2_meanInHundredths_40 rfl rfl ?_
        refine br_ialdJ C hq1 (by decide) (by omega) (by omega) (hp i (by omega)) dX2_meanInHundredths_41 ?_
        refine br_cv1R C vcX2_63 ((br_wO_in hri) ▸ c_X0_worthOf hg0 hn (r.2 i : Nat) (by omega)) (by decide) rfl rfl (fun _ => Nat.le_of_ble_eq_true rfl) dX2_meanInHundredths_42 ?_
        refine br_imulJ C dX2_meanInHundredths_45 ?_
        refine br_bipushJ C (by decide) dX2_meanInHundredths_46 ?_
        refine br_bipushJ C (by decide) dX2_meanInHundredths_48 ?_
        refine br_iload_n C dX2_meanInHundredths_50 rfl rfl ?_
        refine br_isubJ C dX2_meanInHundredths_51 ?_
        refine br_imulJ C dX2_meanInHundredths_52 ?_
        refine br_isubJ C dX2_meanInHundredths_53 ?_
        refine br_imulJ C dX2_meanInHundredths_54 ?_
        refine br_iaddJ C dX2_meanInHundredths_55 ?_
        refine br_istore_n C dX2_meanInHundredths_56 rfl (by decide) rfl (L' := [_, _, _, _]) rfl ?_
        refine br_iload_n C dX2_meanInHundredths_57 rfl rfl ?_
        refine br_iload_n C dX2_meanInHundredths_58 rfl rfl ?_
        refine br_aload_n C dX2_meanInHundredths_59 rfl rfl ?_
        refine br_iload_n C dX2_meanInHundredths_60 rfl rfl ?_
        refine br_iconstJ C dX2_meanInHundredths_61 ?_
        refine br_iaddJ C dX2_meanInHundredths_62 ?_
        refine br_cv1R C vcX2_66 (c_X2_chanceAt hq hq1 hg0 hgo hr0 hro (i + 1) (by omega)) (by decide) hq rfl (fun _ => Nat.le_of_ble_eq_true rfl) dX2_meanInHundredths_63 ?_
        refine br_imulJ C dX2_meanInHundredths_66 ?_
        refine br_aload_n C dX2_meanInHundredths_67 rfl rfl ?_
        refine br_iload_n C dX2_meanInHundredths_68 rfl rfl ?_
        refine br_cv1R C vcX2_37 (c_X2_joinWorth hq hq1 hg0 hgo hr0 hro i (by omega)) (by decide) hq rfl (fun _ => Nat.le_of_ble_eq_true rfl) dX2_meanInHundredths_69 ?_
        refine br_imulJ C dX2_meanInHundredths_72 ?_
        refine br_iaddJ C dX2_meanInHundredths_73 ?_
        refine br_istore_n C dX2_meanInHundredths_74 rfl (by decide) rfl (L' := [_, _, _, _]) rfl ?_
        refine br_iincJ C dX2_meanInHundredths_75 rfl (by decide) rfl (L' := [_, _, _, _]) rfl ?_
        refine br_goto C dX2_meanInHundredths_78 (tgt := 14) (by decide) ?_
        rw [Int.add_assoc, Int.add_assoc]
        exact ih (i + 1) _ _ (by omega) (by show _ = br_sum _ i + br_mt g r i; rw [← ha]; unfold br_mt; rfl)
  refine br_bipushJ C (by decide) dX2_meanInHundredths_0 ?_
  refine br_sipushJ C (by decide) dX2_meanInHundredths_2 ?_
  refine br_aload_n C dX2_meanInHundredths_5 rfl rfl ?_
  refine br_cv0R C vcX2_59 (c_X2_lackingPenalty hq hq1 hg0 hgo hr0 hro) (by decide) hq rfl (fun _ => Nat.le_of_ble_eq_true rfl) dX2_meanInHundredths_6 ?_
  refine br_isubJ C dX2_meanInHundredths_9 ?_
  refine br_imulJ C dX2_meanInHundredths_10 ?_
  refine br_istore_n C dX2_meanInHundredths_11 rfl (by decide) rfl (L' := [_, _, _, _]) rfl ?_
  refine br_iconstJ C dX2_meanInHundredths_12 ?_
  refine br_istore_n C dX2_meanInHundredths_13 rfl (by decide) rfl (L' := [_, _, _, _]) rfl ?_
  rw [show br_J (100 * (200 - br_pen g r)) = br_J (100 * (200 - br_pen g r) + 0) by rw [Int.add_zero]]
  exact loop r.1 0 0 _ (by omega) rfl

set_option maxHeartbeats 4000000 in
set_option maxRecDepth 100000 in
theorem c_X2_allParts {σ : br_Wd} {q : Nat} (hq : br_shps[q]? = some (.inr (2, [br_fr 3, br_fr (q + 1), none]))) (hq1 : br_shps[q + 1]? = some (.inl (false, 5))) {r : br_Ro} (hr : br_RC q σ r) (h5 : r.1 ≤ 5) : br_Met 0 mX2_allParts [br_r q] σ (br_R (br_J ((10 : Int) ^ r.1)) σ) := by
  have hr0 := hr
  obtain ⟨hs, hp⟩ := hr
  refine br_ofW (by decide) 2 rfl (fun G C => ?_)
  have loop : ∀ (n i : Nat) (a : Int), i + n = r.1 → a = HPow.hPow (10 : Int) i → G 4 [some (br_r q), some (br_i (br_J a)), some (br_i (br_J i))] [] σ := by
    intro n
    induction n with
    | zero =>
      intro i a hin ha
      have ei : i = r.1 := by omega
      subst ei
      refine br_iload_n C dX2_allParts_4 rfl rfl ?_
      refine br_aload_n C dX2_allParts_5 rfl rfl ?_
      refine br_getI C fdX2_15 dX2_allParts_6 hq rfl (by assumption) ?_
      refine br_icmp_geJ C (by omega) (by omega) dX2_allParts_9 (tgt := 23) (by decide) (fun c9 => ?_) (fun c9 => ?_)
      · refine br_iload_n C dX2_allParts_23 rfl rfl ?_
        exact br_iret C rfl dX2_allParts_24 ⟨by rw [ha], rfl⟩
      · omega
    | succ n ih =>
      intro i a hin ha
      have hi : i < r.1 := by omega
      refine br_iload_n C dX2_allParts_4 rfl rfl ?_
      refine br_aload_n C dX2_allParts_5 rfl rfl ?_
      refine br_getI C fdX2_15 dX2_allParts_6 hq rfl (by assumption) ?_
      refine br_icmp_geJ C (by omega) (by omega) dX2_allParts_9 (tgt := 23) (by decide) (fun c9 => ?_) (fun c9 => ?_)
      · omega
      · refine br_iload_n C dX2_allParts_12 rfl rfl ?_
        refine br_bipushJ C (by decide) dX2_allParts_13 ?_
        refine br_imulJ C dX2_allParts_15 ?_
        refine br_istore_n C dX2_allParts_16 rfl (by decide) rfl (L' := [_, _, _]) rfl ?_
        refine br_iincJ C dX2_allParts_17 rfl (by decide) rfl (L' := [_, _, _]) rfl ?_
        refine br_goto C dX2_allParts_20 (tgt := 4) (by decide) ?_
        exact ih (i + 1) _ (by omega) (by rw [Int.pow_succ, ← ha])
  refine br_iconstJ C dX2_allParts_0 ?_
  refine br_istore_n C dX2_allParts_1 rfl (by decide) rfl (L' := [_, _, _]) rfl ?_
  refine br_iconstJ C dX2_allParts_2 ?_
  refine br_istore_n C dX2_allParts_3 rfl (by decide) rfl (L' := [_, _, _]) rfl ?_
  exact loop r.1 0 1 (by omega) rfl

set_option maxHeartbeats 4000000 in
set_option maxRecDepth 100000 in
theorem c_X2_partsOf {σ : br_Wd} {q : Nat} (hq : br_shps[q]? = some (.inr (2, [br_fr 3, br_fr (q + 1), none]))) (hq1 : br_shps[q + 1]? = some (.inl (false, 5))) {g : br_Gy} {r : br_Ro} (hg : br_GC σ g) (hgo : br_Gok g) (hr : br_RC q σ r) (hro : br_Rok g r) (f : Nat) (hf : f < 32) : br_Met 3 mX2_partsOf [br_r q, br_i (br_J f)] σ (br_R (br_J (br_wy g r f)) σ) := by
  have hr0 := hr
  have hg0 := hg
  obtain ⟨hs, hp⟩ := hr
  have h5 := hro.1
  have hn := hgo.1
  have hk := fun (j : Nat) (hj : j < g.1) => (hgo.2 j hj).1
  refine br_ofW (by decide) 3 rfl (fun G C => ?_)
  have loop : ∀ (n i : Nat) (a : Int) (x : Option br_V), i + n = r.1 → a = br_prod (br_wt g r f) i → G 4 [some (br_r q), some (br_i (br_J f)), some (br_i (br_J a)), some (br_i (br_J i)), x] [] σ := by
    intro n
    induction n with
    | zero =>
      intro i a x hin ha
      have ei : i = r.1 := by omega
      subst ei
      refine br_iload_n C dX2_partsOf_4 rfl rfl ?_
      refine br_aload_n C dX2_partsOf_5 rfl rfl ?_
      refine br_getI C fdX2_15 dX2_partsOf_6 hq rfl (by assumption) ?_
      refine br_icmp_geJ C (by omega) (by omega) dX2_partsOf_9 (tgt := 46) (by decide) (fun c9 => ?_) (fun c9 => ?_)
      · refine br_iload_n C dX2_partsOf_46 rfl rfl ?_
        exact br_iret C rfl dX2_partsOf_47 ⟨by rw [ha]; rfl, rfl⟩
      · omega
    | succ n ih =>
      intro i a x hin ha
      have hi : i < r.1 := by omega
      refine br_iload_n C dX2_partsOf_4 rfl rfl ?_
      refine br_aload_n C dX2_partsOf_5 rfl rfl ?_
      refine br_getI C fdX2_15 dX2_partsOf_6 hq rfl (by assumption) ?_
      refine br_icmp_geJ C (by omega) (by omega) dX2_partsOf_9 (tgt := 46) (by decide) (fun c9 => ?_) (fun c9 => ?_)
      · omega
      · refine br_aload_n C dX2_partsOf_12 rfl rfl ?_
        refine br_iload_n C dX2_partsOf_13 rfl rfl ?_
        refine br_cv1R C vcX2_66 (c_X2_chanceAt hq hq1 hg0 hgo hr0 hro i (by omega)) (by decide) hq rfl (fun _ => Nat.le_of_ble_eq_true rfl) dX2_partsOf_14 ?_
        refine br_istore C dX2_partsOf_17 (by decide) rfl (L' := [_, _, _, _, _]) rfl ?_
        refine br_iload_n C dX2_partsOf_19 rfl rfl ?_
        refine br_iload_n C dX2_partsOf_20 rfl rfl ?_
        refine br_iload_n C dX2_partsOf_21 rfl rfl ?_
        refine br_ishrE C (br_shr hf (by omega)) dX2_partsOf_22 ?_
        refine br_iconstJ C dX2_partsOf_23 ?_
        refine br_iandE C (br_and1 (br_shr_lt hf)) dX2_partsOf_24 ?_
        refine br_if_eqJ C (by omega) dX2_partsOf_25 (tgt := 36) (by decide) (fun c25 => ?_) (fun c25 => ?_)
        · refine br_iload C dX2_partsOf_36 rfl ?_
          refine br_imulJ C dX2_partsOf_38 ?_
          refine br_istore_n C dX2_partsOf_39 rfl (by decide) rfl (L' := [_, _, _, _, _]) rfl ?_
          refine br_iincJ C dX2_partsOf_40 rfl (by decide) rfl (L' := [_, _, _, _, _]) rfl ?_
          refine br_goto C dX2_partsOf_43 (tgt := 4) (by decide) ?_
          exact ih (i + 1) _ _ (by omega) (by show _ = br_prod _ i * br_wt g r f i; rw [← ha]; unfold br_wt; first | rw [if_pos (by omega)] | rw [if_neg (by omega)])
        · refine br_bipushJ C (by decide) dX2_partsOf_28 ?_
          refine br_iload C dX2_partsOf_30 rfl ?_
          refine br_isubJ C dX2_partsOf_32 ?_
          refine br_goto C dX2_partsOf_33 (tgt := 38) (by decide) ?_
          refine br_imulJ C dX2_partsOf_38 ?_
          refine br_istore_n C dX2_partsOf_39 rfl (by decide) rfl (L' := [_, _, _, _, _]) rfl ?_
          refine br_iincJ C dX2_partsOf_40 rfl (by decide) rfl (L' := [_, _, _, _, _]) rfl ?_
          refine br_goto C dX2_partsOf_43 (tgt := 4) (by decide) ?_
          exact ih (i + 1) _ _ (by omega) (by show _ = br_prod _ i * br_wt g r f i; rw [← ha]; unfold br_wt; first | rw [if_pos (by omega)] | rw [if_neg (by omega)])
  refine br_iconstJ C dX2_partsOf_0 ?_
  refine br_istore_n C dX2_partsOf_1 rfl (by decide) rfl (L' := [_, _, _, _, _]) rfl ?_
  refine br_iconstJ C dX2_partsOf_2 ?_
  refine br_istore_n C dX2_partsOf_3 rfl (by decide) rfl (L' := [_, _, _, _, _]) rfl ?_
  exact loop r.1 0 1 _ (by omega) rfl

set_option maxHeartbeats 4000000 in
set_option maxRecDepth 100000 in
theorem c_X2_partsWith {σ : br_Wd} {q : Nat} (hq : br_shps[q]? = some (.inr (2, [br_fr 3, br_fr (q + 1), none]))) (hq1 : br_shps[q + 1]? = some (.inl (false, 5))) {g : br_Gy} {r : br_Ro} (hg : br_GC σ g) (hgo : br_Gok g) (hr : br_RC q σ r) (hro : br_Rok g r) (s : Int) (hsb : -100 ≤ s ∧ s ≤ 100) : br_Met 4 mX2_partsWith [br_r q, br_i (br_J s)] σ (br_R (br_J (br_od g r s)) σ) := by
  have hr0 := hr
  have hg0 := hg
  obtain ⟨hs, hp⟩ := hr
  have h5 := hro.1
  have hn := hgo.1
  have hk := fun (j : Nat) (hj : j < g.1) => (hgo.2 j hj).1
  refine br_ofW (by decide) 3 rfl (fun G C => ?_)
  have hp2 := br_pow2 h5
  have hpn := br_pen_bnd g r
  have loop : ∀ (n i : Nat) (a : Int), i + n = 2 ^ r.1 → a = br_sum (fun f => if s ≤ br_pt g r f then br_wy g r f else 0) i → G 12 [some (br_r q), some (br_i (br_J s)), some (br_i (br_J a)), some (br_i (br_J (s + br_pen g r))), some (br_i (br_J i))] [] σ := by
    intro n
    induction n with
    | zero =>
      intro i a hin ha
      have ei : i = 2 ^ r.1 := by omega
      rw [ei] at ha
      refine br_iload C dX2_partsWith_12 rfl ?_
      refine br_iconstJ C dX2_partsWith_14 ?_
      refine br_aload_n C dX2_partsWith_15 rfl rfl ?_
      refine br_getI C fdX2_15 dX2_partsWith_16 hq rfl (by assumption) ?_
      refine br_ishlE C (br_shl1 h5) dX2_partsWith_19 ?_
      refine br_icmp_geJ C (by omega) (by omega) dX2_partsWith_20 (tgt := 48) (by decide) (fun c20 => ?_) (fun c20 => ?_)
      · refine br_iload_n C dX2_partsWith_48 rfl rfl ?_
        exact br_iret C rfl dX2_partsWith_49 ⟨by rw [ha]; rfl, rfl⟩
      · omega
    | succ n ih =>
      intro i a hin ha
      have hi : i < 2 ^ r.1 := by omega
      refine br_iload C dX2_partsWith_12 rfl ?_
      refine br_iconstJ C dX2_partsWith_14 ?_
      refine br_aload_n C dX2_partsWith_15 rfl rfl ?_
      refine br_getI C fdX2_15 dX2_partsWith_16 hq rfl (by assumption) ?_
      refine br_ishlE C (br_shl1 h5) dX2_partsWith_19 ?_
      refine br_icmp_geJ C (by omega) (by omega) dX2_partsWith_20 (tgt := 48) (by decide) (fun c20 => ?_) (fun c20 => ?_)
      · omega
      · have hgb := br_gn_bnd hgo hro i
        refine br_aload_n C dX2_partsWith_23 rfl rfl ?_
        refine br_iload C dX2_partsWith_24 rfl ?_
        refine br_cv1R C vcX2_56 (c_X2_gained hq hq1 hg0 hgo hr0 hro i (by omega)) (by decide) hq rfl (fun _ => Nat.le_of_ble_eq_true rfl) dX2_partsWith_26 ?_
        refine br_iload_n C dX2_partsWith_29 rfl rfl ?_
        refine br_icmp_ltJ C (by omega) (by omega) dX2_partsWith_30 (tgt := 42) (by decide) (fun c30 => ?_) (fun c30 => ?_)
        · refine br_iincJ C dX2_partsWith_42 rfl (by decide) rfl (L' := [_, _, _, _, _]) rfl ?_
          refine br_goto C dX2_partsWith_45 (tgt := 12) (by decide) ?_
          exact ih (i + 1) _ (by omega) (by show _ = br_sum _ i + (if s ≤ br_pt g r i then _ else _); rw [← ha]; unfold br_pt; first | rw [if_pos (by omega)] | (rw [if_neg (by omega)]; omega))
        · refine br_iload_n C dX2_partsWith_33 rfl rfl ?_
          refine br_aload_n C dX2_partsWith_34 rfl rfl ?_
          refine br_iload C dX2_partsWith_35 rfl ?_
          refine br_cv1R C vcX2_69 (c_X2_partsOf hq hq1 hg0 hgo hr0 hro i (by omega)) (by decide) hq rfl (fun _ => Nat.le_of_ble_eq_true rfl) dX2_partsWith_37 ?_
          refine br_iaddJ C dX2_partsWith_40 ?_
          refine br_istore_n C dX2_partsWith_41 rfl (by decide) rfl (L' := [_, _, _, _, _]) rfl ?_
          refine br_iincJ C dX2_partsWith_42 rfl (by decide) rfl (L' := [_, _, _, _, _]) rfl ?_
          refine br_goto C dX2_partsWith_45 (tgt := 12) (by decide) ?_
          exact ih (i + 1) _ (by omega) (by show _ = br_sum _ i + (if s ≤ br_pt g r i then _ else _); rw [← ha]; unfold br_pt; first | rw [if_pos (by omega)] | (rw [if_neg (by omega)]; omega))
  refine br_iconstJ C dX2_partsWith_0 ?_
  refine br_istore_n C dX2_partsWith_1 rfl (by decide) rfl (L' := [_, _, _, _, _]) rfl ?_
  refine br_iload_n C dX2_partsWith_2 rfl rfl ?_
  refine br_aload_n C dX2_partsWith_3 rfl rfl ?_
  refine br_cv0R C vcX2_59 (c_X2_lackingPenalty hq hq1 hg0 hgo hr0 hro) (by decide) hq rfl (fun _ => Nat.le_of_ble_eq_true rfl) dX2_partsWith_4 ?_
  refine br_iaddJ C dX2_partsWith_7 ?_
  refine br_istore_n C dX2_partsWith_8 rfl (by decide) rfl (L' := [_, _, _, _, _]) rfl ?_
  refine br_iconstJ C dX2_partsWith_9 ?_
  refine br_istore C dX2_partsWith_10 (by decide) rfl (L' := [_, _, _, _, _]) rfl ?_
  exact loop (2 ^ r.1) 0 0 (by omega) rfl
