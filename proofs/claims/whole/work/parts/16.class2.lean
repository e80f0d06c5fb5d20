theorem br_J_bool {s : Nat} (h : s ≤ 1) : s = 0 ∨ s = 1 := by omega

set_option maxHeartbeats 4000000 in
set_option maxRecDepth 100000 in
theorem c_X4_tryIt {σ : br_Wd} {A : br_A} (hc : br_CR σ A) (hA : br_Aok A) (z : Int) (hbz : -2147483648 ≤ z ∧ z < 2147483648) (x : Int) (hbx : -2147483648 ≤ x ∧ x < 2147483648) (s : Nat) (hs1 : s ≤ 1) : br_Met 1 mX4_tryIt [br_r 0, br_i (br_J z), br_i (br_J x), br_i (br_J s)] σ (br_QC (br_J (br_sTry A z x s).1) (br_sTry A z x s).2 σ) := by
  obtain ⟨w, g, r, c, t, n, b, kp, ri, ci, ti⟩ := A
  have hc0 := hc
  obtain ⟨⟨hw, hg, hr, ht⟩, ⟨hcc, hnn, hbb, hkp⟩, him⟩ := hc
  obtain ⟨⟨hwo, hgo, hro, hto⟩, ⟨hb30, hn512⟩, hio⟩ := hA
  have hw1 := hw.1
  have hg1 := hg.1
  have hr1 := hr.1
  have ht1 := ht.1
  have hw30 := hwo.1
  have hg7 := hgo.1
  have h5r := hro.1
  have h8t := hto.1
  have hk4 := fun (j : Nat) (hj : j < g.1) => (hgo.2 j hj).1
  have hrb := fun (j : Nat) (hj : j < r.1) => (show r.2 j < 7 by have := hro.2.1 j hj; omega)
  refine br_ofW (by decide) 0 rfl (fun G C => ?_)
  refine br_aload_n C dX4_tryIt_0 rfl rfl ?_
  refine br_getR C fdX4_19 dX4_tryIt_1 rfl rfl ?_
  refine br_iload_n C dX4_tryIt_4 rfl rfl ?_
  refine br_cv1B C vcX4_92 (c_X0_has hg (by omega) z hbz) (by decide) rfl rfl (fun _ => Nat.le_of_ble_eq_true rfl) dX4_tryIt_5 (fun h5 => ?_) (fun h5 => ?_)
  · refine br_if_ne1 C dX4_tryIt_8 (tgt := 14) (by decide) ?_
    refine br_iload_n C dX4_tryIt_14 rfl rfl ?_
    refine br_if_ltJ C (by omega) dX4_tryIt_15 (tgt := 23) (by decide) (fun c15 => ?_) (fun c15 => ?_)
    · refine br_bipushJ C (by decide) dX4_tryIt_23 ?_
      exact br_iret C rfl dX4_tryIt_25 (by
          rw [show br_sTry (w, g, r, c, t, n, b, kp, ri, ci, ti) z x s = (-102, (w, g, r, c, t, n, b, kp, ri, ci, ti)) from (if_neg (by omega)).trans (if_pos (by omega))]
          exact ⟨rfl, hc0, br_fc.rfl⟩)
    · refine br_iload_n C dX4_tryIt_18 rfl rfl ?_
      refine br_iconstJ C dX4_tryIt_19 ?_
      refine br_icmp_ltJ C (by omega) (by omega) dX4_tryIt_20 (tgt := 26) (by decide) (fun c20 => ?_) (fun c20 => ?_)
      · refine br_aload_n C dX4_tryIt_26 rfl rfl ?_
        refine br_getR C fdX4_35 dX4_tryIt_27 rfl rfl ?_
        refine br_getI C fdX4_90 dX4_tryIt_30 rfl rfl (by assumption) ?_
        refine br_bipushJ C (by decide) dX4_tryIt_33 ?_
        refine br_icmp_ltJ C (by omega) (by omega) dX4_tryIt_35 (tgt := 41) (by decide) (fun c35 => ?_) (fun c35 => ?_)
        · refine br_aload_n C dX4_tryIt_41 rfl rfl ?_
          refine br_getR C fdX4_35 dX4_tryIt_42 rfl rfl ?_
          refine br_iload_n C dX4_tryIt_45 rfl rfl ?_
          refine br_iload_n C dX4_tryIt_46 rfl rfl ?_
          refine br_iload_n C dX4_tryIt_47 rfl rfl ?_
          have ez : ((z.toNat : Nat) : Int) = z := by omega
          have ex : ((x.toNat : Nat) : Int) = x := by omega
          have had := c_X3_add (q := 15) rfl rfl rfl rfl ht z.toNat x.toNat s (by omega) hs1
          rw [ez, ex] at had
          refine br_cv3 C vcX4_173 (had) (by decide) rfl rfl (fun _ => Nat.le_of_ble_eq_true rfl) dX4_tryIt_48 (fun v48 τ48 hv => ?_)
          obtain ⟨rfl, ht2, hsm⟩ := hv
          refine br_aload_n C dX4_tryIt_51 rfl rfl ?_
          refine br_getR C fdX4_35 dX4_tryIt_52 rfl rfl ?_
          refine br_getI C fdX4_90 dX4_tryIt_55 rfl rfl (x := br_J (t.1 + 1)) (by rw [show ((t.1 : Int) + 1) = ((t.1 + 1 : Nat) : Int) from rfl]; exact ht2.1) ?_
          exact br_iret C rfl dX4_tryIt_58 (by
              rw [show br_sTry (w, g, r, c, t, n, b, kp, ri, ci, ti) z x s = ((t.1 : Int) + 1, (w, g, r, c, br_tadd t z.toNat x.toNat s, n, b, kp, ri, ci, ti)) from (if_neg (by omega)).trans ((if_neg (by omega)).trans (if_neg (by omega)))]
              exact ⟨rfl, ⟨⟨hw.keep (hsm.1 1 (by decide)) (hsm.1 2 (by decide)), hg.keep (hsm.1 3 (by decide)) (hsm.1 4 (by decide)) (hsm.1 5 (by decide)) (hsm.1 6 (by decide)), hr.keep (hsm.1 7 (by decide)) (hsm.1 8 (by decide)), ht2⟩, ⟨(congrFun (hsm.1 0 (by decide)) 4).trans hcc, (congrFun (hsm.1 0 (by decide)) 11).trans hnn, (congrFun (hsm.1 0 (by decide)) 12).trans hbb, (congrFun (hsm.1 0 (by decide)) 5).trans hkp⟩, fun h => ⟨(him h).1.keep (hsm.1 9 (by decide)) (hsm.1 10 (by decide)), (him h).2.1.keep (hsm.1 19 (by decide)) (hsm.1 20 (by decide)) (hsm.1 21 (by decide)) (hsm.1 22 (by decide)), (congrFun (hsm.1 0 (by decide)) 8).trans (him h).2.2⟩⟩, hsm.fc (by decide)⟩)
        · refine br_bipushJ C (by decide) dX4_tryIt_38 ?_
          exact br_iret C rfl dX4_tryIt_40 (by
              rw [show br_sTry (w, g, r, c, t, n, b, kp, ri, ci, ti) z x s = (-104, (w, g, r, c, t, n, b, kp, ri, ci, ti)) from (if_neg (by omega)).trans ((if_neg (by omega)).trans (if_pos (by omega)))]
              exact ⟨rfl, hc0, br_fc.rfl⟩)
      · refine br_bipushJ C (by decide) dX4_tryIt_23 ?_
        exact br_iret C rfl dX4_tryIt_25 (by
            rw [show br_sTry (w, g, r, c, t, n, b, kp, ri, ci, ti) z x s = (-102, (w, g, r, c, t, n, b, kp, ri, ci, ti)) from (if_neg (by omega)).trans (if_pos (by omega))]
            exact ⟨rfl, hc0, br_fc.rfl⟩)
  · refine br_if_ne0 C dX4_tryIt_8 (tgt := 14) (by decide) ?_
    refine br_bipushJ C (by decide) dX4_tryIt_11 ?_
    exact br_iret C rfl dX4_tryIt_13 (by
        rw [show br_sTry (w, g, r, c, t, n, b, kp, ri, ci, ti) z x s = (-101, (w, g, r, c, t, n, b, kp, ri, ci, ti)) from if_pos (by omega)]
        exact ⟨rfl, hc0, br_fc.rfl⟩)

set_option maxHeartbeats 4000000 in
set_option maxRecDepth 100000 in
theorem c_X4_forget {σ : br_Wd} {A : br_A} (hc : br_CR σ A) (hA : br_Aok A) : br_Met 0 mX4_forget [br_r 0] σ (br_QC (br_J (br_sForget A).1) (br_sForget A).2 σ) := by
  obtain ⟨w, g, r, c, t, n, b, kp, ri, ci, ti⟩ := A
  have hc0 := hc
  obtain ⟨⟨hw, hg, hr, ht⟩, ⟨hcc, hnn, hbb, hkp⟩, him⟩ := hc
  obtain ⟨⟨hwo, hgo, hro, hto⟩, ⟨hb30, hn512⟩, hio⟩ := hA
  have hw1 := hw.1
  have hg1 := hg.1
  have hr1 := hr.1
  have ht1 := ht.1
  have hw30 := hwo.1
  have hg7 := hgo.1
  have h5r := hro.1
  have h8t := hto.1
  have hk4 := fun (j : Nat) (hj : j < g.1) => (hgo.2 j hj).1
  have hrb := fun (j : Nat) (hj : j < r.1) => (show r.2 j < 7 by have := hro.2.1 j hj; omega)
  refine br_ofW (by decide) 1 rfl (fun G C => ?_)
  refine br_aload_n C dX4_forget_0 rfl rfl ?_
  refine br_getR C fdX4_35 dX4_forget_1 rfl rfl ?_
  refine br_getI C fdX4_90 dX4_forget_4 rfl rfl (by assumption) ?_
  refine br_istore_n C dX4_forget_7 rfl (by decide) rfl (L' := [_, _]) rfl ?_
  refine br_aload_n C dX4_forget_8 rfl rfl ?_
  refine br_getR C fdX4_35 dX4_forget_9 rfl rfl ?_
  refine br_iconstJ C dX4_forget_12 ?_
  refine br_putI C fdX4_90 dX4_forget_13 rfl rfl rfl ?_
  refine br_iload_n C dX4_forget_16 rfl rfl ?_
  exact br_iret C rfl dX4_forget_17 ⟨rfl, ⟨⟨hw.keep rfl rfl, hg.keep rfl rfl rfl rfl, hr.keep rfl rfl, ⟨rfl, fun j hj => absurd hj (Nat.not_lt_zero j), fun j hj => absurd hj (Nat.not_lt_zero j), fun j hj => absurd hj (Nat.not_lt_zero j)⟩⟩, ⟨hcc, hnn, hbb, hkp⟩, fun h => ⟨(him h).1.keep rfl rfl, (him h).2.1.keep rfl rfl rfl rfl, (him h).2.2⟩⟩, (br_sm.rfl (qs := [15])).up (by simp) |>.fc (by decide)⟩

set_option maxHeartbeats 4000000 in
set_option maxRecDepth 100000 in
theorem c_X4_image {σ : br_Wd} {A : br_A} (hc : br_CR σ A) (hA : br_Aok A) : br_Met 1 mX4_image [br_r 0] σ (br_QC (br_J (br_sImage A).1) (br_sImage A).2 σ) := by
  obtain ⟨w, g, r, c, t, n, b, kp, ri, ci, ti⟩ := A
  have hc0 := hc
  have hA0 := hA
  obtain ⟨⟨hw, hg, hr, ht⟩, ⟨hcc, hnn, hbb, hkp⟩, him⟩ := hc
  obtain ⟨⟨hwo, hgo, hro, hto⟩, ⟨hb30, hn512⟩, hio⟩ := hA
  have hw1 := hw.1
  have hg1 := hg.1
  have hr1 := hr.1
  have ht1 := ht.1
  have hw30 := hwo.1
  have hg7 := hgo.1
  have h5r := hro.1
  have h8t := hto.1
  have hk4 := fun (j : Nat) (hj : j < g.1) => (hgo.2 j hj).1
  have hrb := fun (j : Nat) (hj : j < r.1) => (show r.2 j < 7 by have := hro.2.1 j hj; omega)
  refine br_ofW (by decide) 0 rfl (fun G C => ?_)
  refine br_aload_n C dX4_image_0 rfl rfl ?_
  refine br_cv0B C vcX4_141 (c_X4_noGym (A := (w, g, r, c, t, n, b, kp, ri, ci, ti)) hc0 hA0) (by decide) rfl rfl (fun _ => Nat.le_of_ble_eq_true rfl) dX4_image_1 (fun h1 => ?_) (fun h1 => ?_)
  · refine br_if_eq1 C dX4_image_4 (tgt := 10) (by decide) ?_
    refine br_bipushJ C (by decide) dX4_image_7 ?_
    exact br_iret C rfl dX4_image_9 (by
        rw [show br_sImage (w, g, r, c, t, n, b, kp, ri, ci, ti)  = (-103, (w, g, r, c, t, n, b, kp, ri, ci, ti)) from if_pos h1]
        exact ⟨rfl, hc0, br_fc.rfl⟩)
  · refine br_if_eq0 C dX4_image_4 (tgt := 10) (by decide) ?_
    refine br_aload_n C dX4_image_10 rfl rfl ?_
    refine br_getR C fdX4_47 dX4_image_11 rfl rfl ?_
    refine br_aload_n C dX4_image_14 rfl rfl ?_
    refine br_getR C fdX4_28 dX4_image_15 rfl rfl ?_
    refine br_cv1 C vcX4_169 (c_X2_copyFrom (q := 9) rfl rfl (q2 := 7) rfl rfl hr h5r (by omega)) (by decide) rfl rfl (fun _ => Nat.le_of_ble_eq_true rfl) dX4_image_18 (fun v18 τ18 hv => ?_)
    obtain ⟨rfl, hri, hs1⟩ := hv
    refine br_aload_n C dX4_image_21 rfl rfl ?_
    refine br_getR C fdX4_50 dX4_image_22 rfl rfl ?_
    refine br_aload_n C dX4_image_25 rfl rfl ?_
    refine br_getR C fdX4_35 dX4_image_26 rfl rfl ?_
    refine br_cv1 C vcX4_182 (c_X3_copyFrom (q := 19) rfl rfl rfl rfl (q2 := 15) rfl rfl rfl rfl (br_TC.keep (q := 15) ht (hs1.1 15 (by decide)) (hs1.1 16 (by decide)) (hs1.1 17 (by decide)) (hs1.1 18 (by decide))) ⟨h8t, fun j hj => (hto.2 j hj).2.2⟩ (by omega)) (by decide) rfl rfl (fun _ => Nat.le_of_ble_eq_true rfl) dX4_image_29 (fun v29 τ29 hv => ?_)
    obtain ⟨rfl, hti, hs2⟩ := hv
    have hsm := (hs1.mono (qs' := [9, 10, 19, 20, 21, 22]) (by decide)).trans (hs2.mono (qs' := [9, 10, 19, 20, 21, 22]) (by decide))
    refine br_aload_n C dX4_image_32 rfl rfl ?_
    refine br_aload_n C dX4_image_33 rfl rfl ?_
    refine br_getI C fdX4_39 dX4_image_34 rfl rfl (x := br_J c) ((congrFun (hsm.1 0 (by decide)) 4).trans hcc) ?_
    refine br_putI C fdX4_53 dX4_image_37 rfl rfl rfl ?_
    refine br_aload_n C dX4_image_40 rfl rfl ?_
    refine br_iconstJ C dX4_image_41 ?_
    refine br_put C fdX4_43 dX4_image_42 rfl rfl (by decide) (by decide) rfl ?_
    refine br_aload_n C dX4_image_45 rfl rfl ?_
    refine br_getI C fdX4_39 dX4_image_46 rfl rfl (x := br_J c) ((congrFun (hsm.1 0 (by decide)) 4).trans hcc) ?_
    exact br_iret C rfl dX4_image_49 (by
        rw [show br_sImage (w, g, r, c, t, n, b, kp, ri, ci, ti)  = (c, (w, g, r, c, t, n, b, true, r, c, t)) from if_neg h1]
        exact ⟨rfl, ⟨⟨hw.keep (hsm.1 1 (by decide)) (hsm.1 2 (by decide)), hg.keep (hsm.1 3 (by decide)) (hsm.1 4 (by decide)) (hsm.1 5 (by decide)) (hsm.1 6 (by decide)), hr.keep (hsm.1 7 (by decide)) (hsm.1 8 (by decide)), ht.keep (hsm.1 15 (by decide)) (hsm.1 16 (by decide)) (hsm.1 17 (by decide)) (hsm.1 18 (by decide))⟩, ⟨(congrFun (hsm.1 0 (by decide)) 4).trans hcc, (congrFun (hsm.1 0 (by decide)) 11).trans hnn, (congrFun (hsm.1 0 (by decide)) 12).trans hbb, rfl⟩, fun _ => ⟨hri.keep (hs2.1 9 (by decide)) (hs2.1 10 (by decide)), hti.keep rfl rfl rfl rfl, rfl⟩⟩, (((hsm.mono (qs' := [0, 9, 10, 19, 20, 21, 22]) (by decide)).up (by simp)).up (by simp)).fc (by decide)⟩)

set_option maxHeartbeats 4000000 in
set_option maxRecDepth 100000 in
theorem c_X4_restore {σ : br_Wd} {A : br_A} (hc : br_CR σ A) (hA : br_Aok A) : br_Met 1 mX4_restore [br_r 0] σ (br_QC (br_J (br_sRestore A).1) (br_sRestore A).2 σ) := by
  obtain ⟨w, g, r, c, t, n, b, kp, ri, ci, ti⟩ := A
  have hc0 := hc
  obtain ⟨⟨hw, hg, hr, ht⟩, ⟨hcc, hnn, hbb, hkp⟩, him⟩ := hc
  obtain ⟨⟨hwo, hgo, hro, hto⟩, ⟨hb30, hn512⟩, hio⟩ := hA
  have hw1 := hw.1
  have hg1 := hg.1
  have hr1 := hr.1
  have ht1 := ht.1
  have hw30 := hwo.1
  have hg7 := hgo.1
  have h5r := hro.1
  have h8t := hto.1
  have hk4 := fun (j : Nat) (hj : j < g.1) => (hgo.2 j hj).1
  have hrb := fun (j : Nat) (hj : j < r.1) => (show r.2 j < 7 by have := hro.2.1 j hj; omega)
  have hkb : br_b2 kp = 0 ∨ br_b2 kp = 1 := by cases kp <;> simp [br_b2]
  refine br_ofW (by decide) 0 rfl (fun G C => ?_)
  refine br_aload_n C dX4_restore_0 rfl rfl ?_
  refine br_getI C fdX4_43 dX4_restore_1 rfl rfl (by assumption) ?_
  refine br_if_neJ C (by omega) dX4_restore_4 (tgt := 10) (by decide) (fun c4 => ?_) (fun c4 => ?_)
  · have hkt : kp = true := by cases kp with
      | true => rfl
      | false => exact absurd rfl c4
    refine br_aload_n C dX4_restore_10 rfl rfl ?_
    refine br_getR C fdX4_28 dX4_restore_11 rfl rfl ?_
    refine br_aload_n C dX4_restore_14 rfl rfl ?_
    refine br_getR C fdX4_47 dX4_restore_15 rfl rfl ?_
    refine br_cv1 C vcX4_169 (c_X2_copyFrom (q := 7) rfl rfl (q2 := 9) rfl rfl (him hkt).1 (hio hkt).1.1 (by omega)) (by decide) rfl rfl (fun _ => Nat.le_of_ble_eq_true rfl) dX4_restore_18 (fun v18 τ18 hv => ?_)
    obtain ⟨rfl, hri, hs1⟩ := hv
    refine br_aload_n C dX4_restore_21 rfl rfl ?_
    refine br_getR C fdX4_35 dX4_restore_22 rfl rfl ?_
    refine br_aload_n C dX4_restore_25 rfl rfl ?_
    refine br_getR C fdX4_50 dX4_restore_26 rfl rfl ?_
    refine br_cv1 C vcX4_182 (c_X3_copyFrom (q := 15) rfl rfl rfl rfl (q2 := 19) rfl rfl rfl rfl (br_TC.keep (q := 19) (him hkt).2.1 (hs1.1 19 (by decide)) (hs1.1 20 (by decide)) (hs1.1 21 (by decide)) (hs1.1 22 (by decide))) ⟨(hio hkt).2.1, fun j hj => ((hio hkt).2.2 j hj).2.2⟩ (by omega)) (by decide) rfl rfl (fun _ => Nat.le_of_ble_eq_true rfl) dX4_restore_29 (fun v29 τ29 hv => ?_)
    obtain ⟨rfl, hti, hs2⟩ := hv
    have hsm := (hs1.mono (qs' := [7, 8, 15, 16, 17, 18]) (by decide)).trans (hs2.mono (qs' := [7, 8, 15, 16, 17, 18]) (by decide))
    refine br_aload_n C dX4_restore_32 rfl rfl ?_
    refine br_aload_n C dX4_restore_33 rfl rfl ?_
    refine br_getI C fdX4_53 dX4_restore_34 rfl rfl (x := br_J ci) ((congrFun (hsm.1 0 (by decide)) 8).trans (him hkt).2.2) ?_
    refine br_putI C fdX4_39 dX4_restore_37 rfl rfl rfl ?_
    refine br_aload_n C dX4_restore_40 rfl rfl ?_
    refine br_getI C fdX4_39 dX4_restore_41 rfl rfl (x := br_J ci) rfl ?_
    exact br_iret C rfl dX4_restore_44 (by
        rw [show br_sRestore (w, g, r, c, t, n, b, kp, ri, ci, ti)  = (ci, (w, g, ri, ci, ti, n, b, kp, ri, ci, ti)) from if_pos hkt]
        exact ⟨rfl, ⟨⟨hw.keep (hsm.1 1 (by decide)) (hsm.1 2 (by decide)), hg.keep (hsm.1 3 (by decide)) (hsm.1 4 (by decide)) (hsm.1 5 (by decide)) (hsm.1 6 (by decide)), hri.keep (hs2.1 7 (by decide)) (hs2.1 8 (by decide)), hti.keep rfl rfl rfl rfl⟩, ⟨rfl, (congrFun (hsm.1 0 (by decide)) 11).trans hnn, (congrFun (hsm.1 0 (by decide)) 12).trans hbb, (congrFun (hsm.1 0 (by decide)) 5).trans hkp⟩, fun h => ⟨(him h).1.keep (hsm.1 9 (by decide)) (hsm.1 10 (by decide)), (him h).2.1.keep (hsm.1 19 (by decide)) (hsm.1 20 (by decide)) (hsm.1 21 (by decide)) (hsm.1 22 (by decide)), (congrFun (hsm.1 0 (by decide)) 8).trans (him h).2.2⟩⟩, ((hsm.mono (qs' := [0, 7, 8, 15, 16, 17, 18]) (by decide)).up (by simp)).fc (by decide)⟩)
  · have hkf : ¬ kp = true := by intro h; rw [h] at c4; exact absurd c4 (by decide)
    refine br_bipushJ C (by decide) dX4_restore_7 ?_
    exact br_iret C rfl dX4_restore_9 (by
        rw [show br_sRestore (w, g, r, c, t, n, b, kp, ri, ci, ti)  = (-103, (w, g, r, c, t, n, b, kp, ri, ci, ti)) from if_neg hkf]
        exact ⟨rfl, hc0, br_fc.rfl⟩)

set_option maxHeartbeats 4000000 in
set_option maxRecDepth 100000 in
theorem c_X4_count {σ : br_Wd} {A : br_A} (hc : br_CR σ A) (hA : br_Aok A) (k : Int) (hbk : -2147483648 ≤ k ∧ k < 2147483648) : br_Met 4 mX4_count [br_r 0, br_i (br_J k)] σ (br_R (br_J (br_vCount A k)) σ) := by
  obtain ⟨w, g, r, c, t, n, b, kp, ri, ci, ti⟩ := A
  have hc0 := hc
  obtain ⟨⟨hw, hg, hr, ht⟩, ⟨hcc, hnn, hbb, hkp⟩, him⟩ := hc
  obtain ⟨⟨hwo, hgo, hro, hto⟩, ⟨hb30, hn512⟩, hio⟩ := hA
  have hw1 := hw.1
  have hg1 := hg.1
  have hr1 := hr.1
  have ht1 := ht.1
  have hw30 := hwo.1
  have hg7 := hgo.1
  have h5r := hro.1
  have h8t := hto.1
  have hk4 := fun (j : Nat) (hj : j < g.1) => (hgo.2 j hj).1
  have hrb := fun (j : Nat) (hj : j < r.1) => (show r.2 j < 7 by have := hro.2.1 j hj; omega)
  refine br_ofW (by decide) 0 rfl (fun G C => ?_)
  refine br_iload_n C dX4_count_0 rfl rfl ?_
  rcases (show (k < 0 ∨ 9 < k) ∨ k = 0 ∨ k = 1 ∨ k = 2 ∨ k = 3 ∨ k = 4 ∨ k = 5 ∨ k = 6 ∨ k = 7 ∨ k = 8 ∨ k = 9 by omega) with c1 | rfl | rfl | rfl | rfl | rfl | rfl | rfl | rfl | rfl | rfl
  · refine br_tableOutJ C c1 (by omega) dX4_count_1 (tgt := 129) (by decide) ?_
    refine br_bipushJ C (by decide) dX4_count_129 ?_
    exact br_iret C rfl dX4_count_131 ⟨by unfold br_vCount; simp only []; (repeat rw [if_neg (by omega)]), rfl⟩
  · refine br_tableInJ C (by decide) (by decide) (by decide) dX4_count_1 (off := 55) rfl (tgt := 56) (by decide) ?_
    refine br_aload_n C dX4_count_56 rfl rfl ?_
    refine br_getR C fdX4_19 dX4_count_57 rfl rfl ?_
    refine br_getI C fdX4_91 dX4_count_60 rfl rfl (by assumption) ?_
    exact br_iret C rfl dX4_count_63 ⟨congrArg (fun x => some (br_i (br_J x))) (show _ = br_vCount (w, g, r, c, t, n, b, kp, ri, ci, ti) 0 from rfl), rfl⟩
  · refine br_tableInJ C (by decide) (by decide) (by decide) dX4_count_1 (off := 63) rfl (tgt := 64) (by decide) ?_
    refine br_aload_n C dX4_count_64 rfl rfl ?_
    refine br_getR C fdX4_28 dX4_count_65 rfl rfl ?_
    refine br_getI C fdX4_87 dX4_count_68 rfl rfl (by assumption) ?_
    exact br_iret C rfl dX4_count_71 ⟨congrArg (fun x => some (br_i (br_J x))) (show _ = br_vCount (w, g, r, c, t, n, b, kp, ri, ci, ti) 1 from rfl), rfl⟩
  · refine br_tableInJ C (by decide) (by decide) (by decide) dX4_count_1 (off := 71) rfl (tgt := 72) (by decide) ?_
    refine br_aload_n C dX4_count_72 rfl rfl ?_
    refine br_getR C fdX4_28 dX4_count_73 rfl rfl ?_
    refine br_iconstJ C dX4_count_76 ?_
    refine br_cv1R C vcX4_185 (c_howF (q := 7) rfl rfl hg hgo hr hro) (by decide) rfl rfl (fun _ => Nat.le_of_ble_eq_true rfl) dX4_count_77 ?_
    exact br_iret C rfl dX4_count_80 ⟨congrArg (fun x => some (br_i (br_J x))) (show _ = br_vCount (w, g, r, c, t, n, b, kp, ri, ci, ti) 2 from rfl), rfl⟩
  · refine br_tableInJ C (by decide) (by decide) (by decide) dX4_count_1 (off := 80) rfl (tgt := 81) (by decide) ?_
    refine br_aload_n C dX4_count_81 rfl rfl ?_
    refine br_getR C fdX4_28 dX4_count_82 rfl rfl ?_
    refine br_iconstJ C dX4_count_85 ?_
    refine br_cv1R C vcX4_185 (c_howT (q := 7) rfl rfl hg hgo hr hro) (by decide) rfl rfl (fun _ => Nat.le_of_ble_eq_true rfl) dX4_count_86 ?_
    exact br_iret C rfl dX4_count_89 ⟨congrArg (fun x => some (br_i (br_J x))) (show _ = br_vCount (w, g, r, c, t, n, b, kp, ri, ci, ti) 3 from rfl), rfl⟩
  · refine br_tableInJ C (by decide) (by decide) (by decide) dX4_count_1 (off := 89) rfl (tgt := 90) (by decide) ?_
    refine br_aload_n C dX4_count_90 rfl rfl ?_
    refine br_getR C fdX4_28 dX4_count_91 rfl rfl ?_
    refine br_cv0R C vcX4_188 (c_X2_joins (q := 7) rfl rfl hg hgo hr hro) (by decide) rfl rfl (fun _ => Nat.le_of_ble_eq_true rfl) dX4_count_94 ?_
    exact br_iret C rfl dX4_count_97 ⟨congrArg (fun x => some (br_i (br_J x))) (show _ = br_vCount (w, g, r, c, t, n, b, kp, ri, ci, ti) 4 from rfl), rfl⟩
  · refine br_tableInJ C (by decide) (by decide) (by decide) dX4_count_1 (off := 97) rfl (tgt := 98) (by decide) ?_
    refine br_aload_n C dX4_count_98 rfl rfl ?_
    refine br_getI C fdX4_39 dX4_count_99 rfl rfl (by assumption) ?_
    exact br_iret C rfl dX4_count_102 ⟨congrArg (fun x => some (br_i (br_J x))) (show _ = br_vCount (w, g, r, c, t, n, b, kp, ri, ci, ti) 5 from rfl), rfl⟩
  · refine br_tableInJ C (by decide) (by decide) (by decide) dX4_count_1 (off := 102) rfl (tgt := 103) (by decide) ?_
    refine br_aload_n C dX4_count_103 rfl rfl ?_
    refine br_getR C fdX4_35 dX4_count_104 rfl rfl ?_
    refine br_getI C fdX4_90 dX4_count_107 rfl rfl (by assumption) ?_
    exact br_iret C rfl dX4_count_110 ⟨congrArg (fun x => some (br_i (br_J x))) (show _ = br_vCount (w, g, r, c, t, n, b, kp, ri, ci, ti) 6 from rfl), rfl⟩
  · refine br_tableInJ C (by decide) (by decide) (by decide) dX4_count_1 (off := 110) rfl (tgt := 111) (by decide) ?_
    refine br_aload_n C dX4_count_111 rfl rfl ?_
    refine br_getR C fdX4_12 dX4_count_112 rfl rfl ?_
    refine br_getI C fdX4_68 dX4_count_115 rfl rfl (by assumption) ?_
    exact br_iret C rfl dX4_count_118 ⟨congrArg (fun x => some (br_i (br_J x))) (show _ = br_vCount (w, g, r, c, t, n, b, kp, ri, ci, ti) 7 from rfl), rfl⟩
  · refine br_tableInJ C (by decide) (by decide) (by decide) dX4_count_1 (off := 118) rfl (tgt := 119) (by decide) ?_
    refine br_aload_n C dX4_count_119 rfl rfl ?_
    refine br_getI C fdX4_62 dX4_count_120 rfl rfl (by assumption) ?_
    exact br_iret C rfl dX4_count_123 ⟨congrArg (fun x => some (br_i (br_J x))) (show _ = br_vCount (w, g, r, c, t, n, b, kp, ri, ci, ti) 8 from rfl), rfl⟩
  · refine br_tableInJ C (by decide) (by decide) (by decide) dX4_count_1 (off := 123) rfl (tgt := 124) (by decide) ?_
    refine br_aload_n C dX4_count_124 rfl rfl ?_
    refine br_getI C fdX4_65 dX4_count_125 rfl rfl (by assumption) ?_
    exact br_iret C rfl dX4_count_128 ⟨congrArg (fun x => some (br_i (br_J x))) (show _ = br_vCount (w, g, r, c, t, n, b, kp, ri, ci, ti) 9 from rfl), rfl⟩

set_option maxHeartbeats 4000000 in
set_option maxRecDepth 100000 in
theorem c_X0_read {σ : br_Wd} {w : br_Pg} (hw : br_PC σ w) (hn : w.1 ≤ 27) (hm3 : w.1 % 4 = 3) (hb : ∀ j : Nat, j < w.1 → 1 ≤ w.2 j ∧ w.2 j ≤ 126) : br_Met 1 mX0_read [br_r 3, br_r 1] σ (fun v τ => v = none ∧ br_GC τ (br_gy w) ∧ br_sm [3, 4, 5, 6] σ τ) := by
  refine br_ofW (by decide) 1 rfl (fun G C => ?_)
  have loop : ∀ (m j : Nat) (τ : br_Wd), j + m = (w.1 + 1) / 4 → br_sm [3, 4, 5, 6] σ τ → τ.1 3 3 = br_J j → (∀ i : Nat, i < j → τ.1 4 i = br_J (br_kd (w.2 (4 * i))) ∧ τ.1 5 i = br_J (w.2 (4 * i + 1) - 48) ∧ τ.1 6 i = br_J (w.2 (4 * i + 2) - 48)) → G 7 [some (br_r 3), some (br_r 1), some (br_i (br_J ((4 * j : Nat) : Int)))] [] τ := by
    intro m
    induction m with
    | zero =>
      intro j τ hjm hsm hs1 hm
      have hwτ : br_PC τ w := hw.keep (hsm.1 1 (by decide)) (hsm.1 2 (by decide))
      refine br_iload_n C dX0_read_7 rfl rfl ?_
      refine br_aload_n C dX0_read_8 rfl rfl ?_
      refine br_getI C fdX0_25 dX0_read_9 rfl rfl (x := br_J w.1) hwτ.1 ?_
      refine br_icmp_geJ C (by omega) (by omega) dX0_read_12 (tgt := 95) (by decide) (fun c12 => ?_) (fun c12 => ?_)
      · exact br_vret C rfl dX0_read_95 ⟨rfl, ⟨by rw [hs1]; exact congrArg (fun x : Nat => br_J (x : Int)) (show j = (w.1 + 1) / 4 by omega), fun i hi => (hm i (by have : i < (w.1 + 1) / 4 := hi; omega)).1, fun i hi => (hm i (by have : i < (w.1 + 1) / 4 := hi; omega)).2.1, fun i hi => (hm i (by have : i < (w.1 + 1) / 4 := hi; omega)).2.2⟩, hsm⟩
      · omega
    | succ m ih =>
      intro j τ hjm hsm hs1 hm
      have hwτ : br_PC τ w := hw.keep (hsm.1 1 (by decide)) (hsm.1 2 (by decide))
      refine br_iload_n C dX0_read_7 rfl rfl ?_
      refine br_aload_n C dX0_read_8 rfl rfl ?_
      refine br_getI C fdX0_25 dX0_read_9 rfl rfl (x := br_J w.1) hwτ.1 ?_
      refine br_icmp_geJ C (by omega) (by omega) dX0_read_12 (tgt := 95) (by decide) (fun c12 => ?_) (fun c12 => ?_)
      · omega
      · refine br_aload_n C dX0_read_15 rfl rfl ?_
        refine br_getI C fdX0_21 dX0_read_16 rfl rfl (x := br_J j) hs1 ?_
        refine br_bipushJ C (by decide) dX0_read_19 ?_
        refine br_icmp_geJ C (by omega) (by omega) dX0_read_21 (tgt := 95) (by decide) (fun c21 => ?_) (fun c21 => ?_)
        · omega
        · have hb0 := hb (4 * j) (by omega)
          have hb1 := hb (4 * j + 1) (by omega)
          have hb2 := hb (4 * j + 2) (by omega)
          refine br_aload_n C dX0_read_24 rfl rfl ?_
          refine br_getR C fdX0_9 dX0_read_25 rfl rfl ?_
          refine br_aload_n C dX0_read_28 rfl rfl ?_
          refine br_getI C fdX0_21 dX0_read_29 rfl rfl (x := br_J j) hs1 ?_
          refine br_aload_n C dX0_read_32 rfl rfl ?_
          refine br_iload_n C dX0_read_33 rfl rfl ?_
          refine br_cv1R C vcX0_30 (c_X1_codeAt hwτ (by omega) ((4 * j : Nat) : Int) (by omega) (by omega)) (by decide) rfl rfl (fun _ => Nat.le_of_ble_eq_true rfl) dX0_read_34 ?_
          refine br_cs1R C scX0_34 (c_X1_kindByLetter (w.2 (4 * j)) (by omega)) (by decide) (fun _ => Nat.le_of_ble_eq_true rfl) dX0_read_37 ?_
          refine br_iastJ C rfl (by decide) (by omega) (by omega) rfl dX0_read_40 ?_
          refine br_aload_n C dX0_read_41 rfl rfl ?_
          refine br_getR C fdX0_15 dX0_read_42 rfl rfl ?_
          refine br_aload_n C dX0_read_45 rfl rfl ?_
          refine br_getI C fdX0_21 dX0_read_46 rfl rfl (x := br_J j) hs1 ?_
          refine br_aload_n C dX0_read_49 rfl rfl ?_
          refine br_iload_n C dX0_read_50 rfl rfl ?_
          refine br_iconstJ C dX0_read_51 ?_
          refine br_iaddJ C dX0_read_52 ?_
          have hca1 := c_X1_codeAt (br_PC.keep (τ := br_up τ 4 ((j : Nat) : Int).toNat (br_J (br_kd (w.2 (4 * j))))) hwτ rfl rfl) (by omega) ((4 * j : Nat) + 1) (by omega) (by omega)
          rw [show (((4 * j : Nat) : Int) + 1).toNat = 4 * j + 1 by omega] at hca1
          refine br_cv1R C vcX0_30 (hca1) (by decide) rfl rfl (fun _ => Nat.le_of_ble_eq_true rfl) dX0_read_53 ?_
          refine br_bipushJ C (by decide) dX0_read_56 ?_
          refine br_isubJ C dX0_read_58 ?_
          refine br_iastJ C rfl (by decide) (by omega) (by omega) rfl dX0_read_59 ?_
          refine br_aload_n C dX0_read_60 rfl rfl ?_
          refine br_getR C fdX0_18 dX0_read_61 rfl rfl ?_
          refine br_aload_n C dX0_read_64 rfl rfl ?_
          refine br_getI C fdX0_21 dX0_read_65 rfl rfl (x := br_J j) hs1 ?_
          refine br_aload_n C dX0_read_68 rfl rfl ?_
          refine br_iload_n C dX0_read_69 rfl rfl ?_
          refine br_iconstJ C dX0_read_70 ?_
          refine br_iaddJ C dX0_read_71 ?_
          have hca2 := c_X1_codeAt (br_PC.keep (τ := br_up (br_up τ 4 ((j : Nat) : Int).toNat (br_J (br_kd (w.2 (4 * j))))) 5 ((j : Nat) : Int).toNat (br_J (w.2 (4 * j + 1) - 48))) hwτ rfl rfl) (by omega) ((4 * j : Nat) + 2) (by omega) (by omega)
          rw [show (((4 * j : Nat) : Int) + 2).toNat = 4 * j + 2 by omega] at hca2
          refine br_cv1R C vcX0_30 (hca2) (by decide) rfl rfl (fun _ => Nat.le_of_ble_eq_true rfl) dX0_read_72 ?_
          refine br_bipushJ C (by decide) dX0_read_75 ?_
          refine br_isubJ C dX0_read_77 ?_
          refine br_iastJ C rfl (by decide) (by omega) (by omega) rfl dX0_read_78 ?_
          refine br_aload_n C dX0_read_79 rfl rfl ?_
          refine br_dup C dX0_read_80 rfl ?_
          refine br_getI C fdX0_21 dX0_read_81 rfl rfl (x := br_J j) hs1 ?_
          refine br_iconstJ C dX0_read_84 ?_
          refine br_iaddJ C dX0_read_85 ?_
          refine br_putI C fdX0_21 dX0_read_86 rfl rfl rfl ?_
          refine br_iincJ C dX0_read_89 rfl (by decide) rfl (L' := [_, _, _]) rfl ?_
          refine br_goto C dX0_read_92 (tgt := 7) (by decide) ?_
          rw [show ((4 * j : Nat) : Int) + 4 = ((4 * (j + 1) : Nat) : Int) by omega]
          refine ih (j + 1) _ (by omega) ((((hsm.up (by simp)).up (by simp)).up (by simp)).up (by simp)) rfl (fun i hi => ?_)
          rw [show ((j : Nat) : Int).toNat = j by omega]
          by_cases e : i = j
          · subst e
            exact ⟨by simp [br_up], by simp [br_up], by simp [br_up]⟩
          · have h9 := hm i (by omega)
            exact ⟨by simp [br_up, e]; exact h9.1, by simp [br_up, e]; exact h9.2.1, by simp [br_up, e]; exact h9.2.2⟩
  refine br_aload_n C dX0_read_0 rfl rfl ?_
  refine br_iconstJ C dX0_read_1 ?_
  refine br_putI C fdX0_21 dX0_read_2 rfl rfl rfl ?_
  refine br_iconstJ C dX0_read_5 ?_
  refine br_istore_n C dX0_read_6 rfl (by decide) rfl (L' := [_, _, _]) rfl ?_
  exact loop ((w.1 + 1) / 4) 0 _ (by omega) ((br_sm.rfl).up (by simp)) rfl (fun i hi => absurd hi (by omega))

theorem br_ff_fit (w : br_Pg) : ∀ (n i : Nat), i + n = w.1 → br_ff w i n = w.1 → ∀ j : Nat, i ≤ j → j < w.1 → br_fit j (w.2 j) := by
  intro n
  induction n with
  | zero => intro i h _ j h1 h2; omega
  | succ n ih =>
    intro i h hf j h1 h2
    unfold br_ff at hf
    by_cases hi : br_fit i (w.2 i)
    · rw [if_pos hi] at hf
      rcases Nat.lt_or_ge i j with q | q
      · exact ih (i + 1) (by omega) hf j (by omega) h2
      · rw [show j = i by omega]; exact hi
    · rw [if_neg hi] at hf; omega
theorem br_tells_fit {w : br_Pg} (h : br_tells w) : ∀ j : Nat, j < w.1 → br_fit j (w.2 j) := fun j hj => br_ff_fit w w.1 0 (by omega) h.2.2 j (by omega) hj
theorem br_tells_27 {w : br_Pg} (h : br_tells w) : w.1 ≤ 27 := by
  rcases Nat.lt_or_ge 27 w.1 with q | q
  · have := (br_tells_fit h 27 (by omega)).1
    omega
  · exact q
theorem br_gy_ok {w : br_Pg} (h : br_tells w) : br_Gok (br_gy w) := by
  have h27 := br_tells_27 h
  refine ⟨by show (w.1 + 1) / 4 ≤ 7; omega, fun j hj => ?_⟩
  have hj2 : j < (w.1 + 1) / 4 := hj
  have h3 := h.2.1
  have f0 := br_tells_fit h (4 * j) (by omega)
  have f1 := br_tells_fit h (4 * j + 1) (by omega)
  have f2 := br_tells_fit h (4 * j + 2) (by omega)
  have hk := br_kd_bnd (w.2 (4 * j))
  have k0 : ¬ br_kd (w.2 (4 * j)) = -1 := by
    rcases f0.2 with q | q | q
    · exact q.2
    · omega
    · omega
  have k1 : 49 ≤ w.2 (4 * j + 1) ∧ w.2 (4 * j + 1) ≤ 57 := by
    rcases f1.2 with q | q | q
    · omega
    · omega
    · exact q.2
  have k2 : 49 ≤ w.2 (4 * j + 2) ∧ w.2 (4 * j + 2) ≤ 57 := by
    rcases f2.2 with q | q | q
    · omega
    · omega
    · exact q.2
  refine ⟨⟨?_, ?_⟩, ⟨?_, ?_⟩, ?_, ?_⟩
  · show 0 ≤ br_kd (w.2 (4 * j)); omega
  · show br_kd (w.2 (4 * j)) ≤ 4; omega
  · show 1 ≤ w.2 (4 * j + 1) - 48; omega
  · show w.2 (4 * j + 1) - 48 ≤ 9; omega
  · show 1 ≤ w.2 (4 * j + 2) - 48; omega
  · show w.2 (4 * j + 2) - 48 ≤ 9; omega

set_option maxHeartbeats 4000000 in
set_option maxRecDepth 100000 in
theorem c_X4_gym {σ : br_Wd} {A : br_A} (hc : br_CR σ A) (hA : br_Aok A) : br_Met 4 mX4_gym [br_r 0] σ (br_QC (br_J (br_sGym A).1) (br_sGym A).2 σ) := by
  obtain ⟨w, g, r, c, t, n, b, kp, ri, ci, ti⟩ := A
  have hc0 := hc
  obtain ⟨⟨hw, hg, hr, ht⟩, ⟨hcc, hnn, hbb, hkp⟩, him⟩ := hc
  obtain ⟨⟨hwo, hgo, hro, hto⟩, ⟨hb30, hn512⟩, hio⟩ := hA
  have hw1 := hw.1
  have hg1 := hg.1
  have hr1 := hr.1
  have ht1 := ht.1
  have hw30 := hwo.1
  have hg7 := hgo.1
  have h5r := hro.1
  have h8t := hto.1
  have hk4 := fun (j : Nat) (hj : j < g.1) => (hgo.2 j hj).1
  have hrb := fun (j : Nat) (hj : j < r.1) => (show r.2 j < 7 by have := hro.2.1 j hj; omega)
  have hcb := fun (j : Nat) (hj : j < w.1) => (show -2147483648 ≤ w.2 j ∧ w.2 j < 2147483648 by have := hwo.2 j hj; omega)
  refine br_ofW (by decide) 0 rfl (fun G C => ?_)
  refine br_aload_n C dX4_gym_0 rfl rfl ?_
  refine br_getR C fdX4_12 dX4_gym_1 rfl rfl ?_
  refine br_cv0B C vcX4_79 (c_X1_tellsGym hw (by omega) hcb) (by decide) rfl rfl (fun _ => Nat.le_of_ble_eq_true rfl) dX4_gym_4 (fun h4 => ?_) (fun h4 => ?_)
  · refine br_if_ne1 C dX4_gym_7 (tgt := 13) (by decide) ?_
    refine br_aload_n C dX4_gym_13 rfl rfl ?_
    refine br_getR C fdX4_19 dX4_gym_14 rfl rfl ?_
    refine br_aload_n C dX4_gym_17 rfl rfl ?_
    refine br_getR C fdX4_12 dX4_gym_18 rfl rfl ?_
    refine br_cv1 C vcX4_83 (c_X0_read hw (br_tells_27 h4) h4.2.1 hwo.2) (by decide) rfl rfl (fun _ => Nat.le_of_ble_eq_true rfl) dX4_gym_21 (fun v21 τ21 hv => ?_)
    obtain ⟨rfl, hgg, hsm⟩ := hv
    refine br_aload_n C dX4_gym_24 rfl rfl ?_
    refine br_getR C fdX4_12 dX4_gym_25 rfl rfl ?_
    refine br_iconstJ C dX4_gym_28 ?_
    refine br_putI C fdX4_68 dX4_gym_29 rfl rfl rfl ?_
    refine br_aload_n C dX4_gym_32 rfl rfl ?_
    refine br_getR C fdX4_28 dX4_gym_33 rfl rfl ?_
    refine br_iconstJ C dX4_gym_36 ?_
    refine br_putI C fdX4_87 dX4_gym_37 rfl rfl rfl ?_
    refine br_aload_n C dX4_gym_40 rfl rfl ?_
    refine br_getR C fdX4_35 dX4_gym_41 rfl rfl ?_
    refine br_iconstJ C dX4_gym_44 ?_
    refine br_putI C fdX4_90 dX4_gym_45 rfl rfl rfl ?_
    refine br_aload_n C dX4_gym_48 rfl rfl ?_
    refine br_iconstJ C dX4_gym_49 ?_
    refine br_putI C fdX4_39 dX4_gym_50 rfl rfl rfl ?_
    refine br_aload_n C dX4_gym_53 rfl rfl ?_
    refine br_iconstJ C dX4_gym_54 ?_
    refine br_put C fdX4_43 dX4_gym_55 rfl rfl (by decide) (by decide) rfl ?_
    refine br_aload_n C dX4_gym_58 rfl rfl ?_
    refine br_dup C dX4_gym_59 rfl ?_
    refine br_getI C fdX4_62 dX4_gym_60 rfl rfl (x := br_J n) ((congrFun (hsm.1 0 (by decide)) 11).trans hnn) ?_
    refine br_iconstJ C dX4_gym_63 ?_
    refine br_iaddJ C dX4_gym_64 ?_
    refine br_putI C fdX4_62 dX4_gym_65 rfl rfl rfl ?_
    refine br_aload_n C dX4_gym_68 rfl rfl ?_
    refine br_getR C fdX4_19 dX4_gym_69 rfl rfl ?_
    refine br_getI C fdX4_91 dX4_gym_72 rfl rfl (x := br_J (br_gy w).1) hgg.1 ?_
    exact br_iret C rfl dX4_gym_75 (by
        rw [show br_sGym (w, g, r, c, t, n, b, kp, ri, ci, ti)  = ((((br_gy w).1 : Nat) : Int), ((0, w.2), br_gy w, (0, r.2), 0, (0, t.2), n + 1, b, false, ri, ci, ti)) from if_pos h4]
        exact ⟨rfl, ⟨⟨⟨rfl, fun j hj => absurd hj (Nat.not_lt_zero j)⟩, hgg.keep rfl rfl rfl rfl, ⟨rfl, fun j hj => absurd hj (Nat.not_lt_zero j)⟩, ⟨rfl, fun j hj => absurd hj (Nat.not_lt_zero j), fun j hj => absurd hj (Nat.not_lt_zero j), fun j hj => absurd hj (Nat.not_lt_zero j)⟩⟩, ⟨rfl, rfl, (congrFun (hsm.1 0 (by decide)) 12).trans hbb, rfl⟩, fun h => absurd h (by decide)⟩, (((((((hsm.mono (qs' := [0, 1, 3, 4, 5, 6, 7, 15]) (by decide)).up (by simp)).up (by simp)).up (by simp)).up (by simp)).up (by simp)).up (by simp)).fc (by decide)⟩)
  · refine br_if_ne0 C dX4_gym_7 (tgt := 13) (by decide) ?_
    refine br_bipushJ C (by decide) dX4_gym_10 ?_
    exact br_iret C rfl dX4_gym_12 (by
        rw [show br_sGym (w, g, r, c, t, n, b, kp, ri, ci, ti)  = (-103, (w, g, r, c, t, n, b, kp, ri, ci, ti)) from if_neg h4]
        exact ⟨rfl, hc0, br_fc.rfl⟩)
