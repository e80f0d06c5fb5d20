theorem br_TM_add {a : Nat} {σ : br_Wd} {t : br_Tr} (ht : br_TM a σ t) (p b s : Nat) : br_TM a (br_up (br_up (br_up σ a (3 * t.1) (br_J p)) a (3 * t.1 + 1) (br_J b)) a (3 * t.1 + 2) (br_J s)) (br_tadd t p b s) := by
  obtain ⟨h1, h2, h3⟩ := ht
  refine ⟨fun j hj => ?_, fun j hj => ?_, fun j hj => ?_⟩ <;> (
    have hj' : j < t.1 + 1 := hj
    simp only [br_up, br_tadd]
    by_cases e : j = t.1
    · subst e
      simp
    · have e1 : ¬ 3 * j = 3 * t.1 := by omega
      have e2 : ¬ 3 * j = 3 * t.1 + 1 := by omega
      have e3 : ¬ 3 * j = 3 * t.1 + 2 := by omega
      have e4 : ¬ 3 * j + 1 = 3 * t.1 := by omega
      have e5 : ¬ 3 * j + 1 = 3 * t.1 + 2 := by omega
      have e6 : ¬ 3 * j + 2 = 3 * t.1 := by omega
      have e7 : ¬ 3 * j + 2 = 3 * t.1 + 1 := by omega
      have e8 : ¬ 3 * j + 1 = 3 * t.1 + 1 := by omega
      have e9 : ¬ 3 * j + 2 = 3 * t.1 + 2 := by omega
      simp only [e, e1, e2, e3, e4, e5, e6, e7, e8, e9, if_true, if_false]
      first | exact h1 j (by omega) | exact h2 j (by omega) | exact h3 j (by omega))

set_option maxHeartbeats 4000000 in
set_option maxRecDepth 100000 in
theorem c_X5_tryIt {σ : br_Wd} {A : br_A} (hm : br_MR σ A) (hA : br_Aok A) (z : Int) (hbz : -2147483648 ≤ z ∧ z < 2147483648) (x : Int) (hbx : -2147483648 ≤ x ∧ x < 2147483648) (s : Nat) (hs1 : s ≤ 1) : br_Met 2 mX5_tryIt [br_r 23, br_i (br_J z), br_i (br_J x), br_i (br_J s)] σ (br_QM (br_J (br_sTry A z x s).1) (br_sTry A z x s).2 σ) := by
  obtain ⟨w, g, r, c, t, n, b, kp, ri, ci, ti⟩ := A
  have hm0 := hm
  have hA0 := hA
  obtain ⟨⟨hw, hg, hr, ht⟩, ⟨hr7, ht11, hcc, hnn, hbb⟩, ⟨e, he, heb, hke⟩, him⟩ := hm
  obtain ⟨⟨hwo, hgo, hro, hto⟩, ⟨hb30, hn512⟩, hio⟩ := hA
  have hw1 := hw.1
  have hg1 := hg.1
  have hK := hg.2.1
  have hWo := hg.2.2.1
  have hS := hg.2.2.2
  have hw30 := hwo.1
  have hg7 := hgo.1
  have h5r := hro.1
  have h8t := hto.1
  have hcb := fun (j : Nat) (hj : j < w.1) => (show -2147483648 ≤ w.2 j ∧ w.2 j < 2147483648 by have := hwo.2 j hj; omega)
  have hrb := fun (j : Nat) (hj : j < r.1) => (show r.2 j < 7 by have := hro.2.1 j hj; omega)
  refine br_ofW (by decide) 0 rfl (fun G C => ?_)
  refine br_aload_n C dX5_tryIt_0 rfl rfl ?_
  refine br_iload_n C dX5_tryIt_1 rfl rfl ?_
  refine br_cv1B C vcX5_95 (c_X5_isPiece hg1 hg7 z hbz) (by decide) rfl rfl (fun _ => Nat.le_of_ble_eq_true rfl) dX5_tryIt_2 (fun h2 => ?_) (fun h2 => ?_)
  · refine br_if_ne1 C dX5_tryIt_5 (tgt := 11) (by decide) ?_
    refine br_iload_n C dX5_tryIt_11 rfl rfl ?_
    refine br_i2lK C (by omega) dX5_tryIt_12 ?_
    refine br_lconst C dX5_tryIt_13 (v := br_K 0) (by decide) ?_
    refine br_ldc2K C klX5_102 (z := 4) (by decide) dX5_tryIt_14 ?_
    refine br_cs3B C scX5_40 (c_X5_in x 0 4 (by omega) (by omega) (by omega)) (by decide) (fun _ => Nat.le_of_ble_eq_true rfl) dX5_tryIt_17 (fun h17 => ?_) (fun h17 => ?_)
    · refine br_if_ne1 C dX5_tryIt_20 (tgt := 26) (by decide) ?_
      refine br_aload_n C dX5_tryIt_26 rfl rfl ?_
      refine br_getI C fdX5_72 dX5_tryIt_27 rfl rfl (by assumption) ?_
      refine br_bipushJ C (by decide) dX5_tryIt_30 ?_
      refine br_icmp_neJ C (by omega) (by omega) dX5_tryIt_32 (tgt := 38) (by decide) (fun c32 => ?_) (fun c32 => ?_)
      · have ez : ((z.toNat : Nat) : Int) = z := by omega
        have ex : ((x.toNat : Nat) : Int) = x := by omega
        have hta := br_TM_add ht z.toNat x.toNat s
        rw [ez, ex] at hta
        have i0 : (3 * (t.1 : Int)).toNat = 3 * t.1 := by omega
        have i1 : (3 * (t.1 : Int) + 1).toNat = 3 * t.1 + 1 := by omega
        have i2 : (3 * (t.1 : Int) + 2).toNat = 3 * t.1 + 2 := by omega
        refine br_aload_n C dX5_tryIt_38 rfl rfl ?_
        refine br_getR C fdX5_25 dX5_tryIt_39 rfl rfl ?_
        refine br_iconstJ C dX5_tryIt_42 ?_
        refine br_aload_n C dX5_tryIt_43 rfl rfl ?_
        refine br_getI C fdX5_72 dX5_tryIt_44 rfl rfl (x := br_J t.1) ht11 ?_
        refine br_imulJ C dX5_tryIt_47 ?_
        refine br_iload_n C dX5_tryIt_48 rfl rfl ?_
        refine br_iastJ C rfl (by decide) (by omega) (by omega) rfl dX5_tryIt_49 ?_
        refine br_aload_n C dX5_tryIt_50 rfl rfl ?_
        refine br_getR C fdX5_25 dX5_tryIt_51 rfl rfl ?_
        refine br_iconstJ C dX5_tryIt_54 ?_
        refine br_aload_n C dX5_tryIt_55 rfl rfl ?_
        refine br_getI C fdX5_72 dX5_tryIt_56 rfl rfl (x := br_J t.1) ht11 ?_
        refine br_imulJ C dX5_tryIt_59 ?_
        refine br_iconstJ C dX5_tryIt_60 ?_
        refine br_iaddJ C dX5_tryIt_61 ?_
        refine br_iload_n C dX5_tryIt_62 rfl rfl ?_
        refine br_iastJ C rfl (by decide) (by omega) (by omega) rfl dX5_tryIt_63 ?_
        refine br_aload_n C dX5_tryIt_64 rfl rfl ?_
        refine br_getR C fdX5_25 dX5_tryIt_65 rfl rfl ?_
        refine br_iconstJ C dX5_tryIt_68 ?_
        refine br_aload_n C dX5_tryIt_69 rfl rfl ?_
        refine br_getI C fdX5_72 dX5_tryIt_70 rfl rfl (x := br_J t.1) ht11 ?_
        refine br_imulJ C dX5_tryIt_73 ?_
        refine br_iconstJ C dX5_tryIt_74 ?_
        refine br_iaddJ C dX5_tryIt_75 ?_
        refine br_iload_n C dX5_tryIt_76 rfl rfl ?_
        refine br_if_eqJ C (by omega) dX5_tryIt_77 (tgt := 84) (by decide) (fun c77 => ?_) (fun c77 => ?_)
        · have es : s = 0 := by omega
          refine br_iconstJ C dX5_tryIt_84 ?_
          refine br_iastJ C rfl (by decide) (by omega) (by omega) rfl dX5_tryIt_85 ?_
          rw [i0, i1, i2]
          refine br_aload_n C dX5_tryIt_86 rfl rfl ?_
          refine br_dup C dX5_tryIt_87 rfl ?_
          refine br_getI C fdX5_72 dX5_tryIt_88 rfl rfl (x := br_J t.1) ht11 ?_
          refine br_iconstJ C dX5_tryIt_91 ?_
          refine br_iaddJ C dX5_tryIt_92 ?_
          refine br_putI C fdX5_72 dX5_tryIt_93 rfl rfl rfl ?_
          refine br_aload_n C dX5_tryIt_96 rfl rfl ?_
          refine br_getI C fdX5_72 dX5_tryIt_97 rfl rfl (x := br_J (t.1 + 1)) rfl ?_
          exact br_iret C rfl dX5_tryIt_100 (by
              rw [show br_sTry (w, g, r, c, t, n, b, kp, ri, ci, ti) z x s = ((t.1 : Int) + 1, (w, g, r, c, br_tadd t z.toNat x.toNat s, n, b, kp, ri, ci, ti)) from (if_neg (by omega)).trans ((if_neg (by omega)).trans (if_neg (by omega)))]
              exact ⟨rfl, ⟨⟨hw.keep rfl rfl, hg.keep rfl rfl, hr.keep rfl, (by rw [es] at hta ⊢; exact hta.keep rfl)⟩, ⟨hr7, rfl, hcc, hnn, hbb⟩, ⟨e, he, heb, hke⟩, fun h => ⟨⟨(him h).1.1.keep rfl, (him h).1.2.keep rfl⟩, (him h).2⟩⟩, (((((br_sm.rfl (qs := [23, 29])).up (by simp)).up (by simp)).up (by simp)).up (by simp)).fm (by decide)⟩)
        · have es : s = 1 := by omega
          refine br_iconstJ C dX5_tryIt_80 ?_
          refine br_goto C dX5_tryIt_81 (tgt := 85) (by decide) ?_
          refine br_iastJ C rfl (by decide) (by omega) (by omega) rfl dX5_tryIt_85 ?_
          rw [i0, i1, i2]
          refine br_aload_n C dX5_tryIt_86 rfl rfl ?_
          refine br_dup C dX5_tryIt_87 rfl ?_
          refine br_getI C fdX5_72 dX5_tryIt_88 rfl rfl (x := br_J t.1) ht11 ?_
          refine br_iconstJ C dX5_tryIt_91 ?_
          refine br_iaddJ C dX5_tryIt_92 ?_
          refine br_putI C fdX5_72 dX5_tryIt_93 rfl rfl rfl ?_
          refine br_aload_n C dX5_tryIt_96 rfl rfl ?_
          refine br_getI C fdX5_72 dX5_tryIt_97 rfl rfl (x := br_J (t.1 + 1)) rfl ?_
          exact br_iret C rfl dX5_tryIt_100 (by
              rw [show br_sTry (w, g, r, c, t, n, b, kp, ri, ci, ti) z x s = ((t.1 : Int) + 1, (w, g, r, c, br_tadd t z.toNat x.toNat s, n, b, kp, ri, ci, ti)) from (if_neg (by omega)).trans ((if_neg (by omega)).trans (if_neg (by omega)))]
              exact ⟨rfl, ⟨⟨hw.keep rfl rfl, hg.keep rfl rfl, hr.keep rfl, (by rw [es] at hta ⊢; exact hta.keep rfl)⟩, ⟨hr7, rfl, hcc, hnn, hbb⟩, ⟨e, he, heb, hke⟩, fun h => ⟨⟨(him h).1.1.keep rfl, (him h).1.2.keep rfl⟩, (him h).2⟩⟩, (((((br_sm.rfl (qs := [23, 29])).up (by simp)).up (by simp)).up (by simp)).up (by simp)).fm (by decide)⟩)
      · refine br_bipushJ C (by decide) dX5_tryIt_35 ?_
        exact br_iret C rfl dX5_tryIt_37 (by
            rw [show br_sTry (w, g, r, c, t, n, b, kp, ri, ci, ti) z x s = (-104, (w, g, r, c, t, n, b, kp, ri, ci, ti)) from (if_neg (by omega)).trans ((if_neg (by omega)).trans (if_pos (by omega)))]
            exact ⟨rfl, hm0, br_fm.rfl⟩)
    · refine br_if_ne0 C dX5_tryIt_20 (tgt := 26) (by decide) ?_
      refine br_bipushJ C (by decide) dX5_tryIt_23 ?_
      exact br_iret C rfl dX5_tryIt_25 (by
          rw [show br_sTry (w, g, r, c, t, n, b, kp, ri, ci, ti) z x s = (-102, (w, g, r, c, t, n, b, kp, ri, ci, ti)) from (if_neg (by omega)).trans (if_pos (by omega))]
          exact ⟨rfl, hm0, br_fm.rfl⟩)
  · refine br_if_ne0 C dX5_tryIt_5 (tgt := 11) (by decide) ?_
    refine br_bipushJ C (by decide) dX5_tryIt_8 ?_
    exact br_iret C rfl dX5_tryIt_10 (by
        rw [show br_sTry (w, g, r, c, t, n, b, kp, ri, ci, ti) z x s = (-101, (w, g, r, c, t, n, b, kp, ri, ci, ti)) from if_pos (by omega)]
        exact ⟨rfl, hm0, br_fm.rfl⟩)

set_option maxHeartbeats 4000000 in
set_option maxRecDepth 100000 in
theorem c_X5_forget {σ : br_Wd} {A : br_A} (hm : br_MR σ A) (hA : br_Aok A) : br_Met 0 mX5_forget [br_r 23] σ (br_QM (br_J (br_sForget A).1) (br_sForget A).2 σ) := by
  obtain ⟨w, g, r, c, t, n, b, kp, ri, ci, ti⟩ := A
  have hm0 := hm
  have hA0 := hA
  obtain ⟨⟨hw, hg, hr, ht⟩, ⟨hr7, ht11, hcc, hnn, hbb⟩, ⟨e, he, heb, hke⟩, him⟩ := hm
  obtain ⟨⟨hwo, hgo, hro, hto⟩, ⟨hb30, hn512⟩, hio⟩ := hA
  have hw1 := hw.1
  have hg1 := hg.1
  have hK := hg.2.1
  have hWo := hg.2.2.1
  have hS := hg.2.2.2
  have hw30 := hwo.1
  have hg7 := hgo.1
  have h5r := hro.1
  have h8t := hto.1
  have hcb := fun (j : Nat) (hj : j < w.1) => (show -2147483648 ≤ w.2 j ∧ w.2 j < 2147483648 by have := hwo.2 j hj; omega)
  have hrb := fun (j : Nat) (hj : j < r.1) => (show r.2 j < 7 by have := hro.2.1 j hj; omega)
  refine br_ofW (by decide) 1 rfl (fun G C => ?_)
  refine br_aload_n C dX5_forget_0 rfl rfl ?_
  refine br_getI C fdX5_72 dX5_forget_1 rfl rfl (by assumption) ?_
  refine br_istore_n C dX5_forget_4 rfl (by decide) rfl (L' := [_, _]) rfl ?_
  refine br_aload_n C dX5_forget_5 rfl rfl ?_
  refine br_iconstJ C dX5_forget_6 ?_
  refine br_putI C fdX5_72 dX5_forget_7 rfl rfl rfl ?_
  refine br_iload_n C dX5_forget_10 rfl rfl ?_
  exact br_iret C rfl dX5_forget_11 ⟨rfl, ⟨⟨hw.keep rfl rfl, hg.keep rfl rfl, hr.keep rfl, ⟨fun j hj => absurd hj (Nat.not_lt_zero j), fun j hj => absurd hj (Nat.not_lt_zero j), fun j hj => absurd hj (Nat.not_lt_zero j)⟩⟩, ⟨hr7, rfl, hcc, hnn, hbb⟩, ⟨e, he, heb, hke⟩, fun h => ⟨⟨(him h).1.1.keep rfl, (him h).1.2.keep rfl⟩, (him h).2⟩⟩, ((br_sm.rfl (qs := [23])).up (by simp)).fm (by decide)⟩

set_option maxHeartbeats 4000000 in
set_option maxRecDepth 100000 in
theorem c_X5_image {σ : br_Wd} {A : br_A} (hm : br_MR σ A) (hA : br_Aok A) : br_Met 1 mX5_image [br_r 23] σ (br_QM (br_J (br_sImage A).1) (br_sImage A).2 σ) := by
  obtain ⟨w, g, r, c, t, n, b, kp, ri, ci, ti⟩ := A
  have hm0 := hm
  have hA0 := hA
  obtain ⟨⟨hw, hg, hr, ht⟩, ⟨hr7, ht11, hcc, hnn, hbb⟩, ⟨e, he, heb, hke⟩, him⟩ := hm
  obtain ⟨⟨hwo, hgo, hro, hto⟩, ⟨hb30, hn512⟩, hio⟩ := hA
  have hw1 := hw.1
  have hg1 := hg.1
  have hK := hg.2.1
  have hWo := hg.2.2.1
  have hS := hg.2.2.2
  have hw30 := hwo.1
  have hg7 := hgo.1
  have h5r := hro.1
  have h8t := hto.1
  have hcb := fun (j : Nat) (hj : j < w.1) => (show -2147483648 ≤ w.2 j ∧ w.2 j < 2147483648 by have := hwo.2 j hj; omega)
  have hrb := fun (j : Nat) (hj : j < r.1) => (show r.2 j < 7 by have := hro.2.1 j hj; omega)
  refine br_ofW (by decide) 0 rfl (fun G C => ?_)
  refine br_aload_n C dX5_image_0 rfl rfl ?_
  refine br_cv0B C vcX5_117 (c_X5_lacks hg1 hg7) (by decide) rfl rfl (fun _ => Nat.le_of_ble_eq_true rfl) dX5_image_1 (fun h1 => ?_) (fun h1 => ?_)
  · refine br_if_eq1 C dX5_image_4 (tgt := 10) (by decide) ?_
    refine br_bipushJ C (by decide) dX5_image_7 ?_
    exact br_iret C rfl dX5_image_9 (by
        rw [show br_sImage (w, g, r, c, t, n, b, kp, ri, ci, ti)  = (-103, (w, g, r, c, t, n, b, kp, ri, ci, ti)) from if_pos h1]
        exact ⟨rfl, hm0, br_fm.rfl⟩)
  · refine br_if_eq0 C dX5_image_4 (tgt := 10) (by decide) ?_
    refine br_aload_n C dX5_image_10 rfl rfl ?_
    refine br_getR C fdX5_16 dX5_image_11 rfl rfl ?_
    refine br_aload_n C dX5_image_14 rfl rfl ?_
    refine br_getR C fdX5_28 dX5_image_15 rfl rfl ?_
    refine br_cs2 C scX5_154 (c_X5_copy (a := 26) (b := 30) (n := 5) rfl rfl (by omega) (by decide)) (by decide) (fun _ => Nat.le_of_ble_eq_true rfl) dX5_image_18 (fun v18 τ18 hv => ?_)
    obtain ⟨rfl, hcp1, hs1⟩ := hv
    refine br_aload_n C dX5_image_21 rfl rfl ?_
    refine br_getR C fdX5_25 dX5_image_22 rfl rfl ?_
    refine br_aload_n C dX5_image_25 rfl rfl ?_
    refine br_getR C fdX5_31 dX5_image_26 rfl rfl ?_
    refine br_cs2 C scX5_154 (c_X5_copy (a := 29) (b := 31) (n := 24) rfl rfl (by omega) (by decide)) (by decide) (fun _ => Nat.le_of_ble_eq_true rfl) dX5_image_29 (fun v29 τ29 hv => ?_)
    obtain ⟨rfl, hcp2, hs2⟩ := hv
    have hsm := (hs1.mono (qs' := [30, 31]) (by decide)).trans (hs2.mono (qs' := [30, 31]) (by decide))
    refine br_aload_n C dX5_image_32 rfl rfl ?_
    refine br_aload_n C dX5_image_33 rfl rfl ?_
    refine br_getI C fdX5_66 dX5_image_34 rfl rfl (x := br_J r.1) ((congrFun (hsm.1 23 (by decide)) 7).trans hr7) ?_
    refine br_putI C fdX5_194 dX5_image_37 rfl rfl rfl ?_
    refine br_aload_n C dX5_image_40 rfl rfl ?_
    refine br_aload_n C dX5_image_41 rfl rfl ?_
    refine br_getI C fdX5_69 dX5_image_42 rfl rfl (x := br_J c) ((congrFun (hsm.1 23 (by decide)) 3).trans hcc) ?_
    refine br_putI C fdX5_197 dX5_image_45 rfl rfl rfl ?_
    refine br_aload_n C dX5_image_48 rfl rfl ?_
    refine br_aload_n C dX5_image_49 rfl rfl ?_
    refine br_getI C fdX5_72 dX5_image_50 rfl rfl (x := br_J t.1) ((congrFun (hsm.1 23 (by decide)) 11).trans ht11) ?_
    refine br_putI C fdX5_200 dX5_image_53 rfl rfl rfl ?_
    refine br_aload_n C dX5_image_56 rfl rfl ?_
    refine br_aload_n C dX5_image_57 rfl rfl ?_
    refine br_getI C fdX5_75 dX5_image_58 rfl rfl (x := br_J n) ((congrFun (hsm.1 23 (by decide)) 4).trans hnn) ?_
    refine br_putI C fdX5_34 dX5_image_61 rfl rfl rfl ?_
    refine br_aload_n C dX5_image_64 rfl rfl ?_
    refine br_getI C fdX5_69 dX5_image_65 rfl rfl (x := br_J c) ((congrFun (hsm.1 23 (by decide)) 3).trans hcc) ?_
    exact br_iret C rfl dX5_image_68 (by
        rw [show br_sImage (w, g, r, c, t, n, b, kp, ri, ci, ti)  = (c, (w, g, r, c, t, n, b, true, r, c, t)) from if_neg h1]
        exact ⟨rfl, ⟨⟨hw.keep (congrFun (hsm.1 23 (by decide)) 1) (hsm.1 24 (by decide)), hg.keep (congrFun (hsm.1 23 (by decide)) 2) (hsm.1 25 (by decide)), hr.keep (hsm.1 26 (by decide)), ht.keep (hsm.1 29 (by decide))⟩, ⟨(congrFun (hsm.1 23 (by decide)) 7).trans hr7, (congrFun (hsm.1 23 (by decide)) 11).trans ht11, (congrFun (hsm.1 23 (by decide)) 3).trans hcc, (congrFun (hsm.1 23 (by decide)) 4).trans hnn, (congrFun (hsm.1 23 (by decide)) 8).trans hbb⟩, ⟨(n : Int), rfl, by omega, ⟨fun _ => rfl, fun _ => rfl⟩⟩, fun _ => ⟨⟨(hr.copy h5r hcp1).keep (hs2.1 30 (by decide)), (br_TM.keep ht (hs1.1 29 (by decide))).copy h8t hcp2⟩, rfl, rfl, rfl⟩⟩, (((((hsm.mono (qs' := [23, 30, 31]) (by decide)).up (by simp)).up (by simp)).up (by simp)).up (by simp)).fm (by decide)⟩)

set_option maxHeartbeats 4000000 in
set_option maxRecDepth 100000 in
theorem c_X5_restore {σ : br_Wd} {A : br_A} (hm : br_MR σ A) (hA : br_Aok A) : br_Met 1 mX5_restore [br_r 23] σ (br_QM (br_J (br_sRestore A).1) (br_sRestore A).2 σ) := by
  obtain ⟨w, g, r, c, t, n, b, kp, ri, ci, ti⟩ := A
  have hm0 := hm
  have hA0 := hA
  obtain ⟨⟨hw, hg, hr, ht⟩, ⟨hr7, ht11, hcc, hnn, hbb⟩, ⟨e, he, heb, hke⟩, him⟩ := hm
  obtain ⟨⟨hwo, hgo, hro, hto⟩, ⟨hb30, hn512⟩, hio⟩ := hA
  have hw1 := hw.1
  have hg1 := hg.1
  have hK := hg.2.1
  have hWo := hg.2.2.1
  have hS := hg.2.2.2
  have hw30 := hwo.1
  have hg7 := hgo.1
  have h5r := hro.1
  have h8t := hto.1
  have hcb := fun (j : Nat) (hj : j < w.1) => (show -2147483648 ≤ w.2 j ∧ w.2 j < 2147483648 by have := hwo.2 j hj; omega)
  have hrb := fun (j : Nat) (hj : j < r.1) => (show r.2 j < 7 by have := hro.2.1 j hj; omega)
  refine br_ofW (by decide) 0 rfl (fun G C => ?_)
  refine br_aload_n C dX5_restore_0 rfl rfl ?_
  refine br_getI C fdX5_34 dX5_restore_1 rfl rfl (x := br_J e) he ?_
  refine br_aload_n C dX5_restore_4 rfl rfl ?_
  refine br_getI C fdX5_75 dX5_restore_5 rfl rfl (by assumption) ?_
  refine br_icmp_eqJ C (by omega) (by omega) dX5_restore_8 (tgt := 14) (by decide) (fun c8 => ?_) (fun c8 => ?_)
  · have hkt : kp = true := hke.mpr (by omega)
    obtain ⟨⟨hri, hti⟩, h15, h16, h17⟩ := him hkt
    obtain ⟨hrok, htok⟩ := hio hkt
    refine br_aload_n C dX5_restore_14 rfl rfl ?_
    refine br_getR C fdX5_28 dX5_restore_15 rfl rfl ?_
    refine br_aload_n C dX5_restore_18 rfl rfl ?_
    refine br_getR C fdX5_16 dX5_restore_19 rfl rfl ?_
    refine br_cs2 C scX5_154 (c_X5_copy (a := 30) (b := 26) (n := 5) rfl rfl (by omega) (by decide)) (by decide) (fun _ => Nat.le_of_ble_eq_true rfl) dX5_restore_22 (fun v22 τ22 hv => ?_)
    obtain ⟨rfl, hcp1, hs1⟩ := hv
    refine br_aload_n C dX5_restore_25 rfl rfl ?_
    refine br_getR C fdX5_31 dX5_restore_26 rfl rfl ?_
    refine br_aload_n C dX5_restore_29 rfl rfl ?_
    refine br_getR C fdX5_25 dX5_restore_30 rfl rfl ?_
    refine br_cs2 C scX5_154 (c_X5_copy (a := 31) (b := 29) (n := 24) rfl rfl (by omega) (by decide)) (by decide) (fun _ => Nat.le_of_ble_eq_true rfl) dX5_restore_33 (fun v33 τ33 hv => ?_)
    obtain ⟨rfl, hcp2, hs2⟩ := hv
    have hsm := (hs1.mono (qs' := [26, 29]) (by decide)).trans (hs2.mono (qs' := [26, 29]) (by decide))
    refine br_aload_n C dX5_restore_36 rfl rfl ?_
    refine br_aload_n C dX5_restore_37 rfl rfl ?_
    refine br_getI C fdX5_194 dX5_restore_38 rfl rfl (x := br_J ri.1) ((congrFun (hsm.1 23 (by decide)) 15).trans h15) ?_
    refine br_putI C fdX5_66 dX5_restore_41 rfl rfl rfl ?_
    refine br_aload_n C dX5_restore_44 rfl rfl ?_
    refine br_aload_n C dX5_restore_45 rfl rfl ?_
    refine br_getI C fdX5_197 dX5_restore_46 rfl rfl (x := br_J ci) ((congrFun (hsm.1 23 (by decide)) 16).trans h16) ?_
    refine br_putI C fdX5_69 dX5_restore_49 rfl rfl rfl ?_
    refine br_aload_n C dX5_restore_52 rfl rfl ?_
    refine br_aload_n C dX5_restore_53 rfl rfl ?_
    refine br_getI C fdX5_200 dX5_restore_54 rfl rfl (x := br_J ti.1) ((congrFun (hsm.1 23 (by decide)) 17).trans h17) ?_
    refine br_putI C fdX5_72 dX5_restore_57 rfl rfl rfl ?_
    refine br_aload_n C dX5_restore_60 rfl rfl ?_
    refine br_getI C fdX5_69 dX5_restore_61 rfl rfl (x := br_J ci) rfl ?_
    exact br_iret C rfl dX5_restore_64 (by
        rw [show br_sRestore (w, g, r, c, t, n, b, kp, ri, ci, ti)  = (ci, (w, g, ri, ci, ti, n, b, kp, ri, ci, ti)) from if_pos hkt]
        exact ⟨rfl, ⟨⟨hw.keep (congrFun (hsm.1 23 (by decide)) 1) (hsm.1 24 (by decide)), hg.keep (congrFun (hsm.1 23 (by decide)) 2) (hsm.1 25 (by decide)), (hri.copy hrok.1 hcp1).keep (hs2.1 26 (by decide)), (br_TM.keep hti (hs1.1 31 (by decide))).copy htok.1 hcp2⟩, ⟨rfl, rfl, rfl, (congrFun (hsm.1 23 (by decide)) 4).trans hnn, (congrFun (hsm.1 23 (by decide)) 8).trans hbb⟩, ⟨e, (congrFun (hsm.1 23 (by decide)) 14).trans he, heb, hke⟩, fun _ => ⟨⟨hri.keep (hsm.1 30 (by decide)), hti.keep (hsm.1 31 (by decide))⟩, (congrFun (hsm.1 23 (by decide)) 15).trans h15, (congrFun (hsm.1 23 (by decide)) 16).trans h16, (congrFun (hsm.1 23 (by decide)) 17).trans h17⟩⟩, ((((hsm.mono (qs' := [23, 26, 29]) (by decide)).up (by simp)).up (by simp)).up (by simp)).fm (by decide)⟩)
  · have hkf : ¬ kp = true := fun q => by have := hke.mp q; omega
    refine br_bipushJ C (by decide) dX5_restore_11 ?_
    exact br_iret C rfl dX5_restore_13 (by
        rw [show br_sRestore (w, g, r, c, t, n, b, kp, ri, ci, ti)  = (-103, (w, g, r, c, t, n, b, kp, ri, ci, ti)) from if_neg hkf]
        exact ⟨rfl, hm0, br_fm.rfl⟩)

set_option maxHeartbeats 4000000 in
set_option maxRecDepth 100000 in
theorem c_X5_flightsIn {σ : br_Wd} {g : br_Gy} (hg : br_GM σ g) (hgo : br_Gok g) {r : br_Ro} (hr7 : σ.1 23 7 = br_J r.1) (hr : br_RM 26 σ r) (hro : br_Rok g r) : br_Met 1 mX5_flightsIn [br_r 23] σ (br_R (br_J (br_nF g r)) σ) := by
  have hg0 := hg
  have hgo0 := hgo
  obtain ⟨hgn, hK, hWo, hS⟩ := hg
  have hg7 := hgo.1
  have hr0 := hr
  have h5r := hro.1
  refine br_ofW (by decide) 2 rfl (fun G C => ?_)
  have loop : ∀ (n i : Nat) (a : Int), i + n = r.1 → a = br_sum (fun i => if br_isF g (r.2 i) then 1 else 0) i → G 4 [some (br_r 23), some (br_i (br_J a)), some (br_i (br_J i))] [] σ := by
    intro n
    induction n with
    | zero =>
      intro i a hin ha
      have ei : i = r.1 := by omega
      subst ei
      refine br_iload_n C dX5_flightsIn_4 rfl rfl ?_
      refine br_aload_n C dX5_flightsIn_5 rfl rfl ?_
      refine br_getI C fdX5_66 dX5_flightsIn_6 rfl rfl (by assumption) ?_
      refine br_icmp_geJ C (by omega) (by omega) dX5_flightsIn_9 (tgt := 39) (by decide) (fun c9 => ?_) (fun c9 => ?_)
      · refine br_iload_n C dX5_flightsIn_39 rfl rfl ?_
        exact br_iret C rfl dX5_flightsIn_40 ⟨by rw [ha]; rfl, rfl⟩
      · omega
    | succ n ih =>
      intro i a hin ha
      have hi : i < r.1 := by omega
      refine br_iload_n C dX5_flightsIn_4 rfl rfl ?_
      refine br_aload_n C dX5_flightsIn_5 rfl rfl ?_
      refine br_getI C fdX5_66 dX5_flightsIn_6 rfl rfl (by assumption) ?_
      refine br_icmp_geJ C (by omega) (by omega) dX5_flightsIn_9 (tgt := 39) (by decide) (fun c9 => ?_) (fun c9 => ?_)
      · omega
      · refine br_iload_n C dX5_flightsIn_12 rfl rfl ?_
        refine br_aload_n C dX5_flightsIn_13 rfl rfl ?_
        refine br_aload_n C dX5_flightsIn_14 rfl rfl ?_
        refine br_getR C fdX5_16 dX5_flightsIn_15 rfl rfl ?_
        refine br_iload_n C dX5_flightsIn_18 rfl rfl ?_
        refine br_ialdJ C rfl (by decide) (by omega) (by omega) (hr i hi) dX5_flightsIn_19 ?_
        refine br_cv1B C vcX5_107 (c_X5_isFlight hg0 hgo0 (r.2 i) (hro.2.1 i hi)) (by decide) rfl rfl (fun _ => Nat.le_of_ble_eq_true rfl) dX5_flightsIn_20 (fun h20 => ?_) (fun h20 => ?_)
        · refine br_if_eq1 C dX5_flightsIn_23 (tgt := 30) (by decide) ?_
          refine br_iconstJ C dX5_flightsIn_26 ?_
          refine br_goto C dX5_flightsIn_27 (tgt := 31) (by decide) ?_
          refine br_iaddJ C dX5_flightsIn_31 ?_
          refine br_istore_n C dX5_flightsIn_32 rfl (by decide) rfl (L' := [_, _, _]) rfl ?_
          refine br_iincJ C dX5_flightsIn_33 rfl (by decide) rfl (L' := [_, _, _]) rfl ?_
          refine br_goto C dX5_flightsIn_36 (tgt := 4) (by decide) ?_
          exact ih (i + 1) _ (by omega) (by show _ = br_sum _ i + (if _ then _ else _); rw [← ha]; first | rw [if_pos h20] | rw [if_neg h20])
        · refine br_if_eq0 C dX5_flightsIn_23 (tgt := 30) (by decide) ?_
          refine br_iconstJ C dX5_flightsIn_30 ?_
          refine br_iaddJ C dX5_flightsIn_31 ?_
          refine br_istore_n C dX5_flightsIn_32 rfl (by decide) rfl (L' := [_, _, _]) rfl ?_
          refine br_iincJ C dX5_flightsIn_33 rfl (by decide) rfl (L' := [_, _, _]) rfl ?_
          refine br_goto C dX5_flightsIn_36 (tgt := 4) (by decide) ?_
          exact ih (i + 1) _ (by omega) (by show _ = br_sum _ i + (if _ then _ else _); rw [← ha]; first | rw [if_pos h20] | rw [if_neg h20])
  refine br_iconstJ C dX5_flightsIn_0 ?_
  refine br_istore_n C dX5_flightsIn_1 rfl (by decide) rfl (L' := [_, _, _]) rfl ?_
  refine br_iconstJ C dX5_flightsIn_2 ?_
  refine br_istore_n C dX5_flightsIn_3 rfl (by decide) rfl (L' := [_, _, _]) rfl ?_
  exact loop r.1 0 0 (by omega) rfl

set_option maxHeartbeats 4000000 in
set_option maxRecDepth 100000 in
theorem c_X5_turnsIn {σ : br_Wd} {g : br_Gy} (hg : br_GM σ g) (hgo : br_Gok g) {r : br_Ro} (hr7 : σ.1 23 7 = br_J r.1) (hr : br_RM 26 σ r) (hro : br_Rok g r) : br_Met 1 mX5_turnsIn [br_r 23] σ (br_R (br_J (br_nT g r)) σ) := by
  have hg0 := hg
  have hgo0 := hgo
  obtain ⟨hgn, hK, hWo, hS⟩ := hg
  have hg7 := hgo.1
  have hr0 := hr
  have h5r := hro.1
  refine br_ofW (by decide) 2 rfl (fun G C => ?_)
  have loop : ∀ (n i : Nat) (a : Int), i + n = r.1 → a = br_sum (fun i => if br_isT g (r.2 i) then 1 else 0) i → G 4 [some (br_r 23), some (br_i (br_J a)), some (br_i (br_J i))] [] σ := by
    intro n
    induction n with
    | zero =>
      intro i a hin ha
      have ei : i = r.1 := by omega
      subst ei
      refine br_iload_n C dX5_turnsIn_4 rfl rfl ?_
      refine br_aload_n C dX5_turnsIn_5 rfl rfl ?_
      refine br_getI C fdX5_66 dX5_turnsIn_6 rfl rfl (by assumption) ?_
      refine br_icmp_geJ C (by omega) (by omega) dX5_turnsIn_9 (tgt := 39) (by decide) (fun c9 => ?_) (fun c9 => ?_)
      · refine br_iload_n C dX5_turnsIn_39 rfl rfl ?_
        exact br_iret C rfl dX5_turnsIn_40 ⟨by rw [ha]; rfl, rfl⟩
      · omega
    | succ n ih =>
      intro i a hin ha
      have hi : i < r.1 := by omega
      refine br_iload_n C dX5_turnsIn_4 rfl rfl ?_
      refine br_aload_n C dX5_turnsIn_5 rfl rfl ?_
      refine br_getI C fdX5_66 dX5_turnsIn_6 rfl rfl (by assumption) ?_
      refine br_icmp_geJ C (by omega) (by omega) dX5_turnsIn_9 (tgt := 39) (by decide) (fun c9 => ?_) (fun c9 => ?_)
      · omega
      · refine br_iload_n C dX5_turnsIn_12 rfl rfl ?_
        refine br_aload_n C dX5_turnsIn_13 rfl rfl ?_
        refine br_aload_n C dX5_turnsIn_14 rfl rfl ?_
        refine br_getR C fdX5_16 dX5_turnsIn_15 rfl rfl ?_
        refine br_iload_n C dX5_turnsIn_18 rfl rfl ?_
        refine br_ialdJ C rfl (by decide) (by omega) (by omega) (hr i hi) dX5_turnsIn_19 ?_
        refine br_cv1B C vcX5_110 (c_X5_isTurn hg0 hgo0 (r.2 i) (hro.2.1 i hi)) (by decide) rfl rfl (fun _ => Nat.le_of_ble_eq_true rfl) dX5_turnsIn_20 (fun h20 => ?_) (fun h20 => ?_)
        · refine br_if_eq1 C dX5_turnsIn_23 (tgt := 30) (by decide) ?_
          refine br_iconstJ C dX5_turnsIn_26 ?_
          refine br_goto C dX5_turnsIn_27 (tgt := 31) (by decide) ?_
          refine br_iaddJ C dX5_turnsIn_31 ?_
          refine br_istore_n C dX5_turnsIn_32 rfl (by decide) rfl (L' := [_, _, _]) rfl ?_
          refine br_iincJ C dX5_turnsIn_33 rfl (by decide) rfl (L' := [_, _, _]) rfl ?_
          refine br_goto C dX5_turnsIn_36 (tgt := 4) (by decide) ?_
          exact ih (i + 1) _ (by omega) (by show _ = br_sum _ i + (if _ then _ else _); rw [← ha]; first | rw [if_pos h20] | rw [if_neg h20])
        · refine br_if_eq0 C dX5_turnsIn_23 (tgt := 30) (by decide) ?_
          refine br_iconstJ C dX5_turnsIn_30 ?_
          refine br_iaddJ C dX5_turnsIn_31 ?_
          refine br_istore_n C dX5_turnsIn_32 rfl (by decide) rfl (L' := [_, _, _]) rfl ?_
          refine br_iincJ C dX5_turnsIn_33 rfl (by decide) rfl (L' := [_, _, _]) rfl ?_
          refine br_goto C dX5_turnsIn_36 (tgt := 4) (by decide) ?_
          exact ih (i + 1) _ (by omega) (by show _ = br_sum _ i + (if _ then _ else _); rw [← ha]; first | rw [if_pos h20] | rw [if_neg h20])
  refine br_iconstJ C dX5_turnsIn_0 ?_
  refine br_istore_n C dX5_turnsIn_1 rfl (by decide) rfl (L' := [_, _, _]) rfl ?_
  refine br_iconstJ C dX5_turnsIn_2 ?_
  refine br_istore_n C dX5_turnsIn_3 rfl (by decide) rfl (L' := [_, _, _]) rfl ?_
  exact loop r.1 0 0 (by omega) rfl

set_option maxHeartbeats 4000000 in
set_option maxRecDepth 100000 in
theorem c_X5_joinsIn {σ : br_Wd} {g : br_Gy} (hg : br_GM σ g) (hgo : br_Gok g) {r : br_Ro} (hr7 : σ.1 23 7 = br_J r.1) (hr : br_RM 26 σ r) (hro : br_Rok g r) : br_Met 2 mX5_joinsIn [br_r 23] σ (br_R (br_J (br_nJ g r)) σ) := by
  have hg0 := hg
  have hgo0 := hgo
  obtain ⟨hgn, hK, hWo, hS⟩ := hg
  have hg7 := hgo.1
  have hr0 := hr
  have h5r := hro.1
  refine br_ofW (by decide) 2 rfl (fun G C => ?_)
  have loop : ∀ (n i : Nat) (a : Int), i + n = r.1 → a = br_sum (fun i => if 0 < br_jw g r i then 1 else 0) i → G 4 [some (br_r 23), some (br_i (br_J a)), some (br_i (br_J i))] [] σ := by
    intro n
    induction n with
    | zero =>
      intro i a hin ha
      have ei : i = r.1 := by omega
      subst ei
      refine br_iload_n C dX5_joinsIn_4 rfl rfl ?_
      refine br_aload_n C dX5_joinsIn_5 rfl rfl ?_
      refine br_getI C fdX5_66 dX5_joinsIn_6 rfl rfl (by assumption) ?_
      refine br_icmp_geJ C (by omega) (by omega) dX5_joinsIn_9 (tgt := 42) (by decide) (fun c9 => ?_) (fun c9 => ?_)
      · refine br_iload_n C dX5_joinsIn_42 rfl rfl ?_
        exact br_iret C rfl dX5_joinsIn_43 ⟨by rw [ha]; rfl, rfl⟩
      · omega
    | succ n ih =>
      intro i a hin ha
      have hi : i < r.1 := by omega
      refine br_iload_n C dX5_joinsIn_4 rfl rfl ?_
      refine br_aload_n C dX5_joinsIn_5 rfl rfl ?_
      refine br_getI C fdX5_66 dX5_joinsIn_6 rfl rfl (by assumption) ?_
      refine br_icmp_geJ C (by omega) (by omega) dX5_joinsIn_9 (tgt := 42) (by decide) (fun c9 => ?_) (fun c9 => ?_)
      · omega
      · refine br_iload_n C dX5_joinsIn_12 rfl rfl ?_
        refine br_aload_n C dX5_joinsIn_13 rfl rfl ?_
        refine br_aload_n C dX5_joinsIn_14 rfl rfl ?_
        refine br_getR C fdX5_16 dX5_joinsIn_15 rfl rfl ?_
        refine br_aload_n C dX5_joinsIn_18 rfl rfl ?_
        refine br_getI C fdX5_66 dX5_joinsIn_19 rfl rfl (by assumption) ?_
        refine br_iload_n C dX5_joinsIn_22 rfl rfl ?_
        refine br_cv3B C vcX5_113 (c_X5_joins hg0 hgo0 (ra := 26) rfl hr0 hro i hi) (by decide) rfl rfl (fun _ => Nat.le_of_ble_eq_true rfl) dX5_joinsIn_23 (fun h23 => ?_) (fun h23 => ?_)
        · refine br_if_eq1 C dX5_joinsIn_26 (tgt := 33) (by decide) ?_
          refine br_iconstJ C dX5_joinsIn_29 ?_
          refine br_goto C dX5_joinsIn_30 (tgt := 34) (by decide) ?_
          refine br_iaddJ C dX5_joinsIn_34 ?_
          refine br_istore_n C dX5_joinsIn_35 rfl (by decide) rfl (L' := [_, _, _]) rfl ?_
          refine br_iincJ C dX5_joinsIn_36 rfl (by decide) rfl (L' := [_, _, _]) rfl ?_
          refine br_goto C dX5_joinsIn_39 (tgt := 4) (by decide) ?_
          exact ih (i + 1) _ (by omega) (by show _ = br_sum _ i + (if 0 < br_jw g r i then 1 else 0); rw [← ha]; unfold br_jw; first | (rw [if_pos h23, if_pos (by split <;> omega)]) | (rw [if_neg h23, if_neg (by omega)]))
        · refine br_if_eq0 C dX5_joinsIn_26 (tgt := 33) (by decide) ?_
          refine br_iconstJ C dX5_joinsIn_33 ?_
          refine br_iaddJ C dX5_joinsIn_34 ?_
          refine br_istore_n C dX5_joinsIn_35 rfl (by decide) rfl (L' := [_, _, _]) rfl ?_
          refine br_iincJ C dX5_joinsIn_36 rfl (by decide) rfl (L' := [_, _, _]) rfl ?_
          refine br_goto C dX5_joinsIn_39 (tgt := 4) (by decide) ?_
          exact ih (i + 1) _ (by omega) (by show _ = br_sum _ i + (if 0 < br_jw g r i then 1 else 0); rw [← ha]; unfold br_jw; first | (rw [if_pos h23, if_pos (by split <;> omega)]) | (rw [if_neg h23, if_neg (by omega)]))
  refine br_iconstJ C dX5_joinsIn_0 ?_
  refine br_istore_n C dX5_joinsIn_1 rfl (by decide) rfl (L' := [_, _, _]) rfl ?_
  refine br_iconstJ C dX5_joinsIn_2 ?_
  refine br_istore_n C dX5_joinsIn_3 rfl (by decide) rfl (L' := [_, _, _]) rfl ?_
  exact loop r.1 0 0 (by omega) rfl

set_option maxHeartbeats 4000000 in
set_option maxRecDepth 100000 in
theorem c_X5_countOf {σ : br_Wd} {A : br_A} (hm : br_MR σ A) (hA : br_Aok A) (k : Int) (hbk : -2147483648 ≤ k ∧ k < 2147483648) : br_Met 3 mX5_countOf [br_r 23, br_i (br_J k)] σ (br_R (br_J (br_vCount A k)) σ) := by
  obtain ⟨w, g, r, c, t, n, b, kp, ri, ci, ti⟩ := A
  have hm0 := hm
  have hA0 := hA
  obtain ⟨⟨hw, hg, hr, ht⟩, ⟨hr7, ht11, hcc, hnn, hbb⟩, ⟨e, he, heb, hke⟩, him⟩ := hm
  obtain ⟨⟨hwo, hgo, hro, hto⟩, ⟨hb30, hn512⟩, hio⟩ := hA
  have hw1 := hw.1
  have hg1 := hg.1
  have hK := hg.2.1
  have hWo := hg.2.2.1
  have hS := hg.2.2.2
  have hw30 := hwo.1
  have hg7 := hgo.1
  have h5r := hro.1
  have h8t := hto.1
  have hcb := fun (j : Nat) (hj : j < w.1) => (show -2147483648 ≤ w.2 j ∧ w.2 j < 2147483648 by have := hwo.2 j hj; omega)
  have hrb := fun (j : Nat) (hj : j < r.1) => (show r.2 j < 7 by have := hro.2.1 j hj; omega)
  refine br_ofW (by decide) 0 rfl (fun G C => ?_)
  refine br_iload_n C dX5_countOf_0 rfl rfl ?_
  rcases (show (k < 0 ∨ 9 < k) ∨ k = 0 ∨ k = 1 ∨ k = 2 ∨ k = 3 ∨ k = 4 ∨ k = 5 ∨ k = 6 ∨ k = 7 ∨ k = 8 ∨ k = 9 by omega) with c1 | rfl | rfl | rfl | rfl | rfl | rfl | rfl | rfl | rfl | rfl
  · refine br_tableOutJ C c1 (by omega) dX5_countOf_1 (tgt := 106) (by decide) ?_
    refine br_bipushJ C (by decide) dX5_countOf_106 ?_
    exact br_iret C rfl dX5_countOf_108 ⟨by unfold br_vCount; simp only []; (repeat rw [if_neg (by omega)]), rfl⟩
  · refine br_tableInJ C (by decide) (by decide) (by decide) dX5_countOf_1 (off := 55) rfl (tgt := 56) (by decide) ?_
    refine br_aload_n C dX5_countOf_56 rfl rfl ?_
    refine br_getI C fdX5_63 dX5_countOf_57 rfl rfl (by assumption) ?_
    exact br_iret C rfl dX5_countOf_60 ⟨congrArg (fun x => some (br_i (br_J x))) (show _ = br_vCount (w, g, r, c, t, n, b, kp, ri, ci, ti) 0 from rfl), rfl⟩
  · refine br_tableInJ C (by decide) (by decide) (by decide) dX5_countOf_1 (off := 60) rfl (tgt := 61) (by decide) ?_
    refine br_aload_n C dX5_countOf_61 rfl rfl ?_
    refine br_getI C fdX5_66 dX5_countOf_62 rfl rfl (by assumption) ?_
    exact br_iret C rfl dX5_countOf_65 ⟨congrArg (fun x => some (br_i (br_J x))) (show _ = br_vCount (w, g, r, c, t, n, b, kp, ri, ci, ti) 1 from rfl), rfl⟩
  · refine br_tableInJ C (by decide) (by decide) (by decide) dX5_countOf_1 (off := 65) rfl (tgt := 66) (by decide) ?_
    refine br_aload_n C dX5_countOf_66 rfl rfl ?_
    refine br_cv0R C vcX5_203 (c_X5_flightsIn hg hgo hr7 hr hro) (by decide) rfl rfl (fun _ => Nat.le_of_ble_eq_true rfl) dX5_countOf_67 ?_
    exact br_iret C rfl dX5_countOf_70 ⟨congrArg (fun x => some (br_i (br_J x))) (show _ = br_vCount (w, g, r, c, t, n, b, kp, ri, ci, ti) 2 from rfl), rfl⟩
  · refine br_tableInJ C (by decide) (by decide) (by decide) dX5_countOf_1 (off := 70) rfl (tgt := 71) (by decide) ?_
    refine br_aload_n C dX5_countOf_71 rfl rfl ?_
    refine br_cv0R C vcX5_206 (c_X5_turnsIn hg hgo hr7 hr hro) (by decide) rfl rfl (fun _ => Nat.le_of_ble_eq_true rfl) dX5_countOf_72 ?_
    exact br_iret C rfl dX5_countOf_75 ⟨congrArg (fun x => some (br_i (br_J x))) (show _ = br_vCount (w, g, r, c, t, n, b, kp, ri, ci, ti) 3 from rfl), rfl⟩
  · refine br_tableInJ C (by decide) (by decide) (by decide) dX5_countOf_1 (off := 75) rfl (tgt := 76) (by decide) ?_
    refine br_aload_n C dX5_countOf_76 rfl rfl ?_
    refine br_cv0R C vcX5_209 (c_X5_joinsIn hg hgo hr7 hr hro) (by decide) rfl rfl (fun _ => Nat.le_of_ble_eq_true rfl) dX5_countOf_77 ?_
    exact br_iret C rfl dX5_countOf_80 ⟨congrArg (fun x => some (br_i (br_J x))) (show _ = br_vCount (w, g, r, c, t, n, b, kp, ri, ci, ti) 4 from rfl), rfl⟩
  · refine br_tableInJ C (by decide) (by decide) (by decide) dX5_countOf_1 (off := 80) rfl (tgt := 81) (by decide) ?_
    refine br_aload_n C dX5_countOf_81 rfl rfl ?_
    refine br_getI C fdX5_69 dX5_countOf_82 rfl rfl (by assumption) ?_
    exact br_iret C rfl dX5_countOf_85 ⟨congrArg (fun x => some (br_i (br_J x))) (show _ = br_vCount (w, g, r, c, t, n, b, kp, ri, ci, ti) 5 from rfl), rfl⟩
  · refine br_tableInJ C (by decide) (by decide) (by decide) dX5_countOf_1 (off := 85) rfl (tgt := 86) (by decide) ?_
    refine br_aload_n C dX5_countOf_86 rfl rfl ?_
    refine br_getI C fdX5_72 dX5_countOf_87 rfl rfl (by assumption) ?_
    exact br_iret C rfl dX5_countOf_90 ⟨congrArg (fun x => some (br_i (br_J x))) (show _ = br_vCount (w, g, r, c, t, n, b, kp, ri, ci, ti) 6 from rfl), rfl⟩
  · refine br_tableInJ C (by decide) (by decide) (by decide) dX5_countOf_1 (off := 90) rfl (tgt := 91) (by decide) ?_
    refine br_aload_n C dX5_countOf_91 rfl rfl ?_
    refine br_getI C fdX5_44 dX5_countOf_92 rfl rfl (by assumption) ?_
    exact br_iret C rfl dX5_countOf_95 ⟨congrArg (fun x => some (br_i (br_J x))) (show _ = br_vCount (w, g, r, c, t, n, b, kp, ri, ci, ti) 7 from rfl), rfl⟩
  · refine br_tableInJ C (by decide) (by decide) (by decide) dX5_countOf_1 (off := 95) rfl (tgt := 96) (by decide) ?_
    refine br_aload_n C dX5_countOf_96 rfl rfl ?_
    refine br_getI C fdX5_75 dX5_countOf_97 rfl rfl (by assumption) ?_
    exact br_iret C rfl dX5_countOf_100 ⟨congrArg (fun x => some (br_i (br_J x))) (show _ = br_vCount (w, g, r, c, t, n, b, kp, ri, ci, ti) 8 from rfl), rfl⟩
  · refine br_tableInJ C (by decide) (by decide) (by decide) dX5_countOf_1 (off := 100) rfl (tgt := 101) (by decide) ?_
    refine br_aload_n C dX5_countOf_101 rfl rfl ?_
    refine br_getI C fdX5_164 dX5_countOf_102 rfl rfl (by assumption) ?_
    exact br_iret C rfl dX5_countOf_105 ⟨congrArg (fun x => some (br_i (br_J x))) (show _ = br_vCount (w, g, r, c, t, n, b, kp, ri, ci, ti) 9 from rfl), rfl⟩

set_option maxHeartbeats 4000000 in
set_option maxRecDepth 100000 in
theorem c_X5_count {σ : br_Wd} {A : br_A} (hm : br_MR σ A) (hA : br_Aok A) (k : Int) (hbk : -2147483648 ≤ k ∧ k < 2147483648) : br_Met 4 mX5_count [br_r 23, br_i (br_J k)] σ (br_R (br_J (br_vCount A k)) σ) := by
  refine br_ofW (by decide) 0 rfl (fun G C => ?_)
  refine br_aload_n C dX5_count_0 rfl rfl ?_
  refine br_iload_n C dX5_count_1 rfl rfl ?_
  refine br_cv1R C vcX5_212 (c_X5_countOf hm hA k hbk) (by decide) rfl rfl (fun _ => Nat.le_of_ble_eq_true rfl) dX5_count_2 ?_
  exact br_iret C rfl dX5_count_5 ⟨rfl, rfl⟩

set_option maxHeartbeats 4000000 in
set_option maxRecDepth 100000 in
theorem c_X5_gym {σ : br_Wd} {A : br_A} (hm : br_MR σ A) (hA : br_Aok A) : br_Met 3 mX5_gym [br_r 23] σ (br_QM (br_J (br_sGym A).1) (br_sGym A).2 σ) := by
  obtain ⟨w, g, r, c, t, n, b, kp, ri, ci, ti⟩ := A
  have hm0 := hm
  have hA0 := hA
  obtain ⟨⟨hw, hg, hr, ht⟩, ⟨hr7, ht11, hcc, hnn, hbb⟩, ⟨e, he, heb, hke⟩, him⟩ := hm
  obtain ⟨⟨hwo, hgo, hro, hto⟩, ⟨hb30, hn512⟩, hio⟩ := hA
  have hw1 := hw.1
  have hg1 := hg.1
  have hK := hg.2.1
  have hWo := hg.2.2.1
  have hS := hg.2.2.2
  have hw30 := hwo.1
  have hg7 := hgo.1
  have h5r := hro.1
  have h8t := hto.1
  have hcb := fun (j : Nat) (hj : j < w.1) => (show -2147483648 ≤ w.2 j ∧ w.2 j < 2147483648 by have := hwo.2 j hj; omega)
  have hrb := fun (j : Nat) (hj : j < r.1) => (show r.2 j < 7 by have := hro.2.1 j hj; omega)
  refine br_ofW (by decide) 1 rfl (fun G C => ?_)
  have loop : br_tells w → w.1 ≤ 27 → ∀ (m j : Nat) (τ : br_Wd), j + m = (w.1 + 1) / 4 → br_sm [23, 25] σ τ → (∀ k : Nat, ¬ k = 2 → τ.1 23 k = σ.1 23 k) → τ.1 23 2 = br_J (((w.1 + 1) / 4 : Nat) : Int) → (∀ i : Nat, i < j → τ.1 25 (3 * i) = br_J (br_kd (w.2 (4 * i))) ∧ τ.1 25 (3 * i + 1) = br_J (w.2 (4 * i + 1) - 48) ∧ τ.1 25 (3 * i + 2) = br_J (w.2 (4 * i + 2) - 48)) → G 47 [some (br_r 23), some (br_i (br_J j))] [] τ := by
    intro htl h27 m
    have hm3 := htl.2.1
    induction m with
    | zero =>
      intro j τ hjm hsm hfl hp2 hm2
      refine br_iload_n C dX5_gym_47 rfl rfl ?_
      refine br_aload_n C dX5_gym_48 rfl rfl ?_
      refine br_getI C fdX5_63 dX5_gym_49 rfl rfl (x := br_J (((w.1 + 1) / 4 : Nat) : Int)) hp2 ?_
      refine br_icmp_geJ C (by omega) (by omega) dX5_gym_52 (tgt := 126) (by decide) (fun c52 => ?_) (fun c52 => ?_)
      · refine br_aload_n C dX5_gym_126 rfl rfl ?_
        refine br_iconstJ C dX5_gym_127 ?_
        refine br_putI C fdX5_66 dX5_gym_128 rfl rfl rfl ?_
        refine br_aload_n C dX5_gym_131 rfl rfl ?_
        refine br_iconstJ C dX5_gym_132 ?_
        refine br_putI C fdX5_69 dX5_gym_133 rfl rfl rfl ?_
        refine br_aload_n C dX5_gym_136 rfl rfl ?_
        refine br_iconstJ C dX5_gym_137 ?_
        refine br_putI C fdX5_72 dX5_gym_138 rfl rfl rfl ?_
        refine br_aload_n C dX5_gym_141 rfl rfl ?_
        refine br_dup C dX5_gym_142 rfl ?_
        refine br_getI C fdX5_75 dX5_gym_143 rfl rfl (x := br_J n) ((hfl 4 (by decide)).trans hnn) ?_
        refine br_iconstJ C dX5_gym_146 ?_
        refine br_iaddJ C dX5_gym_147 ?_
        refine br_putI C fdX5_75 dX5_gym_148 rfl rfl rfl ?_
        refine br_aload_n C dX5_gym_151 rfl rfl ?_
        refine br_iconstJ C dX5_gym_152 ?_
        refine br_putI C fdX5_44 dX5_gym_153 rfl rfl rfl ?_
        refine br_aload_n C dX5_gym_156 rfl rfl ?_
        refine br_getI C fdX5_63 dX5_gym_157 rfl rfl (x := br_J (((w.1 + 1) / 4 : Nat) : Int)) hp2 ?_
        exact br_iret C rfl dX5_gym_160 (by
            rw [show br_sGym (w, g, r, c, t, n, b, kp, ri, ci, ti)  = ((((br_gy w).1 : Nat) : Int), ((0, w.2), br_gy w, (0, r.2), 0, (0, t.2), n + 1, b, false, ri, ci, ti)) from if_pos htl]
            refine ⟨rfl, ⟨⟨⟨rfl, fun j hj => absurd hj (Nat.not_lt_zero j)⟩, ⟨hp2, fun i hi => ?_, fun i hi => ?_, fun i hi => ?_⟩, fun j hj => absurd hj (Nat.not_lt_zero j), ⟨fun j hj => absurd hj (Nat.not_lt_zero j), fun j hj => absurd hj (Nat.not_lt_zero j), fun j hj => absurd hj (Nat.not_lt_zero j)⟩⟩, ⟨rfl, rfl, rfl, rfl, (hfl 8 (by decide)).trans hbb⟩, ⟨e, (hfl 14 (by decide)).trans he, by omega, ⟨fun q => absurd q (by decide), fun q => absurd q (by omega)⟩⟩, fun q => absurd q (by decide)⟩, ((((((hsm.mono (qs' := [23, 25]) (by decide)).up (by simp)).up (by simp)).up (by simp)).up (by simp)).up (by simp)).fm (by decide)⟩
            · exact (hm2 i (by have : i < (w.1 + 1) / 4 := hi; omega)).1
            · exact (hm2 i (by have : i < (w.1 + 1) / 4 := hi; omega)).2.1
            · exact (hm2 i (by have : i < (w.1 + 1) / 4 := hi; omega)).2.2)
      · omega
    | succ m ih =>
      intro j τ hjm hsm hfl hp2 hm2
      have hwτ : br_PM τ w := hw.keep (hfl 1 (by decide)) (hsm.1 24 (by decide))
      refine br_iload_n C dX5_gym_47 rfl rfl ?_
      refine br_aload_n C dX5_gym_48 rfl rfl ?_
      refine br_getI C fdX5_63 dX5_gym_49 rfl rfl (x := br_J (((w.1 + 1) / 4 : Nat) : Int)) hp2 ?_
      refine br_icmp_geJ C (by omega) (by omega) dX5_gym_52 (tgt := 126) (by decide) (fun c52 => ?_) (fun c52 => ?_)
      · omega
      · have hb0 := hwo.2 (4 * j) (by omega)
        have hb1 := hwo.2 (4 * j + 1) (by omega)
        have hb2 := hwo.2 (4 * j + 2) (by omega)
        refine br_aload_n C dX5_gym_55 rfl rfl ?_
        refine br_getR C fdX5_13 dX5_gym_56 rfl rfl ?_
        refine br_iconstJ C dX5_gym_59 ?_
        refine br_iload_n C dX5_gym_60 rfl rfl ?_
        refine br_imulJ C dX5_gym_61 ?_
        refine br_aload_n C dX5_gym_62 rfl rfl ?_
        refine br_getR C fdX5_7 dX5_gym_63 rfl rfl ?_
        refine br_iconstJ C dX5_gym_66 ?_
        refine br_iload_n C dX5_gym_67 rfl rfl ?_
        refine br_imulJ C dX5_gym_68 ?_
        refine br_ialdJ C rfl (by decide) (by omega) (by omega) (y := w.2 (4 * j)) (by rw [show (4 * ((j : Nat) : Int)).toNat = 4 * j by omega]; exact hwτ.2 (4 * j) (by omega)) dX5_gym_69 ?_
        refine br_cs1R C scX5_47 (c_X5_kindBy (w.2 (4 * j)) (by omega)) (by decide) (fun _ => Nat.le_of_ble_eq_true rfl) dX5_gym_70 ?_
        refine br_iastJ C rfl (by decide) (by omega) (by omega) rfl dX5_gym_73 ?_
        refine br_aload_n C dX5_gym_74 rfl rfl ?_
        refine br_getR C fdX5_13 dX5_gym_75 rfl rfl ?_
        refine br_iconstJ C dX5_gym_78 ?_
        refine br_iload_n C dX5_gym_79 rfl rfl ?_
        refine br_imulJ C dX5_gym_80 ?_
        refine br_iconstJ C dX5_gym_81 ?_
        refine br_iaddJ C dX5_gym_82 ?_
        refine br_aload_n C dX5_gym_83 rfl rfl ?_
        refine br_getR C fdX5_7 dX5_gym_84 rfl rfl ?_
        refine br_iconstJ C dX5_gym_87 ?_
        refine br_iload_n C dX5_gym_88 rfl rfl ?_
        refine br_imulJ C dX5_gym_89 ?_
        refine br_iconstJ C dX5_gym_90 ?_
        refine br_iaddJ C dX5_gym_91 ?_
        refine br_ialdJ C rfl (by decide) (by omega) (by omega) (y := w.2 (4 * j + 1)) (by rw [show (4 * ((j : Nat) : Int) + 1).toNat = 4 * j + 1 by omega]; exact hwτ.2 (4 * j + 1) (by omega)) dX5_gym_92 ?_
        refine br_bipushJ C (by decide) dX5_gym_93 ?_
        refine br_isubJ C dX5_gym_95 ?_
        refine br_iastJ C rfl (by decide) (by omega) (by omega) rfl dX5_gym_96 ?_
        refine br_aload_n C dX5_gym_97 rfl rfl ?_
        refine br_getR C fdX5_13 dX5_gym_98 rfl rfl ?_
        refine br_iconstJ C dX5_gym_101 ?_
        refine br_iload_n C dX5_gym_102 rfl rfl ?_
        refine br_imulJ C dX5_gym_103 ?_
        refine br_iconstJ C dX5_gym_104 ?_
        refine br_iaddJ C dX5_gym_105 ?_
        refine br_aload_n C dX5_gym_106 rfl rfl ?_
        refine br_getR C fdX5_7 dX5_gym_107 rfl rfl ?_
        refine br_iconstJ C dX5_gym_110 ?_
        refine br_iload_n C dX5_gym_111 rfl rfl ?_
        refine br_imulJ C dX5_gym_112 ?_
        refine br_iconstJ C dX5_gym_113 ?_
        refine br_iaddJ C dX5_gym_114 ?_
        refine br_ialdJ C rfl (by decide) (by omega) (by omega) (y := w.2 (4 * j + 2)) (by rw [show (4 * ((j : Nat) : Int) + 2).toNat = 4 * j + 2 by omega]; exact hwτ.2 (4 * j + 2) (by omega)) dX5_gym_115 ?_
        refine br_bipushJ C (by decide) dX5_gym_116 ?_
        refine br_isubJ C dX5_gym_118 ?_
        refine br_iastJ C rfl (by decide) (by omega) (by omega) rfl dX5_gym_119 ?_
        refine br_iincJ C dX5_gym_120 rfl (by decide) rfl (L' := [_, _]) rfl ?_
        refine br_goto C dX5_gym_123 (tgt := 47) (by decide) ?_
        rw [show (3 * ((j : Nat) : Int)).toNat = 3 * j by omega, show (3 * ((j : Nat) : Int) + 1).toNat = 3 * j + 1 by omega, show (3 * ((j : Nat) : Int) + 2).toNat = 3 * j + 2 by omega]
        refine ih (j + 1) _ (by omega) (((hsm.up (by simp)).up (by simp)).up (by simp)) hfl hp2 (fun i hi => ?_)
        by_cases q : i = j
        · subst q
          exact ⟨by simp [br_up], by simp [br_up], by simp [br_up]⟩
        · have h9 := hm2 i (by omega)
          refine ⟨?_, ?_, ?_⟩
          · simp only [br_up]
            rw [if_pos True.intro, if_neg (by omega), if_pos True.intro, if_neg (by omega), if_pos True.intro, if_neg (by omega)]; exact h9.1
          · simp only [br_up]
            rw [if_pos True.intro, if_neg (by omega), if_pos True.intro, if_neg (by omega), if_pos True.intro, if_neg (by omega)]; exact h9.2.1
          · simp only [br_up]
            rw [if_pos True.intro, if_neg (by omega), if_pos True.intro, if_neg (by omega), if_pos True.intro, if_neg (by omega)]; exact h9.2.2
  have hfle := br_fault_le w
  refine br_aload_n C dX5_gym_0 rfl rfl ?_
  refine br_getI C fdX5_44 dX5_gym_1 rfl rfl (by assumption) ?_
  refine br_bipushJ C (by decide) dX5_gym_4 ?_
  refine br_icmp_ltJ C (by omega) (by omega) dX5_gym_6 (tgt := 30) (by decide) (fun c6 => ?_) (fun c6 => ?_)
  · have hnt : ¬ br_tells w := fun q => by have h1 := q.1; have h2 := q.2.1; have h3 := q.2.2; omega
    refine br_bipushJ C (by decide) dX5_gym_30 ?_
    exact br_iret C rfl dX5_gym_32 (by
        rw [show br_sGym (w, g, r, c, t, n, b, kp, ri, ci, ti)  = (-103, (w, g, r, c, t, n, b, kp, ri, ci, ti)) from if_neg hnt]
        exact ⟨rfl, hm0, br_fm.rfl⟩)
  · refine br_aload_n C dX5_gym_9 rfl rfl ?_
    refine br_getI C fdX5_44 dX5_gym_10 rfl rfl (by assumption) ?_
    refine br_iconstJ C dX5_gym_13 ?_
    refine br_iremJ C (by omega) (by omega) dX5_gym_14 ?_
    refine br_iconstJ C dX5_gym_15 ?_
    refine br_icmp_neJ C (by omega) (by omega) dX5_gym_16 (tgt := 30) (by decide) (fun c16 => ?_) (fun c16 => ?_)
    · have hnt : ¬ br_tells w := fun q => by have h1 := q.1; have h2 := q.2.1; have h3 := q.2.2; omega
      refine br_bipushJ C (by decide) dX5_gym_30 ?_
      exact br_iret C rfl dX5_gym_32 (by
          rw [show br_sGym (w, g, r, c, t, n, b, kp, ri, ci, ti)  = (-103, (w, g, r, c, t, n, b, kp, ri, ci, ti)) from if_neg hnt]
          exact ⟨rfl, hm0, br_fm.rfl⟩)
    · refine br_aload_n C dX5_gym_19 rfl rfl ?_
      refine br_cv0R C vcX5_59 (c_X5_faultOf hw hw30 hcb) (by decide) rfl rfl (fun _ => Nat.le_of_ble_eq_true rfl) dX5_gym_20 ?_
      refine br_aload_n C dX5_gym_23 rfl rfl ?_
      refine br_getI C fdX5_44 dX5_gym_24 rfl rfl (by assumption) ?_
      refine br_icmp_geJ C (by omega) (by omega) dX5_gym_27 (tgt := 33) (by decide) (fun c27 => ?_) (fun c27 => ?_)
      · have htl : br_tells w := ⟨by omega, by omega, by omega⟩
        have h27 := br_tells_27 htl
        refine br_aload_n C dX5_gym_33 rfl rfl ?_
        refine br_aload_n C dX5_gym_34 rfl rfl ?_
        refine br_getI C fdX5_44 dX5_gym_35 rfl rfl (by assumption) ?_
        refine br_iconstJ C dX5_gym_38 ?_
        refine br_iaddJ C dX5_gym_39 ?_
        refine br_iconstJ C dX5_gym_40 ?_
        refine br_idivJ C (by omega) (by omega) dX5_gym_41 ?_
        refine br_putI C fdX5_63 dX5_gym_42 rfl rfl rfl ?_
        refine br_iconstJ C dX5_gym_45 ?_
        refine br_istore_n C dX5_gym_46 rfl (by decide) rfl (L' := [_, _]) rfl ?_
        rw [show ((w.1 : Int) + 1) / 4 = (((w.1 + 1) / 4 : Nat) : Int) by omega]
        exact loop htl h27 ((w.1 + 1) / 4) 0 _ (by omega) (br_sm.rfl.up (by simp)) (fun k hk => by simp [br_up, hk]) rfl (fun i hi => absurd hi (by omega))
      · have hnt : ¬ br_tells w := fun q => by have h1 := q.1; have h2 := q.2.1; have h3 := q.2.2; omega
        refine br_bipushJ C (by decide) dX5_gym_30 ?_
        exact br_iret C rfl dX5_gym_32 (by
            rw [show br_sGym (w, g, r, c, t, n, b, kp, ri, ci, ti)  = (-103, (w, g, r, c, t, n, b, kp, ri, ci, ti)) from if_neg hnt]
            exact ⟨rfl, hm0, br_fm.rfl⟩)
