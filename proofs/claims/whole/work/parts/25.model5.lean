set_option maxHeartbeats 4000000 in
set_option maxRecDepth 100000 in
theorem c_X5_bestOf {σ : br_Wd} {g : br_Gy} (hg : br_GM σ g) (hgo : br_Gok g) (hn1 : 0 < g.1) (m : Nat) (hm : 1 ≤ m ∧ m ≤ 3) (k : Int) (hbk : -2147483648 ≤ k ∧ k < 2147483648) (hk : (k = 0 ∨ k = 1) ∨ (10 ≤ k ∧ k ≤ 12)) : br_Met 5 mX5_bestOf [br_r 23, br_i (br_J m), br_i (br_J k)] σ (fun v τ => v = some (br_i (br_J (br_vBest g m k))) ∧ br_sm [27, 28] σ τ) := by
  have hg7 := hgo.1
  have hp7 := br_pow7 hg7 (show m ≤ 3 by omega)
  refine br_ofW (by decide) 3 rfl (fun G C => ?_)
  have loop : ∀ (q c : Nat) (τ : br_Wd) (a : Int), c + q = g.1 ^ m → br_sm [27, 28] σ τ → (-1 ≤ a ∧ a ≤ 25500000) → (match br_bs g m c with
      | none => a = -1
      | some c2 => a = br_mu g (br_rw g.1 m c2) ∧ br_RM 28 τ (br_rw g.1 m c2)) → G 30 [some (br_r 23), some (br_i (br_J m)), some (br_i (br_J k)), some (br_i (br_J ((g.1 ^ m : Nat) : Int))), some (br_i (br_J a)), some (br_i (br_J c))] [] τ := by
    intro q
    induction q with
    | zero =>
      intro c τ a hcq hsm hab hbest
      refine br_iload C dX5_bestOf_30 rfl ?_
      refine br_iload_n C dX5_bestOf_32 rfl rfl ?_
      refine br_icmp_geJ C (by omega) (by omega) dX5_bestOf_33 (tgt := 88) (by decide) (fun c33 => ?_) (fun c33 => ?_)
      · have hce : c = g.1 ^ m := by omega
        refine br_iload C dX5_bestOf_88 rfl ?_
        refine br_iconstJ C dX5_bestOf_90 ?_
        refine br_icmp_neJ C (by omega) (by omega) dX5_bestOf_91 (tgt := 96) (by decide) (fun c91 => ?_) (fun c91 => ?_)
        · obtain ⟨c2, hb⟩ : ∃ c2, br_bs g m c = some c2 := by
            cases hb : br_bs g m c with
            | none => rw [hb] at hbest; have hb1 : a = -1 := hbest; exact absurd hb1 c91
            | some c2 => exact ⟨c2, rfl⟩
          rw [hb] at hbest
          have hb28 : br_RM 28 τ (br_rw g.1 m c2) := hbest.2
          have hok2 := br_Rok_rw hn1 (show m ≤ 5 by omega) (br_bs_dst g m c c2 hb).1
          have hgτ : br_GM τ g := hg.keep (congrFun (hsm.1 23 (by decide)) 2) (hsm.1 25 (by decide))
          have hbv : br_vBest g m k = (if k = 0 ∨ k = 1 then br_lo (br_mh g (br_rw g.1 m c2)) 100 k else if k - 10 < m then (br_dg g.1 m c2 (k - 10).toNat : Nat) else -1) := by
            unfold br_vBest
            simp only [Int.toNat_natCast]
            rw [← hce, hb]
          refine br_iload_n C dX5_bestOf_96 rfl rfl ?_
          refine br_iconstJ C dX5_bestOf_97 ?_
          refine br_icmp_geJ C (by omega) (by omega) dX5_bestOf_98 (tgt := 114) (by decide) (fun c98 => ?_) (fun c98 => ?_)
          · refine br_iload_n C dX5_bestOf_114 rfl rfl ?_
            refine br_bipushJ C (by decide) dX5_bestOf_115 ?_
            refine br_isubJ C dX5_bestOf_117 ?_
            refine br_iload_n C dX5_bestOf_118 rfl rfl ?_
            refine br_icmp_geJ C (by omega) (by omega) dX5_bestOf_119 (tgt := 134) (by decide) (fun c119 => ?_) (fun c119 => ?_)
            · refine br_iconstJ C dX5_bestOf_134 ?_
              exact br_iret C rfl dX5_bestOf_135 ⟨congrArg (fun x => some (br_i (br_J x))) (show _ = br_vBest g m k from by
                  rw [hbv]
                  first
                  | (rw [if_pos (by omega)]; done)
                  | (rw [if_neg (by omega), if_pos (by omega)]; done)
                  | (rw [if_neg (by omega), if_neg (by omega)]; done)), hsm⟩
            · refine br_aload_n C dX5_bestOf_122 rfl rfl ?_
              refine br_getR C fdX5_22 dX5_bestOf_123 rfl rfl ?_
              refine br_iload_n C dX5_bestOf_126 rfl rfl ?_
              refine br_bipushJ C (by decide) dX5_bestOf_127 ?_
              refine br_isubJ C dX5_bestOf_129 ?_
              refine br_ialdJ C rfl (by decide) (by omega) (by omega) (y := (br_dg g.1 m c2 (k - 10).toNat : Nat)) (hb28 (k - 10).toNat (by show (k - 10).toNat < m; omega)) dX5_bestOf_130 ?_
              refine br_goto C dX5_bestOf_131 (tgt := 135) (by decide) ?_
              exact br_iret C rfl dX5_bestOf_135 ⟨congrArg (fun x => some (br_i (br_J x))) (show _ = br_vBest g m k from by
                  rw [hbv]
                  first
                  | (rw [if_pos (by omega)]; done)
                  | (rw [if_neg (by omega), if_pos (by omega)]; done)
                  | (rw [if_neg (by omega), if_neg (by omega)]; done)), hsm⟩
          · refine br_aload_n C dX5_bestOf_101 rfl rfl ?_
            refine br_aload_n C dX5_bestOf_102 rfl rfl ?_
            refine br_getR C fdX5_22 dX5_bestOf_103 rfl rfl ?_
            refine br_iload_n C dX5_bestOf_106 rfl rfl ?_
            refine br_iload_n C dX5_bestOf_107 rfl rfl ?_
            refine br_cv3R C vcX5_138 (c_X5_meanOf hgτ hgo (ra := 28) rfl (r := br_rw g.1 m c2) hb28 hok2 k hbk) (by decide) rfl rfl (fun _ => Nat.le_of_ble_eq_true rfl) dX5_bestOf_108 ?_
            refine br_goto C dX5_bestOf_111 (tgt := 135) (by decide) ?_
            exact br_iret C rfl dX5_bestOf_135 ⟨congrArg (fun x => some (br_i (br_J x))) (show _ = br_vBest g m k from by
                rw [hbv]
                first
                | (rw [if_pos (by omega)]; done)
                | (rw [if_neg (by omega), if_pos (by omega)]; done)
                | (rw [if_neg (by omega), if_neg (by omega)]; done)), hsm⟩
        · refine br_iconstJ C dX5_bestOf_94 ?_
          exact br_iret C rfl dX5_bestOf_95 ⟨congrArg (fun x => some (br_i (br_J x))) (show (-1 : Int) = br_vBest g m k from by
              cases hb : br_bs g m c with
              | none => unfold br_vBest; simp only [Int.toNat_natCast]; rw [← hce, hb]
              | some c2 => rw [hb] at hbest; have := hbest.1; have hok2 := br_Rok_rw hn1 (show m ≤ 5 by omega) (br_bs_dst g m c c2 hb).1; have := br_mu_bnd hgo hok2; exfalso; omega), hsm⟩
      · omega
    | succ q ih =>
      intro c τ a hcq hsm hab hbest
      have hgτ : br_GM τ g := hg.keep (congrFun (hsm.1 23 (by decide)) 2) (hsm.1 25 (by decide))
      refine br_iload C dX5_bestOf_30 rfl ?_
      refine br_iload_n C dX5_bestOf_32 rfl rfl ?_
      refine br_icmp_geJ C (by omega) (by omega) dX5_bestOf_33 (tgt := 88) (by decide) (fun c33 => ?_) (fun c33 => ?_)
      · omega
      · refine br_aload_n C dX5_bestOf_36 rfl rfl ?_
        refine br_iload C dX5_bestOf_37 rfl ?_
        refine br_iload_n C dX5_bestOf_39 rfl rfl ?_
        refine br_cv2 C vcX5_151 (c_X5_layRow hgτ.1 hn1 hg7 c m hm (by omega)) (by decide) rfl rfl (fun _ => Nat.le_of_ble_eq_true rfl) dX5_bestOf_40 (fun v40 τ40 hv => ?_)
        obtain ⟨rfl, hrw, hs1⟩ := hv
        have hsm1 := hsm.trans (hs1.mono (qs' := [27, 28]) (by decide))
        refine br_if_eqJ C (by omega) dX5_bestOf_43 (tgt := 82) (by decide) (fun c43 => ?_) (fun c43 => ?_)
        · have hd : ¬ br_dst g.1 m c := fun q => by rw [if_pos q] at c43; omega
          refine br_iincJ C dX5_bestOf_82 rfl (by decide) rfl (L' := [_, _, _, _, _, _]) rfl ?_
          refine br_goto C dX5_bestOf_85 (tgt := 30) (by decide) ?_
          refine ih (c + 1) τ40 _ (by omega) hsm1 hab ?_
          unfold br_bs
          rw [if_neg hd]
          cases hb : br_bs g m c with
          | none => rw [hb] at hbest; exact hbest
          | some c2 => rw [hb] at hbest; exact ⟨hbest.1, hbest.2.keep (hs1.1 28 (by decide))⟩
        · have hd : br_dst g.1 m c := by
            by_cases q : br_dst g.1 m c
            · exact q
            · rw [if_neg q] at c43; omega
          have hok := br_Rok_rw hn1 (show m ≤ 5 by omega) hd
          have hgτ1 : br_GM τ40 g := hg.keep (congrFun (hsm1.1 23 (by decide)) 2) (hsm1.1 25 (by decide))
          have hmb := br_mu_bnd hgo hok
          refine br_aload_n C dX5_bestOf_46 rfl rfl ?_
          refine br_aload_n C dX5_bestOf_47 rfl rfl ?_
          refine br_getR C fdX5_19 dX5_bestOf_48 rfl rfl ?_
          refine br_iload_n C dX5_bestOf_51 rfl rfl ?_
          refine br_cv2R C vcX5_128 (c_X5_meanUp hgτ1 hgo (ra := 27) rfl (r := br_rw g.1 m c) hrw hok) (by decide) rfl rfl (fun _ => Nat.le_of_ble_eq_true rfl) dX5_bestOf_52 ?_
          refine br_iload C dX5_bestOf_55 rfl ?_
          refine br_icmp_leJ C (by omega) (by omega) dX5_bestOf_57 (tgt := 82) (by decide) (fun c57 => ?_) (fun c57 => ?_)
          · refine br_iincJ C dX5_bestOf_82 rfl (by decide) rfl (L' := [_, _, _, _, _, _]) rfl ?_
            refine br_goto C dX5_bestOf_85 (tgt := 30) (by decide) ?_
            refine ih (c + 1) τ40 _ (by omega) hsm1 hab ?_
            unfold br_bs
            rw [if_pos hd]
            cases hb : br_bs g m c with
            | none => rw [hb] at hbest; have hb1 : a = -1 := hbest; omega
            | some c2 =>
              rw [hb] at hbest
              have hb1 : a = br_mu g (br_rw g.1 m c2) ∧ br_RM 28 τ (br_rw g.1 m c2) := hbest
              have hlt := br_mu_lt (g := g) (r := br_rw g.1 m c2) (r' := br_rw g.1 m c) rfl (by show m ≤ 5; omega)
              simp only
              rw [if_neg (fun x => by have := hlt.mpr x; omega)]
              exact ⟨hb1.1, hb1.2.keep (hs1.1 28 (by decide))⟩
          · refine br_aload_n C dX5_bestOf_60 rfl rfl ?_
            refine br_aload_n C dX5_bestOf_61 rfl rfl ?_
            refine br_getR C fdX5_19 dX5_bestOf_62 rfl rfl ?_
            refine br_iload_n C dX5_bestOf_65 rfl rfl ?_
            refine br_cv2R C vcX5_128 (c_X5_meanUp hgτ1 hgo (ra := 27) rfl (r := br_rw g.1 m c) hrw hok) (by decide) rfl rfl (fun _ => Nat.le_of_ble_eq_true rfl) dX5_bestOf_66 ?_
            refine br_istore C dX5_bestOf_69 (by decide) rfl (L' := [_, _, _, _, _, _]) rfl ?_
            refine br_aload_n C dX5_bestOf_71 rfl rfl ?_
            refine br_getR C fdX5_19 dX5_bestOf_72 rfl rfl ?_
            refine br_aload_n C dX5_bestOf_75 rfl rfl ?_
            refine br_getR C fdX5_22 dX5_bestOf_76 rfl rfl ?_
            refine br_cs2 C scX5_154 (c_X5_copy (a := 27) (b := 28) (n := 5) rfl rfl (by omega) (by decide)) (by decide) (fun _ => Nat.le_of_ble_eq_true rfl) dX5_bestOf_79 (fun v79 τ79 hv => ?_)
            obtain ⟨rfl, hcp, hs2⟩ := hv
            have hsm2 := hsm1.trans (hs2.mono (qs' := [27, 28]) (by decide))
            refine br_iincJ C dX5_bestOf_82 rfl (by decide) rfl (L' := [_, _, _, _, _, _]) rfl ?_
            refine br_goto C dX5_bestOf_85 (tgt := 30) (by decide) ?_
            have hrw2 : br_RM 28 τ79 (br_rw g.1 m c) := br_RM.copy (a := 27) hrw (by show m ≤ 5; omega) hcp
            refine ih (c + 1) τ79 _ (by omega) hsm2 (by omega) ?_
            unfold br_bs
            rw [if_pos hd]
            cases hb : br_bs g m c with
            | none => exact ⟨rfl, hrw2⟩
            | some c2 =>
              rw [hb] at hbest
              have hb1 : a = br_mu g (br_rw g.1 m c2) ∧ br_RM 28 τ (br_rw g.1 m c2) := hbest
              have hlt := br_mu_lt (g := g) (r := br_rw g.1 m c2) (r' := br_rw g.1 m c) rfl (by show m ≤ 5; omega)
              simp only
              rw [if_pos (hlt.mp (by omega))]
              exact ⟨rfl, hrw2⟩
  have pw : ∀ (q i : Nat) (a : Int) (x : Option br_V), i + q = m → a = ((g.1 ^ i : Nat) : Int) → G 5 [some (br_r 23), some (br_i (br_J m)), some (br_i (br_J k)), some (br_i (br_J a)), some (br_i (br_J i)), x] [] σ := by
    intro q
    induction q with
    | zero =>
      intro i a x hiq ha
      rw [show i = m by omega] at ha
      subst ha
      refine br_iload C dX5_bestOf_5 rfl ?_
      refine br_iload_n C dX5_bestOf_7 rfl rfl ?_
      refine br_icmp_geJ C (by omega) (by omega) dX5_bestOf_8 (tgt := 24) (by decide) (fun c8 => ?_) (fun c8 => ?_)
      · refine br_iconstJ C dX5_bestOf_24 ?_
        refine br_istore C dX5_bestOf_25 (by decide) rfl (L' := [_, _, _, _, _, _]) rfl ?_
        refine br_iconstJ C dX5_bestOf_27 ?_
        refine br_istore C dX5_bestOf_28 (by decide) rfl (L' := [_, _, _, _, _, _]) rfl ?_
        exact loop (g.1 ^ m) 0 σ (-1) (by omega) br_sm.rfl (by omega) rfl
      · omega
    | succ q ih =>
      intro i a x hiq ha
      refine br_iload C dX5_bestOf_5 rfl ?_
      refine br_iload_n C dX5_bestOf_7 rfl rfl ?_
      refine br_icmp_geJ C (by omega) (by omega) dX5_bestOf_8 (tgt := 24) (by decide) (fun c8 => ?_) (fun c8 => ?_)
      · omega
      · refine br_iload_n C dX5_bestOf_11 rfl rfl ?_
        refine br_aload_n C dX5_bestOf_12 rfl rfl ?_
        refine br_getI C fdX5_63 dX5_bestOf_13 rfl rfl (x := br_J g.1) hg.1 ?_
        refine br_imulJ C dX5_bestOf_16 ?_
        refine br_istore_n C dX5_bestOf_17 rfl (by decide) rfl (L' := [_, _, _, _, _, _]) rfl ?_
        refine br_iincJ C dX5_bestOf_18 rfl (by decide) rfl (L' := [_, _, _, _, _, _]) rfl ?_
        refine br_goto C dX5_bestOf_21 (tgt := 5) (by decide) ?_
        exact ih (i + 1) _ _ (by omega) (by rw [ha, Nat.pow_succ, Int.natCast_mul])
  refine br_iconstJ C dX5_bestOf_0 ?_
  refine br_istore_n C dX5_bestOf_1 rfl (by decide) rfl (L' := [_, _, _, _, _, _]) rfl ?_
  refine br_iconstJ C dX5_bestOf_2 ?_
  refine br_istore C dX5_bestOf_3 (by decide) rfl (L' := [_, _, _, _, _, _]) rfl ?_
  exact pw m 0 1 _ (by omega) rfl

set_option maxHeartbeats 4000000 in
set_option maxRecDepth 100000 in
theorem c_X5_best {σ : br_Wd} {A : br_A} (hm : br_MR σ A) (hA : br_Aok A) (m : Int) (hbm : -2147483648 ≤ m ∧ m < 2147483648) (k : Int) (hbk : -2147483648 ≤ k ∧ k < 2147483648) : br_Met 6 mX5_best [br_r 23, br_i (br_J m), br_i (br_J k)] σ (br_QM (br_J (br_sBest A m k).1) (br_sBest A m k).2 σ) := by
  obtain ⟨w, g, r, c, t, n, b, kp, ri, ci, ti⟩ := A
  have hm0 := hm
  have hA0 := hA
  obtain ⟨⟨hw, hg, hr, ht⟩, ⟨hr7, ht11, hcc, hnn, hbb⟩, ⟨e, he, heb, hke⟩, him⟩ := hm
  obtain ⟨⟨hwo, hgo, hro, hto⟩, ⟨hb30, hn512⟩, hio⟩ := hA
  have hw1 := hw.1
  have hg1 := hg.1
  have hK := hg.2.1
  have hWo := hg.2.2.1
  have hS := hg.2.2.2
  have hw30 := hwo.1
  have hg7 := hgo.1
  have h5r := hro.1
  have h8t := hto.1
  have hcb := fun (j : Nat) (hj : j < w.1) => (show -2147483648 ≤ w.2 j ∧ w.2 j < 2147483648 by have := hwo.2 j hj; omega)
  have hrb := fun (j : Nat) (hj : j < r.1) => (show r.2 j < 7 by have := hro.2.1 j hj; omega)
  refine br_ofW (by decide) 0 rfl (fun G C => ?_)
  refine br_iload_n C dX5_best_0 rfl rfl ?_
  refine br_i2lK C (by omega) dX5_best_1 ?_
  refine br_lconst C dX5_best_2 (v := br_K 1) (by decide) ?_
  refine br_ldc2K C klX5_158 (z := 3) (by decide) dX5_best_3 ?_
  refine br_cs3B C scX5_40 (c_X5_in m 1 3 (by omega) (by omega) (by omega)) (by decide) (fun _ => Nat.le_of_ble_eq_true rfl) dX5_best_6 (fun h6 => ?_) (fun h6 => ?_)
  · refine br_if_eq1 C dX5_best_9 (tgt := 36) (by decide) ?_
    refine br_iload_n C dX5_best_12 rfl rfl ?_
    refine br_i2lK C (by omega) dX5_best_13 ?_
    refine br_lconst C dX5_best_14 (v := br_K 0) (by decide) ?_
    refine br_lconst C dX5_best_15 (v := br_K 1) (by decide) ?_
    refine br_cs3B C scX5_40 (c_X5_in k 0 1 (by omega) (by omega) (by omega)) (by decide) (fun _ => Nat.le_of_ble_eq_true rfl) dX5_best_16 (fun h16 => ?_) (fun h16 => ?_)
    · refine br_if_ne1 C dX5_best_19 (tgt := 39) (by decide) ?_
      refine br_aload_n C dX5_best_39 rfl rfl ?_
      refine br_cv0B C vcX5_117 (c_X5_lacks hg1 hg7) (by decide) rfl rfl (fun _ => Nat.le_of_ble_eq_true rfl) dX5_best_40 (fun h40 => ?_) (fun h40 => ?_)
      · refine br_if_ne1 C dX5_best_43 (tgt := 55) (by decide) ?_
        refine br_bipushJ C (by decide) dX5_best_55 ?_
        exact br_iret C rfl dX5_best_57 (by
            rw [show br_sBest (w, g, r, c, t, n, b, kp, ri, ci, ti) m k = (-103, (w, g, r, c, t, n, b, kp, ri, ci, ti)) from (if_neg (by omega)).trans (if_pos (by omega))]
            exact ⟨rfl, hm0, br_fm.rfl⟩)
      · refine br_if_ne0 C dX5_best_43 (tgt := 55) (by decide) ?_
        refine br_aload_n C dX5_best_46 rfl rfl ?_
        refine br_getI C fdX5_164 dX5_best_47 rfl rfl (by assumption) ?_
        refine br_bipushJ C (by decide) dX5_best_50 ?_
        refine br_icmp_neJ C (by omega) (by omega) dX5_best_52 (tgt := 58) (by decide) (fun c52 => ?_) (fun c52 => ?_)
        · refine br_aload_n C dX5_best_58 rfl rfl ?_
          refine br_dup C dX5_best_59 rfl ?_
          refine br_getI C fdX5_164 dX5_best_60 rfl rfl (x := br_J b) hbb ?_
          refine br_iconstJ C dX5_best_63 ?_
          refine br_iaddJ C dX5_best_64 ?_
          refine br_putI C fdX5_164 dX5_best_65 rfl rfl rfl ?_
          refine br_aload_n C dX5_best_68 rfl rfl ?_
          refine br_iload_n C dX5_best_69 rfl rfl ?_
          refine br_iload_n C dX5_best_70 rfl rfl ?_
          have em : ((m.toNat : Nat) : Int) = m := by omega
          have hbo := c_X5_bestOf (σ := br_up σ 23 8 (br_J (b + 1))) (hg.keep rfl rfl) hgo (by omega) m.toNat (by omega) k hbk (by omega)
          rw [em] at hbo
          refine br_cv2 C vcX5_167 (hbo) (by decide) rfl rfl (fun _ => Nat.le_of_ble_eq_true rfl) dX5_best_71 (fun v71 τ71 hv => ?_)
          obtain ⟨rfl, hsm⟩ := hv
          exact br_iret C rfl dX5_best_74 (by
              rw [show br_sBest (w, g, r, c, t, n, b, kp, ri, ci, ti) m k = (br_vBest g m k, (w, g, r, c, t, n, b + 1, kp, ri, ci, ti)) from (if_neg (by omega)).trans (if_neg (by omega))]
              exact ⟨rfl, ⟨⟨hw.keep (congrFun (hsm.1 23 (by decide)) 1) (hsm.1 24 (by decide)), hg.keep (congrFun (hsm.1 23 (by decide)) 2) (hsm.1 25 (by decide)), hr.keep (hsm.1 26 (by decide)), ht.keep (hsm.1 29 (by decide))⟩, ⟨(congrFun (hsm.1 23 (by decide)) 7).trans hr7, (congrFun (hsm.1 23 (by decide)) 11).trans ht11, (congrFun (hsm.1 23 (by decide)) 3).trans hcc, (congrFun (hsm.1 23 (by decide)) 4).trans hnn, (congrFun (hsm.1 23 (by decide)) 8)⟩, ⟨e, (congrFun (hsm.1 23 (by decide)) 14).trans he, heb, hke⟩, fun h => ⟨⟨(him h).1.1.keep (hsm.1 30 (by decide)), (him h).1.2.keep (hsm.1 31 (by decide))⟩, (congrFun (hsm.1 23 (by decide)) 15).trans (him h).2.1, (congrFun (hsm.1 23 (by decide)) 16).trans (him h).2.2.1, (congrFun (hsm.1 23 (by decide)) 17).trans (him h).2.2.2⟩⟩, (((br_sm.rfl (qs := [23])).up (by simp)).fm (by decide)).trans (hsm.fm (by decide))⟩)
        · refine br_bipushJ C (by decide) dX5_best_55 ?_
          exact br_iret C rfl dX5_best_57 (by
              rw [show br_sBest (w, g, r, c, t, n, b, kp, ri, ci, ti) m k = (-103, (w, g, r, c, t, n, b, kp, ri, ci, ti)) from (if_neg (by omega)).trans (if_pos (by omega))]
              exact ⟨rfl, hm0, br_fm.rfl⟩)
    · refine br_if_ne0 C dX5_best_19 (tgt := 39) (by decide) ?_
      refine br_iload_n C dX5_best_22 rfl rfl ?_
      refine br_i2lK C (by omega) dX5_best_23 ?_
      refine br_ldc2K C klX5_160 (z := 10) (by decide) dX5_best_24 ?_
      refine br_ldc2K C klX5_162 (z := 12) (by decide) dX5_best_27 ?_
      refine br_cs3B C scX5_40 (c_X5_in k 10 12 (by omega) (by omega) (by omega)) (by decide) (fun _ => Nat.le_of_ble_eq_true rfl) dX5_best_30 (fun h30 => ?_) (fun h30 => ?_)
      · refine br_if_ne1 C dX5_best_33 (tgt := 39) (by decide) ?_
        refine br_aload_n C dX5_best_39 rfl rfl ?_
        refine br_cv0B C vcX5_117 (c_X5_lacks hg1 hg7) (by decide) rfl rfl (fun _ => Nat.le_of_ble_eq_true rfl) dX5_best_40 (fun h40 => ?_) (fun h40 => ?_)
        · refine br_if_ne1 C dX5_best_43 (tgt := 55) (by decide) ?_
          refine br_bipushJ C (by decide) dX5_best_55 ?_
          exact br_iret C rfl dX5_best_57 (by
              rw [show br_sBest (w, g, r, c, t, n, b, kp, ri, ci, ti) m k = (-103, (w, g, r, c, t, n, b, kp, ri, ci, ti)) from (if_neg (by omega)).trans (if_pos (by omega))]
              exact ⟨rfl, hm0, br_fm.rfl⟩)
        · refine br_if_ne0 C dX5_best_43 (tgt := 55) (by decide) ?_
          refine br_aload_n C dX5_best_46 rfl rfl ?_
          refine br_getI C fdX5_164 dX5_best_47 rfl rfl (by assumption) ?_
          refine br_bipushJ C (by decide) dX5_best_50 ?_
          refine br_icmp_neJ C (by omega) (by omega) dX5_best_52 (tgt := 58) (by decide) (fun c52 => ?_) (fun c52 => ?_)
          · refine br_aload_n C dX5_best_58 rfl rfl ?_
            refine br_dup C dX5_best_59 rfl ?_
            refine br_getI C fdX5_164 dX5_best_60 rfl rfl (x := br_J b) hbb ?_
            refine br_iconstJ C dX5_best_63 ?_
            refine br_iaddJ C dX5_best_64 ?_
            refine br_putI C fdX5_164 dX5_best_65 rfl rfl rfl ?_
            refine br_aload_n C dX5_best_68 rfl rfl ?_
            refine br_iload_n C dX5_best_69 rfl rfl ?_
            refine br_iload_n C dX5_best_70 rfl rfl ?_
            have em : ((m.toNat : Nat) : Int) = m := by omega
            have hbo := c_X5_bestOf (σ := br_up σ 23 8 (br_J (b + 1))) (hg.keep rfl rfl) hgo (by omega) m.toNat (by omega) k hbk (by omega)
            rw [em] at hbo
            refine br_cv2 C vcX5_167 (hbo) (by decide) rfl rfl (fun _ => Nat.le_of_ble_eq_true rfl) dX5_best_71 (fun v71 τ71 hv => ?_)
            obtain ⟨rfl, hsm⟩ := hv
            exact br_iret C rfl dX5_best_74 (by
                rw [show br_sBest (w, g, r, c, t, n, b, kp, ri, ci, ti) m k = (br_vBest g m k, (w, g, r, c, t, n, b + 1, kp, ri, ci, ti)) from (if_neg (by omega)).trans (if_neg (by omega))]
                exact ⟨rfl, ⟨⟨hw.keep (congrFun (hsm.1 23 (by decide)) 1) (hsm.1 24 (by decide)), hg.keep (congrFun (hsm.1 23 (by decide)) 2) (hsm.1 25 (by decide)), hr.keep (hsm.1 26 (by decide)), ht.keep (hsm.1 29 (by decide))⟩, ⟨(congrFun (hsm.1 23 (by decide)) 7).trans hr7, (congrFun (hsm.1 23 (by decide)) 11).trans ht11, (congrFun (hsm.1 23 (by decide)) 3).trans hcc, (congrFun (hsm.1 23 (by decide)) 4).trans hnn, (congrFun (hsm.1 23 (by decide)) 8)⟩, ⟨e, (congrFun (hsm.1 23 (by decide)) 14).trans he, heb, hke⟩, fun h => ⟨⟨(him h).1.1.keep (hsm.1 30 (by decide)), (him h).1.2.keep (hsm.1 31 (by decide))⟩, (congrFun (hsm.1 23 (by decide)) 15).trans (him h).2.1, (congrFun (hsm.1 23 (by decide)) 16).trans (him h).2.2.1, (congrFun (hsm.1 23 (by decide)) 17).trans (him h).2.2.2⟩⟩, (((br_sm.rfl (qs := [23])).up (by simp)).fm (by decide)).trans (hsm.fm (by decide))⟩)
          · refine br_bipushJ C (by decide) dX5_best_55 ?_
            exact br_iret C rfl dX5_best_57 (by
                rw [show br_sBest (w, g, r, c, t, n, b, kp, ri, ci, ti) m k = (-103, (w, g, r, c, t, n, b, kp, ri, ci, ti)) from (if_neg (by omega)).trans (if_pos (by omega))]
                exact ⟨rfl, hm0, br_fm.rfl⟩)
      · refine br_if_ne0 C dX5_best_33 (tgt := 39) (by decide) ?_
        refine br_bipushJ C (by decide) dX5_best_36 ?_
        exact br_iret C rfl dX5_best_38 (by
            rw [show br_sBest (w, g, r, c, t, n, b, kp, ri, ci, ti) m k = (-102, (w, g, r, c, t, n, b, kp, ri, ci, ti)) from if_pos (by omega)]
            exact ⟨rfl, hm0, br_fm.rfl⟩)
  · refine br_if_eq0 C dX5_best_9 (tgt := 36) (by decide) ?_
    refine br_bipushJ C (by decide) dX5_best_36 ?_
    exact br_iret C rfl dX5_best_38 (by
        rw [show br_sBest (w, g, r, c, t, n, b, kp, ri, ci, ti) m k = (-102, (w, g, r, c, t, n, b, kp, ri, ci, ti)) from if_pos (by omega)]
        exact ⟨rfl, hm0, br_fm.rfl⟩)

set_option maxHeartbeats 4000000 in
set_option maxRecDepth 100000 in
theorem c_X5_moreOf {σ : br_Wd} {g : br_Gy} (hg : br_GM σ g) (hgo : br_Gok g) {r : br_Ro} (hr7 : σ.1 23 7 = br_J r.1) (hr : br_RM 26 σ r) (hro : br_Rok g r) (h5 : r.1 < 5) (s : Int) (hsb : -100 ≤ s ∧ s ≤ 100) : br_Met 4 mX5_moreOf [br_r 23, br_i (br_J s)] σ (fun v τ => v = some (br_i (br_J (br_mo g r s g.1).1)) ∧ br_sm [27] σ τ) := by
  have hg0 := hg
  have hgo0 := hgo
  obtain ⟨hgn, hK, hWo, hS⟩ := hg
  have hg7 := hgo.1
  have hr0 := hr
  have h5r := hro.1
  have hb7 := fun (j : Nat) (hj : j < r.1) => (show r.2 j < 7 by have := hro.2.1 j hj; omega)
  refine br_ofW (by decide) 4 rfl (fun G C => ?_)
  have loop : ∀ (m p : Nat) (τ : br_Wd) (a : Int × Int) (x : Option br_V), p + m = g.1 → a = br_mo g r s p → br_sm [27] σ τ → G 22 [some (br_r 23), some (br_i (br_J s)), some (br_i (br_J a.1)), some (br_i (br_J a.2)), some (br_i (br_J p)), x] [] τ := by
    intro m
    induction m with
    | zero =>
      intro p τ a x hpm ha hsm
      refine br_iload C dX5_moreOf_22 rfl ?_
      refine br_aload_n C dX5_moreOf_24 rfl rfl ?_
      refine br_getI C fdX5_63 dX5_moreOf_25 rfl rfl (x := br_J g.1) ((congrFun (hsm.1 23 (by decide)) 2).trans hgn) ?_
      refine br_icmp_geJ C (by omega) (by omega) dX5_moreOf_28 (tgt := 112) (by decide) (fun c28 => ?_) (fun c28 => ?_)
      · refine br_iload_n C dX5_moreOf_112 rfl rfl ?_
        exact br_iret C rfl dX5_moreOf_113 ⟨by rw [ha, show p = g.1 by omega], hsm⟩
      · omega
    | succ m ih =>
      intro p τ a x hpm ha hsm
      have hrτ : br_RM 26 τ r := hr0.keep (hsm.1 26 (by decide))
      have hr7τ : τ.1 23 7 = br_J r.1 := (congrFun (hsm.1 23 (by decide)) 7).trans hr7
      have hab := br_mo_bnd hgo hro h5 s p (by omega)
      rw [← ha] at hab
      have hpo : -1 ≤ br_po r p ∧ br_po r p < r.1 := br_lst_bnd _ _
      refine br_iload C dX5_moreOf_22 rfl ?_
      refine br_aload_n C dX5_moreOf_24 rfl rfl ?_
      refine br_getI C fdX5_63 dX5_moreOf_25 rfl rfl (x := br_J g.1) ((congrFun (hsm.1 23 (by decide)) 2).trans hgn) ?_
      refine br_icmp_geJ C (by omega) (by omega) dX5_moreOf_28 (tgt := 112) (by decide) (fun c28 => ?_) (fun c28 => ?_)
      · omega
      · refine br_aload_n C dX5_moreOf_31 rfl rfl ?_
        refine br_iload C dX5_moreOf_32 rfl ?_
        refine br_cv1R C vcX5_82 (c_X5_placeOf hr7τ hrτ h5r hb7 (p : Nat) (by omega)) (by decide) rfl rfl (fun _ => Nat.le_of_ble_eq_true rfl) dX5_moreOf_34 ?_
        refine br_iconstJ C dX5_moreOf_37 ?_
        refine br_icmp_neJ C (by omega) (by omega) dX5_moreOf_38 (tgt := 106) (by decide) (fun c38 => ?_) (fun c38 => ?_)
        · refine br_iincJ C dX5_moreOf_106 rfl (by decide) rfl (L' := [_, _, _, _, _, _]) rfl ?_
          refine br_goto C dX5_moreOf_109 (tgt := 22) (by decide) ?_
          first
          | (exfalso; omega)
          | (refine ih (p + 1) _ (_, _) _ (by omega) (show (_, _) = br_mo g r s (p + 1) from ?_) (by first | exact hsm | exact hsm1.up (by simp))
             unfold br_mo
             rw [← ha]
             first
               | (rw [if_pos ⟨c38, by omega⟩]; done)
               | (rw [if_pos ⟨c38, by omega⟩]; rfl)
               | (rw [if_neg (fun q => absurd q.2 (by omega))]; done)
               | (rw [if_neg (fun q => absurd q.1 c38)]; done))
        · refine br_aload_n C dX5_moreOf_41 rfl rfl ?_
          refine br_getR C fdX5_16 dX5_moreOf_42 rfl rfl ?_
          refine br_aload_n C dX5_moreOf_45 rfl rfl ?_
          refine br_getR C fdX5_19 dX5_moreOf_46 rfl rfl ?_
          refine br_cs2 C scX5_154 (c_X5_copy (a := 26) (b := 27) (n := 5) rfl rfl (by omega) (by decide)) (by decide) (fun _ => Nat.le_of_ble_eq_true rfl) dX5_moreOf_49 (fun v49 τ49 hv => ?_)
          obtain ⟨rfl, hcp, hs1⟩ := hv
          have hsm1 := hsm.trans hs1
          have hr27 : br_RM 27 τ49 r := br_RM.copy (a := 26) hrτ h5r hcp
          have happ := br_RM_app hr27 p
          have hok := br_Rok_app hro (show p < g.1 by omega) c38 h5
          have hob2 := br_od_bnd hgo hok s
          refine br_aload_n C dX5_moreOf_52 rfl rfl ?_
          refine br_getR C fdX5_19 dX5_moreOf_53 rfl rfl ?_
          refine br_aload_n C dX5_moreOf_56 rfl rfl ?_
          refine br_getI C fdX5_66 dX5_moreOf_57 rfl rfl (x := br_J r.1) ((congrFun (hsm1.1 23 (by decide)) 7).trans hr7) ?_
          refine br_iload C dX5_moreOf_60 rfl ?_
          refine br_iastJ C rfl (by decide) (by omega) (by omega) rfl dX5_moreOf_62 ?_
          refine br_aload_n C dX5_moreOf_63 rfl rfl ?_
          refine br_aload_n C dX5_moreOf_64 rfl rfl ?_
          refine br_getR C fdX5_19 dX5_moreOf_65 rfl rfl ?_
          refine br_aload_n C dX5_moreOf_68 rfl rfl ?_
          refine br_getI C fdX5_66 dX5_moreOf_69 rfl rfl (x := br_J r.1) ((congrFun (hsm1.1 23 (by decide)) 7).trans hr7) ?_
          refine br_iconstJ C dX5_moreOf_72 ?_
          refine br_iaddJ C dX5_moreOf_73 ?_
          refine br_iload_n C dX5_moreOf_74 rfl rfl ?_
          have hou := c_X5_oddsUp (σ := br_up τ49 27 ((r.1 : Nat) : Int).toNat (br_J p)) (hg0.keep (congrFun (hsm1.1 23 (by decide)) 2) (hsm1.1 25 (by decide))) hgo0 (ra := 27) rfl (r := br_app r p) (by rw [show ((r.1 : Nat) : Int).toNat = r.1 by omega]; exact happ) hok s hsb
          rw [show (((br_app r p).1 : Nat) : Int) = (r.1 : Int) + 1 from rfl] at hou
          refine br_cv3R C vcX5_141 (hou) (by decide) rfl rfl (fun _ => Nat.le_of_ble_eq_true rfl) dX5_moreOf_75 ?_
          refine br_istore C dX5_moreOf_78 (by decide) rfl (L' := [_, _, _, _, _, _]) rfl ?_
          refine br_iload C dX5_moreOf_80 rfl ?_
          refine br_iload_n C dX5_moreOf_82 rfl rfl ?_
          refine br_icmp_leJ C (by omega) (by omega) dX5_moreOf_83 (tgt := 91) (by decide) (fun c83 => ?_) (fun c83 => ?_)
          · refine br_iload_n C dX5_moreOf_91 rfl rfl ?_
            refine br_istore_n C dX5_moreOf_92 rfl (by decide) rfl (L' := [_, _, _, _, _, _]) rfl ?_
            refine br_iload C dX5_moreOf_93 rfl ?_
            refine br_iload_n C dX5_moreOf_95 rfl rfl ?_
            refine br_icmp_leJ C (by omega) (by omega) dX5_moreOf_96 (tgt := 104) (by decide) (fun c96 => ?_) (fun c96 => ?_)
            · refine br_iload_n C dX5_moreOf_104 rfl rfl ?_
              refine br_istore_n C dX5_moreOf_105 rfl (by decide) rfl (L' := [_, _, _, _, _, _]) rfl ?_
              refine br_iincJ C dX5_moreOf_106 rfl (by decide) rfl (L' := [_, _, _, _, _, _]) rfl ?_
              refine br_goto C dX5_moreOf_109 (tgt := 22) (by decide) ?_
              first
              | (exfalso; omega)
              | (refine ih (p + 1) _ (_, _) _ (by omega) (show (_, _) = br_mo g r s (p + 1) from ?_) (by first | exact hsm | exact hsm1.up (by simp))
                 unfold br_mo
                 rw [← ha]
                 first
                   | (rw [if_pos ⟨c38, by omega⟩]; done)
                   | (rw [if_pos ⟨c38, by omega⟩]; rfl)
                   | (rw [if_neg (fun q => absurd q.2 (by omega))]; done)
                   | (rw [if_neg (fun q => absurd q.1 c38)]; done))
            · refine br_iload C dX5_moreOf_99 rfl ?_
              refine br_goto C dX5_moreOf_101 (tgt := 105) (by decide) ?_
              refine br_istore_n C dX5_moreOf_105 rfl (by decide) rfl (L' := [_, _, _, _, _, _]) rfl ?_
              refine br_iincJ C dX5_moreOf_106 rfl (by decide) rfl (L' := [_, _, _, _, _, _]) rfl ?_
              refine br_goto C dX5_moreOf_109 (tgt := 22) (by decide) ?_
              first
              | (exfalso; omega)
              | (refine ih (p + 1) _ (_, _) _ (by omega) (show (_, _) = br_mo g r s (p + 1) from ?_) (by first | exact hsm | exact hsm1.up (by simp))
                 unfold br_mo
                 rw [← ha]
                 first
                   | (rw [if_pos ⟨c38, by omega⟩]; done)
                   | (rw [if_pos ⟨c38, by omega⟩]; rfl)
                   | (rw [if_neg (fun q => absurd q.2 (by omega))]; done)
                   | (rw [if_neg (fun q => absurd q.1 c38)]; done))
          · refine br_iload C dX5_moreOf_86 rfl ?_
            refine br_goto C dX5_moreOf_88 (tgt := 92) (by decide) ?_
            refine br_istore_n C dX5_moreOf_92 rfl (by decide) rfl (L' := [_, _, _, _, _, _]) rfl ?_
            refine br_iload C dX5_moreOf_93 rfl ?_
            refine br_iload_n C dX5_moreOf_95 rfl rfl ?_
            refine br_icmp_leJ C (by omega) (by omega) dX5_moreOf_96 (tgt := 104) (by decide) (fun c96 => ?_) (fun c96 => ?_)
            · refine br_iload_n C dX5_moreOf_104 rfl rfl ?_
              refine br_istore_n C dX5_moreOf_105 rfl (by decide) rfl (L' := [_, _, _, _, _, _]) rfl ?_
              refine br_iincJ C dX5_moreOf_106 rfl (by decide) rfl (L' := [_, _, _, _, _, _]) rfl ?_
              refine br_goto C dX5_moreOf_109 (tgt := 22) (by decide) ?_
              first
              | (exfalso; omega)
              | (refine ih (p + 1) _ (_, _) _ (by omega) (show (_, _) = br_mo g r s (p + 1) from ?_) (by first | exact hsm | exact hsm1.up (by simp))
                 unfold br_mo
                 rw [← ha]
                 first
                   | (rw [if_pos ⟨c38, by omega⟩]; done)
                   | (rw [if_pos ⟨c38, by omega⟩]; rfl)
                   | (rw [if_neg (fun q => absurd q.2 (by omega))]; done)
                   | (rw [if_neg (fun q => absurd q.1 c38)]; done))
            · refine br_iload C dX5_moreOf_99 rfl ?_
              refine br_goto C dX5_moreOf_101 (tgt := 105) (by decide) ?_
              refine br_istore_n C dX5_moreOf_105 rfl (by decide) rfl (L' := [_, _, _, _, _, _]) rfl ?_
              refine br_iincJ C dX5_moreOf_106 rfl (by decide) rfl (L' := [_, _, _, _, _, _]) rfl ?_
              refine br_goto C dX5_moreOf_109 (tgt := 22) (by decide) ?_
              first
              | (exfalso; omega)
              | (refine ih (p + 1) _ (_, _) _ (by omega) (show (_, _) = br_mo g r s (p + 1) from ?_) (by first | exact hsm | exact hsm1.up (by simp))
                 unfold br_mo
                 rw [← ha]
                 first
                   | (rw [if_pos ⟨c38, by omega⟩]; done)
                   | (rw [if_pos ⟨c38, by omega⟩]; rfl)
                   | (rw [if_neg (fun q => absurd q.2 (by omega))]; done)
                   | (rw [if_neg (fun q => absurd q.1 c38)]; done))
  have hob := br_od_bnd hgo hro s
  refine br_iconstJ C dX5_moreOf_0 ?_
  refine br_istore_n C dX5_moreOf_1 rfl (by decide) rfl (L' := [_, _, _, _, _, _]) rfl ?_
  refine br_bipushJ C (by decide) dX5_moreOf_2 ?_
  refine br_aload_n C dX5_moreOf_4 rfl rfl ?_
  refine br_aload_n C dX5_moreOf_5 rfl rfl ?_
  refine br_getR C fdX5_16 dX5_moreOf_6 rfl rfl ?_
  refine br_aload_n C dX5_moreOf_9 rfl rfl ?_
  refine br_getI C fdX5_66 dX5_moreOf_10 rfl rfl (by assumption) ?_
  refine br_iload_n C dX5_moreOf_13 rfl rfl ?_
  refine br_cv3R C vcX5_141 (c_X5_oddsUp hg0 hgo0 (ra := 26) rfl hr0 hro s hsb) (by decide) rfl rfl (fun _ => Nat.le_of_ble_eq_true rfl) dX5_moreOf_14 ?_
  refine br_imulJ C dX5_moreOf_17 ?_
  refine br_istore_n C dX5_moreOf_18 rfl (by decide) rfl (L' := [_, _, _, _, _, _]) rfl ?_
  refine br_iconstJ C dX5_moreOf_19 ?_
  refine br_istore C dX5_moreOf_20 (by decide) rfl (L' := [_, _, _, _, _, _]) rfl ?_
  rw [Int.mul_comm 10 (br_od g r s)]
  exact loop g.1 0 σ (-1, br_od g r s * 10) _ (by omega) rfl br_sm.rfl

set_option maxHeartbeats 4000000 in
set_option maxRecDepth 100000 in
theorem c_X5_more {σ : br_Wd} {A : br_A} (hm : br_MR σ A) (hA : br_Aok A) (s : Int) (hbs : -2147483648 ≤ s ∧ s < 2147483648) : br_Met 5 mX5_more [br_r 23, br_i (br_J s)] σ (br_QM (br_J (br_vMore A s)) A σ) := by
  obtain ⟨w, g, r, c, t, n, b, kp, ri, ci, ti⟩ := A
  have hm0 := hm
  have hA0 := hA
  obtain ⟨⟨hw, hg, hr, ht⟩, ⟨hr7, ht11, hcc, hnn, hbb⟩, ⟨e, he, heb, hke⟩, him⟩ := hm
  obtain ⟨⟨hwo, hgo, hro, hto⟩, ⟨hb30, hn512⟩, hio⟩ := hA
  have hw1 := hw.1
  have hg1 := hg.1
  have hK := hg.2.1
  have hWo := hg.2.2.1
  have hS := hg.2.2.2
  have hw30 := hwo.1
  have hg7 := hgo.1
  have h5r := hro.1
  have h8t := hto.1
  have hcb := fun (j : Nat) (hj : j < w.1) => (show -2147483648 ≤ w.2 j ∧ w.2 j < 2147483648 by have := hwo.2 j hj; omega)
  have hrb := fun (j : Nat) (hj : j < r.1) => (show r.2 j < 7 by have := hro.2.1 j hj; omega)
  refine br_ofW (by decide) 0 rfl (fun G C => ?_)
  refine br_iload_n C dX5_more_0 rfl rfl ?_
  refine br_i2lK C (by omega) dX5_more_1 ?_
  refine br_ldc2K C klX5_144 (z := -100) (by decide) dX5_more_2 ?_
  refine br_ldc2K C klX5_146 (z := 100) (by decide) dX5_more_5 ?_
  refine br_cs3B C scX5_40 (c_X5_in s (-100) 100 (by omega) (by omega) (by omega)) (by decide) (fun _ => Nat.le_of_ble_eq_true rfl) dX5_more_8 (fun h8 => ?_) (fun h8 => ?_)
  · refine br_if_ne1 C dX5_more_11 (tgt := 17) (by decide) ?_
    refine br_aload_n C dX5_more_17 rfl rfl ?_
    refine br_cv0B C vcX5_117 (c_X5_lacks hg1 hg7) (by decide) rfl rfl (fun _ => Nat.le_of_ble_eq_true rfl) dX5_more_18 (fun h18 => ?_) (fun h18 => ?_)
    · refine br_if_ne1 C dX5_more_21 (tgt := 32) (by decide) ?_
      refine br_bipushJ C (by decide) dX5_more_32 ?_
      refine br_goto C dX5_more_34 (tgt := 42) (by decide) ?_
      first
       | exact br_iret C rfl dX5_more_42 ⟨congrArg (fun x => some (br_i (br_J x))) (show _ = br_vMore (w, g, r, c, t, n, b, kp, ri, ci, ti) s from ((if_neg (by omega)).trans (if_pos (by omega))).symm), hm0, br_fm.rfl⟩
       | exact br_iret C rfl dX5_more_42 ⟨congrArg (fun x => some (br_i (br_J x))) (show _ = br_vMore (w, g, r, c, t, n, b, kp, ri, ci, ti) s from ((if_neg (by omega)).trans (if_neg (by omega))).symm), ⟨⟨hw.keep (congrFun (hsm.1 23 (by decide)) 1) (hsm.1 24 (by decide)), hg.keep (congrFun (hsm.1 23 (by decide)) 2) (hsm.1 25 (by decide)), hr.keep (hsm.1 26 (by decide)), ht.keep (hsm.1 29 (by decide))⟩, ⟨(congrFun (hsm.1 23 (by decide)) 7).trans hr7, (congrFun (hsm.1 23 (by decide)) 11).trans ht11, (congrFun (hsm.1 23 (by decide)) 3).trans hcc, (congrFun (hsm.1 23 (by decide)) 4).trans hnn, (congrFun (hsm.1 23 (by decide)) 8).trans hbb⟩, ⟨e, (congrFun (hsm.1 23 (by decide)) 14).trans he, heb, hke⟩, fun h => ⟨⟨(him h).1.1.keep (hsm.1 30 (by decide)), (him h).1.2.keep (hsm.1 31 (by decide))⟩, (congrFun (hsm.1 23 (by decide)) 15).trans (him h).2.1, (congrFun (hsm.1 23 (by decide)) 16).trans (him h).2.2.1, (congrFun (hsm.1 23 (by decide)) 17).trans (him h).2.2.2⟩⟩, hsm.fm (by decide)⟩
    · refine br_if_ne0 C dX5_more_21 (tgt := 32) (by decide) ?_
      refine br_aload_n C dX5_more_24 rfl rfl ?_
      refine br_getI C fdX5_66 dX5_more_25 rfl rfl (by assumption) ?_
      refine br_iconstJ C dX5_more_28 ?_
      refine br_icmp_neJ C (by omega) (by omega) dX5_more_29 (tgt := 37) (by decide) (fun c29 => ?_) (fun c29 => ?_)
      · refine br_aload_n C dX5_more_37 rfl rfl ?_
        refine br_iload_n C dX5_more_38 rfl rfl ?_
        refine br_cv1 C vcX5_170 (c_X5_moreOf hg hgo hr7 hr hro (by omega) s (by omega)) (by decide) rfl rfl (fun _ => Nat.le_of_ble_eq_true rfl) dX5_more_39 (fun v39 τ39 hv => ?_)
        obtain ⟨rfl, hsm⟩ := hv
        first
       | exact br_iret C rfl dX5_more_42 ⟨congrArg (fun x => some (br_i (br_J x))) (show _ = br_vMore (w, g, r, c, t, n, b, kp, ri, ci, ti) s from ((if_neg (by omega)).trans (if_pos (by omega))).symm), hm0, br_fm.rfl⟩
       | exact br_iret C rfl dX5_more_42 ⟨congrArg (fun x => some (br_i (br_J x))) (show _ = br_vMore (w, g, r, c, t, n, b, kp, ri, ci, ti) s from ((if_neg (by omega)).trans (if_neg (by omega))).symm), ⟨⟨hw.keep (congrFun (hsm.1 23 (by decide)) 1) (hsm.1 24 (by decide)), hg.keep (congrFun (hsm.1 23 (by decide)) 2) (hsm.1 25 (by decide)), hr.keep (hsm.1 26 (by decide)), ht.keep (hsm.1 29 (by decide))⟩, ⟨(congrFun (hsm.1 23 (by decide)) 7).trans hr7, (congrFun (hsm.1 23 (by decide)) 11).trans ht11, (congrFun (hsm.1 23 (by decide)) 3).trans hcc, (congrFun (hsm.1 23 (by decide)) 4).trans hnn, (congrFun (hsm.1 23 (by decide)) 8).trans hbb⟩, ⟨e, (congrFun (hsm.1 23 (by decide)) 14).trans he, heb, hke⟩, fun h => ⟨⟨(him h).1.1.keep (hsm.1 30 (by decide)), (him h).1.2.keep (hsm.1 31 (by decide))⟩, (congrFun (hsm.1 23 (by decide)) 15).trans (him h).2.1, (congrFun (hsm.1 23 (by decide)) 16).trans (him h).2.2.1, (congrFun (hsm.1 23 (by decide)) 17).trans (him h).2.2.2⟩⟩, hsm.fm (by decide)⟩
      · refine br_bipushJ C (by decide) dX5_more_32 ?_
        refine br_goto C dX5_more_34 (tgt := 42) (by decide) ?_
        first
       | exact br_iret C rfl dX5_more_42 ⟨congrArg (fun x => some (br_i (br_J x))) (show _ = br_vMore (w, g, r, c, t, n, b, kp, ri, ci, ti) s from ((if_neg (by omega)).trans (if_pos (by omega))).symm), hm0, br_fm.rfl⟩
       | exact br_iret C rfl dX5_more_42 ⟨congrArg (fun x => some (br_i (br_J x))) (show _ = br_vMore (w, g, r, c, t, n, b, kp, ri, ci, ti) s from ((if_neg (by omega)).trans (if_neg (by omega))).symm), ⟨⟨hw.keep (congrFun (hsm.1 23 (by decide)) 1) (hsm.1 24 (by decide)), hg.keep (congrFun (hsm.1 23 (by decide)) 2) (hsm.1 25 (by decide)), hr.keep (hsm.1 26 (by decide)), ht.keep (hsm.1 29 (by decide))⟩, ⟨(congrFun (hsm.1 23 (by decide)) 7).trans hr7, (congrFun (hsm.1 23 (by decide)) 11).trans ht11, (congrFun (hsm.1 23 (by decide)) 3).trans hcc, (congrFun (hsm.1 23 (by decide)) 4).trans hnn, (congrFun (hsm.1 23 (by decide)) 8).trans hbb⟩, ⟨e, (congrFun (hsm.1 23 (by decide)) 14).trans he, heb, hke⟩, fun h => ⟨⟨(him h).1.1.keep (hsm.1 30 (by decide)), (him h).1.2.keep (hsm.1 31 (by decide))⟩, (congrFun (hsm.1 23 (by decide)) 15).trans (him h).2.1, (congrFun (hsm.1 23 (by decide)) 16).trans (him h).2.2.1, (congrFun (hsm.1 23 (by decide)) 17).trans (him h).2.2.2⟩⟩, hsm.fm (by decide)⟩
  · refine br_if_ne0 C dX5_more_11 (tgt := 17) (by decide) ?_
    refine br_bipushJ C (by decide) dX5_more_14 ?_
    exact br_iret C rfl dX5_more_16 ⟨congrArg (fun x => some (br_i (br_J x))) (show _ = br_vMore (w, g, r, c, t, n, b, kp, ri, ci, ti) s from (if_pos (by omega)).symm), hm0, br_fm.rfl⟩
