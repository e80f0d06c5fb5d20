set_option maxHeartbeats 4000000 in
set_option maxRecDepth 100000 in
theorem c_X5_draw {σ : br_Wd} (s : Int) (hs : 0 ≤ s ∧ s < 2147483648) (h13 : σ.1 23 13 = br_J s) : br_Met 0 mX5_draw [br_r 23, br_i (br_J 10)] σ (br_R (br_J (br_dw (br_nx s))) (br_up σ 23 13 (br_J (br_nx s)))) := by
  refine br_ofW (by decide) 0 rfl (fun G C => ?_)
  have hnb := br_nx_bnd s
  have hna : br_K (1103515245 * s + 12345) &&& br_K 2147483647 = br_K (br_nx s) := by unfold br_nx; exact br_K_and (by omega)
  refine br_aload_n C dX5_draw_0 rfl rfl ?_
  refine br_ldc2K C klX5_177 (z := 1103515245) (by decide) dX5_draw_1 ?_
  refine br_aload_n C dX5_draw_4 rfl rfl ?_
  refine br_getI C fdX5_179 dX5_draw_5 rfl rfl (x := br_J s) h13 ?_
  refine br_i2lK C (by omega) dX5_draw_8 ?_
  refine br_lmulK C dX5_draw_9 ?_
  refine br_ldc2K C klX5_182 (z := 12345) (by decide) dX5_draw_10 ?_
  refine br_laddK C dX5_draw_13 ?_
  refine br_ldc2K C klX5_184 (z := 2147483647) (by decide) dX5_draw_14 ?_
  refine br_landE C hna dX5_draw_17 ?_
  refine br_l2iK C dX5_draw_18 ?_
  refine br_putI C fdX5_179 dX5_draw_19 rfl rfl rfl ?_
  refine br_aload_n C dX5_draw_22 rfl rfl ?_
  refine br_getI C fdX5_179 dX5_draw_23 rfl rfl (x := br_J (br_nx s)) rfl ?_
  refine br_ldcJ C kiX5_186 (z := 65536) (by decide) dX5_draw_26 ?_
  refine br_idivJ C (by omega) (by omega) dX5_draw_28 ?_
  refine br_iload_n C dX5_draw_29 rfl rfl ?_
  refine br_iremJ C (by omega) (by omega) dX5_draw_30 ?_
  exact br_iret C rfl dX5_draw_31 ⟨rfl, rfl⟩

set_option maxHeartbeats 4000000 in
set_option maxRecDepth 100000 in
theorem c_X5_meets {σ : br_Wd} {A : br_A} (hm : br_MR σ A) (hA : br_Aok A) (n0 : Int) (hbn0 : -2147483648 ≤ n0 ∧ n0 < 2147483648) (s : Int) (hbs : -2147483648 ≤ s ∧ s < 2147483648) (k : Int) (hbk : -2147483648 ≤ k ∧ k < 2147483648) : br_Met 3 mX5_meets [br_r 23, br_i (br_J n0), br_i (br_J s), br_i (br_J k)] σ (br_QM (br_J (br_vMeets A n0 s k)) A σ) := by
  obtain ⟨w, g, r, c, t, n, b, kp, ri, ci, ti⟩ := A
  have hm0 := hm
  have hA0 := hA
  obtain ⟨⟨hw, hg, hr, ht⟩, ⟨hr7, ht11, hcc, hnn, hbb⟩, ⟨e, he, heb, hke⟩, him⟩ := hm
  obtain ⟨⟨hwo, hgo, hro, hto⟩, ⟨hb30, hn512⟩, hio⟩ := hA
  have hw1 := hw.1
  have hg1 := hg.1
  have hK := hg.2.1
  have hWo := hg.2.2.1
  have hS := hg.2.2.2
  have hw30 := hwo.1
  have hg7 := hgo.1
  have h5r := hro.1
  have h8t := hto.1
  have hcb := fun (j : Nat) (hj : j < w.1) => (show -2147483648 ≤ w.2 j ∧ w.2 j < 2147483648 by have := hwo.2 j hj; omega)
  have hrb := fun (j : Nat) (hj : j < r.1) => (show r.2 j < 7 by have := hro.2.1 j hj; omega)
  refine br_ofW (by decide) 5 rfl (fun G C => ?_)
  have inner : ∀ (s2 : Int) (a1 a2 : Int) (j : Nat), (0 ≤ s2 ∧ s2 < 2147483648) → (∀ (q : Nat × Int) (x : Option br_V), q = br_in g r s2 r.1 → G 119 [some (br_r 23), some (br_i (br_J n0)), some (br_i (br_J s)), some (br_i (br_J k)), some (br_i (br_J a1)), some (br_i (br_J a2)), some (br_i (br_J j)), some (br_i (br_J q.1)), x] [] (br_up σ 23 13 (br_J q.2))) → ∀ (m i : Nat) (q : Nat × Int), i + m = r.1 → q = br_in g r s2 i → G 69 [some (br_r 23), some (br_i (br_J n0)), some (br_i (br_J s)), some (br_i (br_J k)), some (br_i (br_J a1)), some (br_i (br_J a2)), some (br_i (br_J j)), some (br_i (br_J q.1)), some (br_i (br_J i))] [] (br_up σ 23 13 (br_J q.2)) := by
    intro s2 a1 a2 j hsb hout m
    induction m with
    | zero =>
      intro i q him2 hb2
      refine br_iload C dX5_meets_69 rfl ?_
      refine br_aload_n C dX5_meets_71 rfl rfl ?_
      refine br_getI C fdX5_66 dX5_meets_72 rfl rfl (x := br_J r.1) hr7 ?_
      refine br_icmp_geJ C (by omega) (by omega) dX5_meets_75 (tgt := 119) (by decide) (fun c75 => ?_) (fun c75 => ?_)
      · exact hout q _ (by rw [hb2, show i = r.1 by omega])
      · omega
    | succ m ih =>
      intro i q him2 hb2
      refine br_iload C dX5_meets_69 rfl ?_
      refine br_aload_n C dX5_meets_71 rfl rfl ?_
      refine br_getI C fdX5_66 dX5_meets_72 rfl rfl (x := br_J r.1) hr7 ?_
      refine br_icmp_geJ C (by omega) (by omega) dX5_meets_75 (tgt := 119) (by decide) (fun c75 => ?_) (fun c75 => ?_)
      · omega
      · have hinb := br_in_bnd g r hsb i
        rw [← hb2] at hinb
        have hf2 : q.1 < 2 ^ i := hinb.1
        have hnx := br_nx_bnd q.2
        have hdw : 0 ≤ br_dw (br_nx q.2) ∧ br_dw (br_nx q.2) < 10 := by unfold br_dw; omega
        have hcb := br_cr_bnd hgo hro i
        have hri := hro.2.1 i (by omega)
        have hcr : br_cr g r i = br_ch (br_gK g (r.2 i)) (br_gS g (r.2 i)) i := if_pos (by omega)
        refine br_iload C dX5_meets_78 rfl ?_
        refine br_aload_n C dX5_meets_80 rfl rfl ?_
        refine br_bipushJ C (by decide) dX5_meets_81 ?_
        refine br_cv1R C vcX5_191 (c_X5_draw (σ := (br_up σ 23 13 (br_J q.2))) q.2 (by omega) rfl) (by decide) rfl rfl (fun _ => Nat.le_of_ble_eq_true rfl) dX5_meets_83 ?_
        rw [br_up_up]
        refine br_aload_n C dX5_meets_86 rfl rfl ?_
        refine br_aload_n C dX5_meets_87 rfl rfl ?_
        refine br_getR C fdX5_16 dX5_meets_88 rfl rfl ?_
        refine br_iload C dX5_meets_91 rfl ?_
        refine br_ialdJ C rfl (by decide) (by omega) (by omega) (y := (r.2 i : Nat)) (hr i (by omega)) dX5_meets_93 ?_
        refine br_iload C dX5_meets_94 rfl ?_
        refine br_cv2R C vcX5_85 (c_X5_tenthsOf (σ := (br_up σ 23 13 (br_J (br_nx q.2)))) (hg.keep rfl rfl) hgo (r.2 i) hri i (by omega)) (by decide) rfl rfl (fun _ => Nat.le_of_ble_eq_true rfl) dX5_meets_96 ?_
        refine br_icmp_geJ C (by omega) (by omega) dX5_meets_99 (tgt := 106) (by decide) (fun c99 => ?_) (fun c99 => ?_)
        · refine br_iconstJ C dX5_meets_106 ?_
          refine br_iload C dX5_meets_107 rfl ?_
          refine br_ishlE C (br_shl1 (by omega)) dX5_meets_109 ?_
          refine br_iorE C (by first | exact br_or2 (show i < 5 by omega) hf2 | exact br_or0 _) dX5_meets_110 ?_
          refine br_istore C dX5_meets_111 (by decide) rfl (L' := [_, _, _, _, _, _, _, _, _]) rfl ?_
          refine br_iincJ C dX5_meets_113 rfl (by decide) rfl (L' := [_, _, _, _, _, _, _, _, _]) rfl ?_
          refine br_goto C dX5_meets_116 (tgt := 69) (by decide) ?_
          refine ih (i + 1) (_, br_nx q.2) (by omega) (show (_, _) = (if br_dw (br_nx (br_in g r s2 i).2) < br_cr g r i then (br_in g r s2 i).1 else (br_in g r s2 i).1 + 2 ^ i, br_nx (br_in g r s2 i).2) from ?_)
          rw [← hb2, hcr]
          first | (rw [if_pos (by omega)]; done) | (rw [if_pos (by omega)]; rfl) | (rw [if_neg (by omega)]; done) | (rw [if_neg (by omega)]; rfl)
        · refine br_iconstJ C dX5_meets_102 ?_
          refine br_goto C dX5_meets_103 (tgt := 110) (by decide) ?_
          refine br_iorE C (by first | exact br_or2 (show i < 5 by omega) hf2 | exact br_or0 _) dX5_meets_110 ?_
          refine br_istore C dX5_meets_111 (by decide) rfl (L' := [_, _, _, _, _, _, _, _, _]) rfl ?_
          refine br_iincJ C dX5_meets_113 rfl (by decide) rfl (L' := [_, _, _, _, _, _, _, _, _]) rfl ?_
          refine br_goto C dX5_meets_116 (tgt := 69) (by decide) ?_
          refine ih (i + 1) (_, br_nx q.2) (by omega) (show (_, _) = (if br_dw (br_nx (br_in g r s2 i).2) < br_cr g r i then (br_in g r s2 i).1 else (br_in g r s2 i).1 + 2 ^ i, br_nx (br_in g r s2 i).2) from ?_)
          rw [← hb2, hcr]
          first | (rw [if_pos (by omega)]; done) | (rw [if_pos (by omega)]; rfl) | (rw [if_neg (by omega)]; done) | (rw [if_neg (by omega)]; rfl)
  have outer : (1 ≤ n0 ∧ n0 ≤ 60) → 0 ≤ s → (0 ≤ k ∧ k ≤ 2) → ¬ g.1 = 0 → ∀ (m j : Nat) (a : Int × Int × Int) (x y : Option br_V), j + m = n0.toNat → a = br_me g r s j → G 57 [some (br_r 23), some (br_i (br_J n0)), some (br_i (br_J s)), some (br_i (br_J k)), some (br_i (br_J a.1)), some (br_i (br_J a.2.1)), some (br_i (br_J j)), x, y] [] (br_up σ 23 13 (br_J a.2.2)) := by
    intro hn0 hs0 hk0 hgne m
    induction m with
    | zero =>
      intro j a x y hjm ha
      refine br_iload C dX5_meets_57 rfl ?_
      refine br_iload_n C dX5_meets_59 rfl rfl ?_
      refine br_icmp_geJ C (by omega) (by omega) dX5_meets_60 (tgt := 159) (by decide) (fun c60 => ?_) (fun c60 => ?_)
      · refine br_iload_n C dX5_meets_159 rfl rfl ?_
        refine br_if_neJ C (by omega) dX5_meets_160 (tgt := 168) (by decide) (fun c160 => ?_) (fun c160 => ?_)
        · refine br_iload_n C dX5_meets_168 rfl rfl ?_
          refine br_iconstJ C dX5_meets_169 ?_
          refine br_icmp_neJ C (by omega) (by omega) dX5_meets_170 (tgt := 178) (by decide) (fun c170 => ?_) (fun c170 => ?_)
          · refine br_aload_n C dX5_meets_178 rfl rfl ?_
            refine br_getI C fdX5_179 dX5_meets_179 rfl rfl (x := br_J a.2.2) rfl ?_
            exact br_iret C rfl dX5_meets_182 ⟨congrArg (fun x => some (br_i (br_J x))) (show _ = br_vMeets (w, g, r, c, t, n, b, kp, ri, ci, ti) n0 s k from by
                first
                | (rw [show a.1 = (br_me g r s n0.toNat).1 by rw [ha, show j = n0.toNat by omega]]; exact ((if_neg (by omega)).trans ((if_neg hgne).trans (if_pos (by omega)))).symm)
                | (rw [show a.2.1 = (br_me g r s n0.toNat).2.1 by rw [ha, show j = n0.toNat by omega]]; exact ((if_neg (by omega)).trans ((if_neg hgne).trans ((if_neg (by omega)).trans (if_pos (by omega))))).symm)
                | (rw [show a.2.2 = (br_me g r s n0.toNat).2.2 by rw [ha, show j = n0.toNat by omega]]; exact ((if_neg (by omega)).trans ((if_neg hgne).trans ((if_neg (by omega)).trans (if_neg (by omega))))).symm)), ⟨⟨hw.keep rfl rfl, hg.keep rfl rfl, hr.keep rfl, ht.keep rfl⟩, ⟨hr7, ht11, hcc, hnn, hbb⟩, ⟨e, he, heb, hke⟩, fun h => ⟨⟨(him h).1.1.keep rfl, (him h).1.2.keep rfl⟩, (him h).2⟩⟩, ((br_sm.rfl (qs := [23])).up (by simp)).fm (by decide)⟩
          · refine br_iload C dX5_meets_173 rfl ?_
            refine br_goto C dX5_meets_175 (tgt := 182) (by decide) ?_
            exact br_iret C rfl dX5_meets_182 ⟨congrArg (fun x => some (br_i (br_J x))) (show _ = br_vMeets (w, g, r, c, t, n, b, kp, ri, ci, ti) n0 s k from by
                first
                | (rw [show a.1 = (br_me g r s n0.toNat).1 by rw [ha, show j = n0.toNat by omega]]; exact ((if_neg (by omega)).trans ((if_neg hgne).trans (if_pos (by omega)))).symm)
                | (rw [show a.2.1 = (br_me g r s n0.toNat).2.1 by rw [ha, show j = n0.toNat by omega]]; exact ((if_neg (by omega)).trans ((if_neg hgne).trans ((if_neg (by omega)).trans (if_pos (by omega))))).symm)
                | (rw [show a.2.2 = (br_me g r s n0.toNat).2.2 by rw [ha, show j = n0.toNat by omega]]; exact ((if_neg (by omega)).trans ((if_neg hgne).trans ((if_neg (by omega)).trans (if_neg (by omega))))).symm)), ⟨⟨hw.keep rfl rfl, hg.keep rfl rfl, hr.keep rfl, ht.keep rfl⟩, ⟨hr7, ht11, hcc, hnn, hbb⟩, ⟨e, he, heb, hke⟩, fun h => ⟨⟨(him h).1.1.keep rfl, (him h).1.2.keep rfl⟩, (him h).2⟩⟩, ((br_sm.rfl (qs := [23])).up (by simp)).fm (by decide)⟩
        · refine br_iload C dX5_meets_163 rfl ?_
          refine br_goto C dX5_meets_165 (tgt := 182) (by decide) ?_
          exact br_iret C rfl dX5_meets_182 ⟨congrArg (fun x => some (br_i (br_J x))) (show _ = br_vMeets (w, g, r, c, t, n, b, kp, ri, ci, ti) n0 s k from by
              first
              | (rw [show a.1 = (br_me g r s n0.toNat).1 by rw [ha, show j = n0.toNat by omega]]; exact ((if_neg (by omega)).trans ((if_neg hgne).trans (if_pos (by omega)))).symm)
              | (rw [show a.2.1 = (br_me g r s n0.toNat).2.1 by rw [ha, show j = n0.toNat by omega]]; exact ((if_neg (by omega)).trans ((if_neg hgne).trans ((if_neg (by omega)).trans (if_pos (by omega))))).symm)
              | (rw [show a.2.2 = (br_me g r s n0.toNat).2.2 by rw [ha, show j = n0.toNat by omega]]; exact ((if_neg (by omega)).trans ((if_neg hgne).trans ((if_neg (by omega)).trans (if_neg (by omega))))).symm)), ⟨⟨hw.keep rfl rfl, hg.keep rfl rfl, hr.keep rfl, ht.keep rfl⟩, ⟨hr7, ht11, hcc, hnn, hbb⟩, ⟨e, he, heb, hke⟩, fun h => ⟨⟨(him h).1.1.keep rfl, (him h).1.2.keep rfl⟩, (him h).2⟩⟩, ((br_sm.rfl (qs := [23])).up (by simp)).fm (by decide)⟩
      · omega
    | succ m ih =>
      intro j a x y hjm ha
      have hsb : 0 ≤ a.2.2 ∧ a.2.2 < 2147483648 := by rw [ha]; exact br_me_bnd g r (by omega) j
      refine br_iload C dX5_meets_57 rfl ?_
      refine br_iload_n C dX5_meets_59 rfl rfl ?_
      refine br_icmp_geJ C (by omega) (by omega) dX5_meets_60 (tgt := 159) (by decide) (fun c60 => ?_) (fun c60 => ?_)
      · omega
      · refine br_iconstJ C dX5_meets_63 ?_
        refine br_istore C dX5_meets_64 (by decide) rfl (L' := [_, _, _, _, _, _, _, _, _]) rfl ?_
        refine br_iconstJ C dX5_meets_66 ?_
        refine br_istore C dX5_meets_67 (by decide) rfl (L' := [_, _, _, _, _, _, _, _, _]) rfl ?_
        refine inner a.2.2 a.1 a.2.1 j hsb (fun q x2 hb3 => ?_) r.1 0 (0, a.2.2) (by omega) rfl
        have hinb := br_in_bnd g r hsb r.1
        rw [← hb3] at hinb
        have hf32 : q.1 < 32 := Nat.lt_of_lt_of_le hinb.1 (br_pow2 h5r).2
        refine br_iload C dX5_meets_119 rfl ?_
        refine br_iload C dX5_meets_121 rfl ?_
        refine br_if_neJ C (by omega) dX5_meets_123 (tgt := 130) (by decide) (fun c123 => ?_) (fun c123 => ?_)
        · refine br_iconstJ C dX5_meets_130 ?_
          refine br_iaddJ C dX5_meets_131 ?_
          refine br_istore C dX5_meets_132 (by decide) rfl (L' := [_, _, _, _, _, _, _, _, _]) rfl ?_
          refine br_iload C dX5_meets_134 rfl ?_
          refine br_aload_n C dX5_meets_136 rfl rfl ?_
          refine br_aload_n C dX5_meets_137 rfl rfl ?_
          refine br_getR C fdX5_16 dX5_meets_138 rfl rfl ?_
          refine br_aload_n C dX5_meets_141 rfl rfl ?_
          refine br_getI C fdX5_66 dX5_meets_142 rfl rfl (x := br_J r.1) hr7 ?_
          refine br_iload C dX5_meets_145 rfl ?_
          refine br_cv3R C vcX5_121 (c_X5_scoreOf (σ := (br_up σ 23 13 (br_J q.2))) (hg.keep rfl rfl) hgo (ra := 26) rfl (hr.keep rfl) hro q.1 hf32) (by decide) rfl rfl (fun _ => Nat.le_of_ble_eq_true rfl) dX5_meets_147 ?_
          refine br_iaddJ C dX5_meets_150 ?_
          refine br_istore C dX5_meets_151 (by decide) rfl (L' := [_, _, _, _, _, _, _, _, _]) rfl ?_
          refine br_iincJ C dX5_meets_153 rfl (by decide) rfl (L' := [_, _, _, _, _, _, _, _, _]) rfl ?_
          refine br_goto C dX5_meets_156 (tgt := 57) (by decide) ?_
          refine ih (j + 1) (_, _, q.2) _ _ (by omega) (show (_, _, _) = ((br_me g r s j).1 + (if (br_in g r (br_me g r s j).2.2 r.1).1 = 0 then 1 else 0), (br_me g r s j).2.1 + br_pt g r (br_in g r (br_me g r s j).2.2 r.1).1, (br_in g r (br_me g r s j).2.2 r.1).2) from ?_)
          rw [← ha, ← hb3]
          first | (rw [if_pos (by omega)]; done) | (rw [if_pos (by omega)]; rfl) | (rw [if_neg (by omega)]; done) | (rw [if_neg (by omega)]; rfl)
        · refine br_iconstJ C dX5_meets_126 ?_
          refine br_goto C dX5_meets_127 (tgt := 131) (by decide) ?_
          refine br_iaddJ C dX5_meets_131 ?_
          refine br_istore C dX5_meets_132 (by decide) rfl (L' := [_, _, _, _, _, _, _, _, _]) rfl ?_
          refine br_iload C dX5_meets_134 rfl ?_
          refine br_aload_n C dX5_meets_136 rfl rfl ?_
          refine br_aload_n C dX5_meets_137 rfl rfl ?_
          refine br_getR C fdX5_16 dX5_meets_138 rfl rfl ?_
          refine br_aload_n C dX5_meets_141 rfl rfl ?_
          refine br_getI C fdX5_66 dX5_meets_142 rfl rfl (x := br_J r.1) hr7 ?_
          refine br_iload C dX5_meets_145 rfl ?_
          refine br_cv3R C vcX5_121 (c_X5_scoreOf (σ := (br_up σ 23 13 (br_J q.2))) (hg.keep rfl rfl) hgo (ra := 26) rfl (hr.keep rfl) hro q.1 hf32) (by decide) rfl rfl (fun _ => Nat.le_of_ble_eq_true rfl) dX5_meets_147 ?_
          refine br_iaddJ C dX5_meets_150 ?_
          refine br_istore C dX5_meets_151 (by decide) rfl (L' := [_, _, _, _, _, _, _, _, _]) rfl ?_
          refine br_iincJ C dX5_meets_153 rfl (by decide) rfl (L' := [_, _, _, _, _, _, _, _, _]) rfl ?_
          refine br_goto C dX5_meets_156 (tgt := 57) (by decide) ?_
          refine ih (j + 1) (_, _, q.2) _ _ (by omega) (show (_, _, _) = ((br_me g r s j).1 + (if (br_in g r (br_me g r s j).2.2 r.1).1 = 0 then 1 else 0), (br_me g r s j).2.1 + br_pt g r (br_in g r (br_me g r s j).2.2 r.1).1, (br_in g r (br_me g r s j).2.2 r.1).2) from ?_)
          rw [← ha, ← hb3]
          first | (rw [if_pos (by omega)]; done) | (rw [if_pos (by omega)]; rfl) | (rw [if_neg (by omega)]; done) | (rw [if_neg (by omega)]; rfl)
  refine br_iload_n C dX5_meets_0 rfl rfl ?_
  refine br_i2lK C (by omega) dX5_meets_1 ?_
  refine br_lconst C dX5_meets_2 (v := br_K 1) (by decide) ?_
  refine br_ldc2K C klX5_187 (z := 60) (by decide) dX5_meets_3 ?_
  refine br_cs3B C scX5_40 (c_X5_in n0 1 60 (by omega) (by omega) (by omega)) (by decide) (fun _ => Nat.le_of_ble_eq_true rfl) dX5_meets_6 (fun h6 => ?_) (fun h6 => ?_)
  · refine br_if_eq1 C dX5_meets_9 (tgt := 28) (by decide) ?_
    refine br_iload_n C dX5_meets_12 rfl rfl ?_
    refine br_if_ltJ C (by omega) dX5_meets_13 (tgt := 28) (by decide) (fun c13 => ?_) (fun c13 => ?_)
    · refine br_bipushJ C (by decide) dX5_meets_28 ?_
      exact br_iret C rfl dX5_meets_30 ⟨congrArg (fun x => some (br_i (br_J x))) (show _ = br_vMeets (w, g, r, c, t, n, b, kp, ri, ci, ti) n0 s k from (if_pos (by omega)).symm), hm0, br_fm.rfl⟩
    · refine br_iload_n C dX5_meets_16 rfl rfl ?_
      refine br_i2lK C (by omega) dX5_meets_17 ?_
      refine br_lconst C dX5_meets_18 (v := br_K 0) (by decide) ?_
      refine br_ldc2K C klX5_189 (z := 2) (by decide) dX5_meets_19 ?_
      refine br_cs3B C scX5_40 (c_X5_in k 0 2 (by omega) (by omega) (by omega)) (by decide) (fun _ => Nat.le_of_ble_eq_true rfl) dX5_meets_22 (fun h22 => ?_) (fun h22 => ?_)
      · refine br_if_ne1 C dX5_meets_25 (tgt := 31) (by decide) ?_
        refine br_aload_n C dX5_meets_31 rfl rfl ?_
        refine br_cv0B C vcX5_117 (c_X5_lacks hg1 hg7) (by decide) rfl rfl (fun _ => Nat.le_of_ble_eq_true rfl) dX5_meets_32 (fun h32 => ?_) (fun h32 => ?_)
        · refine br_if_eq1 C dX5_meets_35 (tgt := 41) (by decide) ?_
          refine br_bipushJ C (by decide) dX5_meets_38 ?_
          exact br_iret C rfl dX5_meets_40 ⟨congrArg (fun x => some (br_i (br_J x))) (show _ = br_vMeets (w, g, r, c, t, n, b, kp, ri, ci, ti) n0 s k from ((if_neg (by omega)).trans (if_pos h32)).symm), hm0, br_fm.rfl⟩
        · refine br_if_eq0 C dX5_meets_35 (tgt := 41) (by decide) ?_
          refine br_aload_n C dX5_meets_41 rfl rfl ?_
          refine br_iload_n C dX5_meets_42 rfl rfl ?_
          refine br_putI C fdX5_179 dX5_meets_43 rfl rfl rfl ?_
          refine br_iconstJ C dX5_meets_46 ?_
          refine br_istore C dX5_meets_47 (by decide) rfl (L' := [_, _, _, _, _, _, _, _, _]) rfl ?_
          refine br_sipushJ C (by decide) dX5_meets_49 ?_
          refine br_istore C dX5_meets_52 (by decide) rfl (L' := [_, _, _, _, _, _, _, _, _]) rfl ?_
          refine br_iconstJ C dX5_meets_54 ?_
          refine br_istore C dX5_meets_55 (by decide) rfl (L' := [_, _, _, _, _, _, _, _, _]) rfl ?_
          exact outer (by omega) (by omega) (by omega) h32 n0.toNat 0 (0, 20000, s) _ _ (by omega) rfl
      · refine br_if_ne0 C dX5_meets_25 (tgt := 31) (by decide) ?_
        refine br_bipushJ C (by decide) dX5_meets_28 ?_
        exact br_iret C rfl dX5_meets_30 ⟨congrArg (fun x => some (br_i (br_J x))) (show _ = br_vMeets (w, g, r, c, t, n, b, kp, ri, ci, ti) n0 s k from (if_pos (by omega)).symm), hm0, br_fm.rfl⟩
  · refine br_if_eq0 C dX5_meets_9 (tgt := 28) (by decide) ?_
    refine br_bipushJ C (by decide) dX5_meets_28 ?_
    exact br_iret C rfl dX5_meets_30 ⟨congrArg (fun x => some (br_i (br_J x))) (show _ = br_vMeets (w, g, r, c, t, n, b, kp, ri, ci, ti) n0 s k from (if_pos (by omega)).symm), hm0, br_fm.rfl⟩

set_option maxHeartbeats 4000000 in
set_option maxRecDepth 100000 in
theorem c_X5_say {σ : br_Wd} (x : Int64) : br_Met 0 mX5_say [br_r 23, br_l x] σ (br_RV (br_upl σ (br_K 31 * σ.2 + x))) := by
  refine br_ofW (by decide) 0 rfl (fun G C => ?_)
  refine br_aload_n C dX5_say_0 rfl rfl ?_
  refine br_ldc2K C klX5_215 (z := 31) (by decide) dX5_say_1 ?_
  refine br_aload_n C dX5_say_4 rfl rfl ?_
  refine br_getL C fdX5_217 dX5_say_5 rfl rfl rfl ?_
  refine br_lmul C dX5_say_8 ?_
  refine br_lload_n C dX5_say_9 rfl rfl ?_
  refine br_ladd C dX5_say_10 ?_
  refine br_putL C fdX5_217 dX5_say_11 rfl ?_
  exact br_vret C rfl dX5_say_14 ⟨rfl, rfl⟩

set_option maxHeartbeats 4000000 in
set_option maxRecDepth 100000 in
theorem c_X5_digest {σ : br_Wd} {A : br_A} (hm : br_MR σ A) (hA : br_Aok A) : br_Met 5 mX5_digest [br_r 23] σ (fun v τ => v = some (br_l (br_vDigest A)) ∧ br_MR τ A ∧ br_fm σ τ) := by
  obtain ⟨w, g, r, c, t, n, b, kp, ri, ci, ti⟩ := A
  have hm0 := hm
  have hA0 := hA
  obtain ⟨⟨hw, hg, hr, ht⟩, ⟨hr7, ht11, hcc, hnn, hbb⟩, ⟨e, he, heb, hke⟩, him⟩ := hm
  obtain ⟨⟨hwo, hgo, hro, hto⟩, ⟨hb30, hn512⟩, hio⟩ := hA
  have hw1 := hw.1
  have hg1 := hg.1
  have hK := hg.2.1
  have hWo := hg.2.2.1
  have hS := hg.2.2.2
  have hw30 := hwo.1
  have hg7 := hgo.1
  have h5r := hro.1
  have h8t := hto.1
  have hcb := fun (j : Nat) (hj : j < w.1) => (show -2147483648 ≤ w.2 j ∧ w.2 j < 2147483648 by have := hwo.2 j hj; omega)
  have hrb := fun (j : Nat) (hj : j < r.1) => (show r.2 j < 7 by have := hro.2.1 j hj; omega)
  refine br_ofW (by decide) 2 rfl (fun G C => ?_)
  have l5 : ∀ (m k : Nat) (h : Int64) (x : Option br_V), k + m = 10 → h = br_fold (fun k => br_J (br_vCount (w, g, r, c, t, n, b, kp, ri, ci, ti) k)) (br_d4 (w, g, r, c, t, n, b, kp, ri, ci, ti)) k → G 193 [some (br_r 23), some (br_i (br_J k)), x] [] (br_upl σ h) := by
    intro m
    induction m with
    | zero =>
      intro k h x hkm hh
      have hmh : br_MR (br_upl σ h) (w, g, r, c, t, n, b, kp, ri, ci, ti) := hm0
      refine br_iload_n C dX5_digest_193 rfl rfl ?_
      refine br_bipushJ C (by decide) dX5_digest_194 ?_
      refine br_icmp_geJ C (by omega) (by omega) dX5_digest_196 (tgt := 215) (by decide) (fun c196 => ?_) (fun c196 => ?_)
      · refine br_aload_n C dX5_digest_215 rfl rfl ?_
        refine br_getL C fdX5_217 dX5_digest_216 rfl rfl rfl ?_
        exact br_lret C rfl dX5_digest_219 ⟨by rw [hh, show k = 10 by omega]; rfl, hmh, fun _ _ => rfl⟩
      · omega
    | succ m ih =>
      intro k h x hkm hh
      have hmh : br_MR (br_upl σ h) (w, g, r, c, t, n, b, kp, ri, ci, ti) := hm0
      refine br_iload_n C dX5_digest_193 rfl rfl ?_
      refine br_bipushJ C (by decide) dX5_digest_194 ?_
      refine br_icmp_geJ C (by omega) (by omega) dX5_digest_196 (tgt := 215) (by decide) (fun c196 => ?_) (fun c196 => ?_)
      · omega
      · refine br_aload_n C dX5_digest_199 rfl rfl ?_
        refine br_aload_n C dX5_digest_200 rfl rfl ?_
        refine br_iload_n C dX5_digest_201 rfl rfl ?_
        refine br_cv1R C vcX5_212 (c_X5_countOf (A := (w, g, r, c, t, n, b, kp, ri, ci, ti)) hmh hA0 k (by omega)) (by decide) rfl rfl (fun _ => Nat.le_of_ble_eq_true rfl) dX5_digest_202 ?_
        refine br_i2l C  dX5_digest_205 ?_
        refine br_cv1V C vcX5_223 (c_X5_say _) (by decide) rfl rfl (fun _ => Nat.le_of_ble_eq_true rfl) dX5_digest_206 ?_
        refine br_iincJ C dX5_digest_209 rfl (by decide) rfl (L' := [_, _, _]) rfl ?_
        refine br_goto C dX5_digest_212 (tgt := 193) (by decide) ?_
        exact ih (k + 1) _ _ (by omega) (by rw [hh]; rfl)
  have l4 : (∀ x y : Option br_V, G 191 [some (br_r 23), x, y] [] (br_upl σ (br_fold (fun k => br_J (w.2 k)) (br_d3 (w, g, r, c, t, n, b, kp, ri, ci, ti)) w.1))) → ∀ (m k : Nat) (h : Int64) (x : Option br_V), k + m = w.1 → h = br_fold (fun k => br_J (w.2 k)) (br_d3 (w, g, r, c, t, n, b, kp, ri, ci, ti)) k → G 166 [some (br_r 23), some (br_i (br_J k)), x] [] (br_upl σ h) := by
    intro hout m
    induction m with
    | zero =>
      intro k h x hkm hh
      refine br_iload_n C dX5_digest_166 rfl rfl ?_
      refine br_aload_n C dX5_digest_167 rfl rfl ?_
      refine br_getI C fdX5_44 dX5_digest_168 rfl rfl (x := br_J w.1) hw1 ?_
      refine br_icmp_geJ C (by omega) (by omega) dX5_digest_171 (tgt := 191) (by decide) (fun c171 => ?_) (fun c171 => ?_)
      · rw [hh, show k = w.1 by omega]
        exact hout _ _
      · omega
    | succ m ih =>
      intro k h x hkm hh
      refine br_iload_n C dX5_digest_166 rfl rfl ?_
      refine br_aload_n C dX5_digest_167 rfl rfl ?_
      refine br_getI C fdX5_44 dX5_digest_168 rfl rfl (x := br_J w.1) hw1 ?_
      refine br_icmp_geJ C (by omega) (by omega) dX5_digest_171 (tgt := 191) (by decide) (fun c171 => ?_) (fun c171 => ?_)
      · omega
      · refine br_aload_n C dX5_digest_174 rfl rfl ?_
        refine br_aload_n C dX5_digest_175 rfl rfl ?_
        refine br_getR C fdX5_7 dX5_digest_176 rfl rfl ?_
        refine br_iload_n C dX5_digest_179 rfl rfl ?_
        refine br_ialdJ C rfl (by decide) (by omega) (by omega) (y := w.2 k) (hw.2 k (by omega)) dX5_digest_180 ?_
        refine br_i2l C  dX5_digest_181 ?_
        refine br_cv1V C vcX5_223 (c_X5_say _) (by decide) rfl rfl (fun _ => Nat.le_of_ble_eq_true rfl) dX5_digest_182 ?_
        refine br_iincJ C dX5_digest_185 rfl (by decide) rfl (L' := [_, _, _]) rfl ?_
        refine br_goto C dX5_digest_188 (tgt := 166) (by decide) ?_
        exact ih (k + 1) _ _ (by omega) (by rw [hh]; rfl)
  have b4 : ∀ x y : Option br_V, G 191 [some (br_r 23), x, y] [] (br_upl σ (br_fold (fun k => br_J (w.2 k)) (br_d3 (w, g, r, c, t, n, b, kp, ri, ci, ti)) w.1)) := by
    intro x y
    refine br_iconstJ C dX5_digest_191 ?_
    refine br_istore_n C dX5_digest_192 rfl (by decide) rfl (L' := [_, _, _]) rfl ?_
    exact l5 10 0 _ _ (by omega) rfl
  have b3 : ∀ x y : Option br_V, G 164 [some (br_r 23), x, y] [] (br_upl σ (br_d3 (w, g, r, c, t, n, b, kp, ri, ci, ti))) := by
    intro x y
    refine br_iconstJ C dX5_digest_164 ?_
    refine br_istore_n C dX5_digest_165 rfl (by decide) rfl (L' := [_, _, _]) rfl ?_
    exact l4 b4 w.1 0 _ _ (by omega) rfl
  have b2 : ∀ x y : Option br_V, G 75 [some (br_r 23), x, y] [] (br_upl σ (br_fold (fun k => br_J (r.2 k : Nat)) (br_dP (w, g, r, c, t, n, b, kp, ri, ci, ti) g.1) r.1)) := by
    intro x y
    have b3 := b3 x y
    have hgh : ∀ h : Int64, br_GM (br_upl σ h) g := fun _ => hg
    have hrh : ∀ h : Int64, br_RM 26 (br_upl σ h) r := fun _ => hr
    have h7h : ∀ h : Int64, (br_upl σ h).1 23 7 = br_J r.1 := fun _ => hr7
    have hp2 := br_pow2 h5r
    refine br_aload_n C dX5_digest_75 rfl rfl ?_
    refine br_cv0B C vcX5_117 (c_X5_lacks (σ := br_upl σ (br_fold (fun k => br_J (r.2 k : Nat)) (br_dP (w, g, r, c, t, n, b, kp, ri, ci, ti) g.1) r.1)) hg1 hg7) (by decide) rfl rfl (fun _ => Nat.le_of_ble_eq_true rfl) dX5_digest_76 (fun h76 => ?_) (fun h76 => ?_)
    · refine br_if_ne1 C dX5_digest_79 (tgt := 164) (by decide) ?_
      unfold br_d3 at b3
      first
        | (rw [if_pos h76] at b3; exact b3)
        | (have e0 : br_vScore (w, g, r, c, t, n, b, kp, ri, ci, ti) 0 = br_pt g r 0 + 200 := (if_neg (by omega)).trans (if_neg h76)
           have e1 : br_vMean (w, g, r, c, t, n, b, kp, ri, ci, ti) 0 = br_lo (br_mh g r) 100 0 := by unfold br_vMean; dsimp only; rw [if_neg (by omega), if_neg h76]
           have e2 : br_vMean (w, g, r, c, t, n, b, kp, ri, ci, ti) 1 = br_lo (br_mh g r) 100 1 := by unfold br_vMean; dsimp only; rw [if_neg (by omega), if_neg h76]
           have e3 : br_vOdds (w, g, r, c, t, n, b, kp, ri, ci, ti) 10 0 = br_lo (br_od g r 10) ((10 : Int) ^ r.1) 0 := by unfold br_vOdds; dsimp only; rw [if_neg (by omega), if_neg h76]
           have e4 : br_vOdds (w, g, r, c, t, n, b, kp, ri, ci, ti) 10 1 = br_lo (br_od g r 10) ((10 : Int) ^ r.1) 1 := by unfold br_vOdds; dsimp only; rw [if_neg (by omega), if_neg h76]
           rw [if_neg h76, e0, e1, e2, e3, e4] at b3
           exact b3)
    · refine br_if_ne0 C dX5_digest_79 (tgt := 164) (by decide) ?_
      refine br_aload_n C dX5_digest_82 rfl rfl ?_
      refine br_aload_n C dX5_digest_83 rfl rfl ?_
      refine br_aload_n C dX5_digest_84 rfl rfl ?_
      refine br_getR C fdX5_16 dX5_digest_85 rfl rfl ?_
      refine br_aload_n C dX5_digest_88 rfl rfl ?_
      refine br_getI C fdX5_66 dX5_digest_89 rfl rfl (x := br_J r.1) hr7 ?_
      refine br_iconstJ C dX5_digest_92 ?_
      refine br_cv3R C vcX5_121 (c_X5_scoreOf (hgh _) hgo (ra := 26) rfl (hrh _) hro 0 (by omega)) (by decide) rfl rfl (fun _ => Nat.le_of_ble_eq_true rfl) dX5_digest_93 ?_
      refine br_sipushJ C (by decide) dX5_digest_96 ?_
      refine br_iaddJ C dX5_digest_99 ?_
      refine br_i2l C  dX5_digest_100 ?_
      refine br_cv1V C vcX5_223 (c_X5_say _) (by decide) rfl rfl (fun _ => Nat.le_of_ble_eq_true rfl) dX5_digest_101 ?_
      refine br_aload_n C dX5_digest_104 rfl rfl ?_
      refine br_aload_n C dX5_digest_105 rfl rfl ?_
      refine br_aload_n C dX5_digest_106 rfl rfl ?_
      refine br_getR C fdX5_16 dX5_digest_107 rfl rfl ?_
      refine br_aload_n C dX5_digest_110 rfl rfl ?_
      refine br_getI C fdX5_66 dX5_digest_111 rfl rfl (x := br_J r.1) hr7 ?_
      refine br_iconstJ C dX5_digest_114 ?_
      refine br_cv3R C vcX5_138 (c_X5_meanOf (hgh _) hgo (ra := 26) rfl (hrh _) hro 0 (by omega)) (by decide) rfl rfl (fun _ => Nat.le_of_ble_eq_true rfl) dX5_digest_115 ?_
      refine br_i2l C  dX5_digest_118 ?_
      refine br_cv1V C vcX5_223 (c_X5_say _) (by decide) rfl rfl (fun _ => Nat.le_of_ble_eq_true rfl) dX5_digest_119 ?_
      refine br_aload_n C dX5_digest_122 rfl rfl ?_
      refine br_aload_n C dX5_digest_123 rfl rfl ?_
      refine br_aload_n C dX5_digest_124 rfl rfl ?_
      refine br_getR C fdX5_16 dX5_digest_125 rfl rfl ?_
      refine br_aload_n C dX5_digest_128 rfl rfl ?_
      refine br_getI C fdX5_66 dX5_digest_129 rfl rfl (x := br_J r.1) hr7 ?_
      refine br_iconstJ C dX5_digest_132 ?_
      refine br_cv3R C vcX5_138 (c_X5_meanOf (hgh _) hgo (ra := 26) rfl (hrh _) hro 1 (by omega)) (by decide) rfl rfl (fun _ => Nat.le_of_ble_eq_true rfl) dX5_digest_133 ?_
      refine br_i2l C  dX5_digest_136 ?_
      refine br_cv1V C vcX5_223 (c_X5_say _) (by decide) rfl rfl (fun _ => Nat.le_of_ble_eq_true rfl) dX5_digest_137 ?_
      refine br_aload_n C dX5_digest_140 rfl rfl ?_
      refine br_aload_n C dX5_digest_141 rfl rfl ?_
      refine br_bipushJ C (by decide) dX5_digest_142 ?_
      refine br_iconstJ C dX5_digest_144 ?_
      refine br_cv2R C vcX5_148 (c_X5_oddsOf (hgh _) hgo (h7h _) (hrh _) hro 10 (by omega) 0 (by omega)) (by decide) rfl rfl (fun _ => Nat.le_of_ble_eq_true rfl) dX5_digest_145 ?_
      refine br_i2l C  dX5_digest_148 ?_
      refine br_cv1V C vcX5_223 (c_X5_say _) (by decide) rfl rfl (fun _ => Nat.le_of_ble_eq_true rfl) dX5_digest_149 ?_
      refine br_aload_n C dX5_digest_152 rfl rfl ?_
      refine br_aload_n C dX5_digest_153 rfl rfl ?_
      refine br_bipushJ C (by decide) dX5_digest_154 ?_
      refine br_iconstJ C dX5_digest_156 ?_
      refine br_cv2R C vcX5_148 (c_X5_oddsOf (hgh _) hgo (h7h _) (hrh _) hro 10 (by omega) 1 (by omega)) (by decide) rfl rfl (fun _ => Nat.le_of_ble_eq_true rfl) dX5_digest_157 ?_
      refine br_i2l C  dX5_digest_160 ?_
      refine br_cv1V C vcX5_223 (c_X5_say _) (by decide) rfl rfl (fun _ => Nat.le_of_ble_eq_true rfl) dX5_digest_161 ?_
      unfold br_d3 at b3
      first
        | (rw [if_pos h76] at b3; exact b3)
        | (have e0 : br_vScore (w, g, r, c, t, n, b, kp, ri, ci, ti) 0 = br_pt g r 0 + 200 := (if_neg (by omega)).trans (if_neg h76)
           have e1 : br_vMean (w, g, r, c, t, n, b, kp, ri, ci, ti) 0 = br_lo (br_mh g r) 100 0 := by unfold br_vMean; dsimp only; rw [if_neg (by omega), if_neg h76]
           have e2 : br_vMean (w, g, r, c, t, n, b, kp, ri, ci, ti) 1 = br_lo (br_mh g r) 100 1 := by unfold br_vMean; dsimp only; rw [if_neg (by omega), if_neg h76]
           have e3 : br_vOdds (w, g, r, c, t, n, b, kp, ri, ci, ti) 10 0 = br_lo (br_od g r 10) ((10 : Int) ^ r.1) 0 := by unfold br_vOdds; dsimp only; rw [if_neg (by omega), if_neg h76]
           have e4 : br_vOdds (w, g, r, c, t, n, b, kp, ri, ci, ti) 10 1 = br_lo (br_od g r 10) ((10 : Int) ^ r.1) 1 := by unfold br_vOdds; dsimp only; rw [if_neg (by omega), if_neg h76]
           rw [if_neg h76, e0, e1, e2, e3, e4] at b3
           exact b3)
  have l2 : (∀ x y : Option br_V, G 75 [some (br_r 23), x, y] [] (br_upl σ (br_fold (fun k => br_J (r.2 k : Nat)) (br_dP (w, g, r, c, t, n, b, kp, ri, ci, ti) g.1) r.1))) → ∀ (m k : Nat) (h : Int64) (x : Option br_V), k + m = r.1 → h = br_fold (fun k => br_J (r.2 k : Nat)) (br_dP (w, g, r, c, t, n, b, kp, ri, ci, ti) g.1) k → G 50 [some (br_r 23), some (br_i (br_J k)), x] [] (br_upl σ h) := by
    intro hout m
    induction m with
    | zero =>
      intro k h x hkm hh
      refine br_iload_n C dX5_digest_50 rfl rfl ?_
      refine br_aload_n C dX5_digest_51 rfl rfl ?_
      refine br_getI C fdX5_66 dX5_digest_52 rfl rfl (x := br_J r.1) hr7 ?_
      refine br_icmp_geJ C (by omega) (by omega) dX5_digest_55 (tgt := 75) (by decide) (fun c55 => ?_) (fun c55 => ?_)
      · rw [hh, show k = r.1 by omega]
        exact hout _ _
      · omega
    | succ m ih =>
      intro k h x hkm hh
      refine br_iload_n C dX5_digest_50 rfl rfl ?_
      refine br_aload_n C dX5_digest_51 rfl rfl ?_
      refine br_getI C fdX5_66 dX5_digest_52 rfl rfl (x := br_J r.1) hr7 ?_
      refine br_icmp_geJ C (by omega) (by omega) dX5_digest_55 (tgt := 75) (by decide) (fun c55 => ?_) (fun c55 => ?_)
      · omega
      · refine br_aload_n C dX5_digest_58 rfl rfl ?_
        refine br_aload_n C dX5_digest_59 rfl rfl ?_
        refine br_getR C fdX5_16 dX5_digest_60 rfl rfl ?_
        refine br_iload_n C dX5_digest_63 rfl rfl ?_
        refine br_ialdJ C rfl (by decide) (by omega) (by omega) (y := (r.2 k : Nat)) (hr k (by omega)) dX5_digest_64 ?_
        refine br_i2l C  dX5_digest_65 ?_
        refine br_cv1V C vcX5_223 (c_X5_say _) (by decide) rfl rfl (fun _ => Nat.le_of_ble_eq_true rfl) dX5_digest_66 ?_
        refine br_iincJ C dX5_digest_69 rfl (by decide) rfl (L' := [_, _, _]) rfl ?_
        refine br_goto C dX5_digest_72 (tgt := 50) (by decide) ?_
        exact ih (k + 1) _ _ (by omega) (by rw [hh]; rfl)
  have b1 : ∀ x y : Option br_V, G 48 [some (br_r 23), x, y] [] (br_upl σ (br_dP (w, g, r, c, t, n, b, kp, ri, ci, ti) g.1)) := by
    intro x y
    refine br_iconstJ C dX5_digest_48 ?_
    refine br_istore_n C dX5_digest_49 rfl (by decide) rfl (L' := [_, _, _]) rfl ?_
    exact l2 b2 r.1 0 _ _ (by omega) rfl
  have l0 : ∀ (p : Nat), p < g.1 → (∀ x : Option br_V, G 42 [some (br_r 23), some (br_i (br_J p)), x] [] (br_upl σ (br_dP (w, g, r, c, t, n, b, kp, ri, ci, ti) (p + 1)))) → ∀ (m k : Nat) (h : Int64), k + m = 7 → h = br_fold (fun k => br_vPiece (w, g, r, c, t, n, b, kp, ri, ci, ti) p k) (br_dP (w, g, r, c, t, n, b, kp, ri, ci, ti) p) k → G 19 [some (br_r 23), some (br_i (br_J p)), some (br_i (br_J k))] [] (br_upl σ h) := by
    intro p hp hout m
    induction m with
    | zero =>
      intro k h hkm hh
      have hmh : br_MR (br_upl σ h) (w, g, r, c, t, n, b, kp, ri, ci, ti) := hm0
      refine br_iload_n C dX5_digest_19 rfl rfl ?_
      refine br_bipushJ C (by decide) dX5_digest_20 ?_
      refine br_icmp_geJ C (by omega) (by omega) dX5_digest_22 (tgt := 42) (by decide) (fun c22 => ?_) (fun c22 => ?_)
      · rw [hh, show k = 7 by omega]
        exact hout _
      · omega
    | succ m ih =>
      intro k h hkm hh
      have hmh : br_MR (br_upl σ h) (w, g, r, c, t, n, b, kp, ri, ci, ti) := hm0
      refine br_iload_n C dX5_digest_19 rfl rfl ?_
      refine br_bipushJ C (by decide) dX5_digest_20 ?_
      refine br_icmp_geJ C (by omega) (by omega) dX5_digest_22 (tgt := 42) (by decide) (fun c22 => ?_) (fun c22 => ?_)
      · omega
      · refine br_aload_n C dX5_digest_25 rfl rfl ?_
        refine br_aload_n C dX5_digest_26 rfl rfl ?_
        refine br_iload_n C dX5_digest_27 rfl rfl ?_
        refine br_iload_n C dX5_digest_28 rfl rfl ?_
        refine br_cv2R C vcX5_99 (c_X5_tell (A := (w, g, r, c, t, n, b, kp, ri, ci, ti)) hmh hA0 p (by omega) k (by omega) (show 0 ≤ (p : Int) ∧ (p : Int) < g.1 by omega)) (by decide) rfl rfl (fun _ => Nat.le_of_ble_eq_true rfl) dX5_digest_29 ?_
        refine br_i2l C  dX5_digest_32 ?_
        refine br_cv1V C vcX5_223 (c_X5_say _) (by decide) rfl rfl (fun _ => Nat.le_of_ble_eq_true rfl) dX5_digest_33 ?_
        refine br_iincJ C dX5_digest_36 rfl (by decide) rfl (L' := [_, _, _]) rfl ?_
        refine br_goto C dX5_digest_39 (tgt := 19) (by decide) ?_
        exact ih (k + 1) _ (by omega) (by rw [hh]; rfl)
  have l1 : ∀ (m p : Nat) (x : Option br_V), p + m = g.1 → G 9 [some (br_r 23), some (br_i (br_J p)), x] [] (br_upl σ (br_dP (w, g, r, c, t, n, b, kp, ri, ci, ti) p)) := by
    intro m
    induction m with
    | zero =>
      intro p x hpm
      refine br_iload_n C dX5_digest_9 rfl rfl ?_
      refine br_aload_n C dX5_digest_10 rfl rfl ?_
      refine br_getI C fdX5_63 dX5_digest_11 rfl rfl (x := br_J g.1) hg1 ?_
      refine br_icmp_geJ C (by omega) (by omega) dX5_digest_14 (tgt := 48) (by decide) (fun c14 => ?_) (fun c14 => ?_)
      · rw [show p = g.1 by omega]
        exact b1 _ _
      · omega
    | succ m ih =>
      intro p x hpm
      refine br_iload_n C dX5_digest_9 rfl rfl ?_
      refine br_aload_n C dX5_digest_10 rfl rfl ?_
      refine br_getI C fdX5_63 dX5_digest_11 rfl rfl (x := br_J g.1) hg1 ?_
      refine br_icmp_geJ C (by omega) (by omega) dX5_digest_14 (tgt := 48) (by decide) (fun c14 => ?_) (fun c14 => ?_)
      · omega
      · refine br_iconstJ C dX5_digest_17 ?_
        refine br_istore_n C dX5_digest_18 rfl (by decide) rfl (L' := [_, _, _]) rfl ?_
        refine l0 p (by omega) (fun x2 => ?_) 7 0 _ (by omega) rfl
        refine br_iincJ C dX5_digest_42 rfl (by decide) rfl (L' := [_, _, _]) rfl ?_
        refine br_goto C dX5_digest_45 (tgt := 9) (by decide) ?_
        exact ih (p + 1) _ (by omega)
  refine br_aload_n C dX5_digest_0 rfl rfl ?_
  refine br_ldc2K C klX5_221 (z := 1033) (by decide) dX5_digest_1 ?_
  refine br_putL C fdX5_217 dX5_digest_4 rfl ?_
  refine br_iconstJ C dX5_digest_7 ?_
  refine br_istore_n C dX5_digest_8 rfl (by decide) rfl (L' := [_, _, _]) rfl ?_
  exact l1 g.1 0 _ (by omega)
