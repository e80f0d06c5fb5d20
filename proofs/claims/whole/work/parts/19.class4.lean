set_option maxHeartbeats 4000000 in
set_option maxRecDepth 100000 in
theorem c_X4_best {σ : br_Wd} {A : br_A} (hc : br_CR σ A) (hA : br_Aok A) (m : Int) (hbm : -2147483648 ≤ m ∧ m < 2147483648) (k : Int) (hbk : -2147483648 ≤ k ∧ k < 2147483648) : br_Met 6 mX4_best [br_r 0, br_i (br_J m), br_i (br_J k)] σ (br_QC (br_J (br_sBest A m k).1) (br_sBest A m k).2 σ) := by
  obtain ⟨w, g, r, c, t, n, b, kp, ri, ci, ti⟩ := A
  have hc0 := hc
  have hA0 := hA
  obtain ⟨⟨hw, hg, hr, ht⟩, ⟨hcc, hnn, hbb, hkp⟩, him⟩ := hc
  obtain ⟨⟨hwo, hgo, hro, hto⟩, ⟨hb30, hn512⟩, hio⟩ := hA
  have hw1 := hw.1
  have hg1 := hg.1
  have hr1 := hr.1
  have ht1 := ht.1
  have hw30 := hwo.1
  have hg7 := hgo.1
  have h5r := hro.1
  have h8t := hto.1
  have hk4 := fun (j : Nat) (hj : j < g.1) => (hgo.2 j hj).1
  have hrb := fun (j : Nat) (hj : j < r.1) => (show r.2 j < 7 by have := hro.2.1 j hj; omega)
  refine br_ofW (by decide) 1 rfl (fun G C => ?_)
  refine br_iload_n C dX4_best_0 rfl rfl ?_
  refine br_bipushJ C (by decide) dX4_best_1 ?_
  refine br_icmp_ltJ C (by omega) (by omega) dX4_best_3 (tgt := 16) (by decide) (fun c3 => ?_) (fun c3 => ?_)
  · refine br_iconstJ C dX4_best_16 ?_
    refine br_istore_n C dX4_best_17 rfl (by decide) rfl (L' := [_, _, _, _]) rfl ?_
    refine br_iload_n C dX4_best_18 rfl rfl ?_
    refine br_iconstJ C dX4_best_19 ?_
    refine br_icmp_ltJ C (by omega) (by omega) dX4_best_20 (tgt := 39) (by decide) (fun c20 => ?_) (fun c20 => ?_)
    · refine br_bipushJ C (by decide) dX4_best_39 ?_
      exact br_iret C rfl dX4_best_41 (by
          rw [show br_sBest (w, g, r, c, t, n, b, kp, ri, ci, ti) m k = (-102, (w, g, r, c, t, n, b, kp, ri, ci, ti)) from if_pos (fun q => by first | omega | (rcases q.2 with q2 | q2; exact h29 q2; omega))]
          exact ⟨rfl, hc0, br_fc.rfl⟩)
    · refine br_iload_n C dX4_best_23 rfl rfl ?_
      refine br_iconstJ C dX4_best_24 ?_
      refine br_icmp_gtJ C (by omega) (by omega) dX4_best_25 (tgt := 39) (by decide) (fun c25 => ?_) (fun c25 => ?_)
      · refine br_bipushJ C (by decide) dX4_best_39 ?_
        exact br_iret C rfl dX4_best_41 (by
            rw [show br_sBest (w, g, r, c, t, n, b, kp, ri, ci, ti) m k = (-102, (w, g, r, c, t, n, b, kp, ri, ci, ti)) from if_pos (fun q => by first | omega | (rcases q.2 with q2 | q2; exact h29 q2; omega))]
            exact ⟨rfl, hc0, br_fc.rfl⟩)
      · refine br_iload_n C dX4_best_28 rfl rfl ?_
        refine br_cs1B C scX4_147 (c_X4_asksAboveOrBelow k hbk) (by decide) (fun _ => Nat.le_of_ble_eq_true rfl) dX4_best_29 (fun h29 => ?_) (fun h29 => ?_)
        · refine br_if_ne1 C dX4_best_32 (tgt := 42) (by decide) ?_
          refine br_aload_n C dX4_best_42 rfl rfl ?_
          refine br_cv0B C vcX4_141 (c_X4_noGym (A := (w, g, r, c, t, n, b, kp, ri, ci, ti)) hc0 hA0) (by decide) rfl rfl (fun _ => Nat.le_of_ble_eq_true rfl) dX4_best_43 (fun h43 => ?_) (fun h43 => ?_)
          · refine br_if_ne1 C dX4_best_46 (tgt := 58) (by decide) ?_
            refine br_bipushJ C (by decide) dX4_best_58 ?_
            exact br_iret C rfl dX4_best_60 (by
                rw [show br_sBest (w, g, r, c, t, n, b, kp, ri, ci, ti) m k = (-103, (w, g, r, c, t, n, b, kp, ri, ci, ti)) from (if_neg (fun q => q ⟨by omega, by first | exact Or.inl h29 | exact Or.inr (by omega)⟩)).trans (if_pos (by first | exact Or.inl h43 | (exact Or.inr (by omega))))]
                exact ⟨rfl, hc0, br_fc.rfl⟩)
          · refine br_if_ne0 C dX4_best_46 (tgt := 58) (by decide) ?_
            have hgn : ¬ g.1 = 0 := h43
            refine br_aload_n C dX4_best_49 rfl rfl ?_
            refine br_getI C fdX4_65 dX4_best_50 rfl rfl (by assumption) ?_
            refine br_bipushJ C (by decide) dX4_best_53 ?_
            refine br_icmp_ltJ C (by omega) (by omega) dX4_best_55 (tgt := 61) (by decide) (fun c55 => ?_) (fun c55 => ?_)
            · refine br_aload_n C dX4_best_61 rfl rfl ?_
              refine br_dup C dX4_best_62 rfl ?_
              refine br_getI C fdX4_65 dX4_best_63 rfl rfl (x := br_J b) hbb ?_
              refine br_iconstJ C dX4_best_66 ?_
              refine br_iaddJ C dX4_best_67 ?_
              refine br_putI C fdX4_65 dX4_best_68 rfl rfl rfl ?_
              refine br_iload_n C dX4_best_71 rfl rfl ?_
              refine br_aload_n C dX4_best_72 rfl rfl ?_
              refine br_getR C fdX4_19 dX4_best_73 rfl rfl ?_
              refine br_getI C fdX4_91 dX4_best_76 rfl rfl (by assumption) ?_
              refine br_icmp_leJ C (by omega) (by omega) dX4_best_79 (tgt := 84) (by decide) (fun c79 => ?_) (fun c79 => ?_)
              · refine br_aload_n C dX4_best_84 rfl rfl ?_
                refine br_iload_n C dX4_best_85 rfl rfl ?_
                have em : ((m.toNat : Nat) : Int) = m := by omega
                have hg1p : br_GC (br_up σ 0 12 (br_J (b + 1))) g := hg.keep rfl rfl rfl rfl
                have hff := c_X4_findFinest hg1p hgo (by omega) m.toNat (by omega)
                rw [em] at hff
                refine br_cv1 C vcX4_166 (hff) (by decide) rfl rfl (fun _ => Nat.le_of_ble_eq_true rfl) dX4_best_86 (fun v86 τ86 hv => ?_)
                obtain ⟨rfl, hfin, hsm⟩ := hv
                have hne := (br_bs_some hg7 (by omega) (show 1 ≤ m.toNat ∧ m.toNat ≤ 3 by omega)).1 (by omega)
                obtain ⟨cf, hcf⟩ := Option.ne_none_iff_exists'.mp hne
                rw [hcf] at hfin
                have hfr : br_RC 13 τ86 (br_rw g.1 m.toNat cf) := hfin
                have hds := (br_bs_dst g m.toNat _ cf hcf).1
                have hok := br_Rok_rw (show 0 < g.1 by omega) (show m.toNat ≤ 5 by omega) hds
                have hmb := br_mh_bnd hgo hok
                have hbv : br_vBest g m k = (if k = 0 ∨ k = 1 then br_lo (br_mh g (br_rw g.1 m.toNat cf)) 100 k else if k - 10 < m then (br_dg g.1 m.toNat cf (k - 10).toNat : Nat) else -1) := by unfold br_vBest; rw [hcf]
                have hcr : br_CR τ86 (w, g, r, c, t, n, b + 1, kp, ri, ci, ti) := br_CR.keep (σ := br_up σ 0 12 (br_J (b + 1))) ⟨⟨hw.keep rfl rfl, hg.keep rfl rfl rfl rfl, hr.keep rfl rfl, ht.keep rfl rfl rfl rfl⟩, ⟨hcc, hnn, rfl, hkp⟩, fun h => ⟨(him h).1.keep rfl rfl, (him h).2.1.keep rfl rfl rfl rfl, (him h).2.2⟩⟩ (fun p hp hq => hsm.1 p (by simp; omega))
                have hfc : br_fc σ τ86 := (((br_sm.rfl (qs := [0])).up (by simp)).fc (by decide)).trans (hsm.fc (by decide))
                refine br_iload_n C dX4_best_89 rfl rfl ?_
                refine br_if_eqJ C (by omega) dX4_best_90 (tgt := 105) (by decide) (fun _ => ?_) (fun c => absurd c (by decide))
                refine br_aload_n C dX4_best_105 rfl rfl ?_
                refine br_getR C fdX4_59 dX4_best_106 rfl rfl ?_
                refine br_cv0R C vcX4_150 (c_X2_meanInHundredths (q := 13) rfl rfl (hg.keep (hsm.1 3 (by decide)) (hsm.1 4 (by decide)) (hsm.1 5 (by decide)) (hsm.1 6 (by decide))) hgo hfr hok) (by decide) rfl rfl (fun _ => Nat.le_of_ble_eq_true rfl) dX4_best_109 ?_
                refine br_bipushJ C (by decide) dX4_best_112 ?_
                refine br_iload_n C dX4_best_114 rfl rfl ?_
                refine br_cs3R C scX4_153 (c_X4_inLowestTerms _ 100 k (by omega) (by omega) hbk) (by decide) (fun _ => Nat.le_of_ble_eq_true rfl) dX4_best_115 ?_
                exact br_iret C rfl dX4_best_118 (by
                    rw [show br_sBest (w, g, r, c, t, n, b, kp, ri, ci, ti) m k = (br_vBest g m k, (w, g, r, c, t, n, b + 1, kp, ri, ci, ti)) from (if_neg (fun q => q ⟨by omega, by first | exact Or.inl h29 | exact Or.inr (by omega)⟩)).trans (if_neg (fun q => q.elim (fun e => h43 e) (fun e => absurd e (by omega))))]
                    rw [hbv, if_pos (by first | exact h29 | omega)]
                    exact ⟨rfl, hcr, hfc⟩)
              · refine br_iconstJ C dX4_best_82 ?_
                exact br_iret C rfl dX4_best_83 (by
                    rw [show br_sBest (w, g, r, c, t, n, b, kp, ri, ci, ti) m k = (-1, (w, g, r, c, t, n, b + 1, kp, ri, ci, ti)) from (if_neg (fun q => q ⟨by omega, by first | exact Or.inl h29 | exact Or.inr (by omega)⟩)).trans ((if_neg (fun q => q.elim (fun e => h43 e) (fun e => absurd e (by omega)))).trans (by rw [show br_vBest g m k = -1 by unfold br_vBest; rw [(br_bs_some hg7 (by omega) (show 1 ≤ m.toNat ∧ m.toNat ≤ 3 by omega)).2 (by omega)]]))]
                    exact ⟨rfl, ⟨⟨hw.keep rfl rfl, hg.keep rfl rfl rfl rfl, hr.keep rfl rfl, ht.keep rfl rfl rfl rfl⟩, ⟨hcc, hnn, rfl, hkp⟩, fun h => ⟨(him h).1.keep rfl rfl, (him h).2.1.keep rfl rfl rfl rfl, (him h).2.2⟩⟩, ((br_sm.rfl (qs := [0])).up (by simp)).fc (by decide)⟩)
            · refine br_bipushJ C (by decide) dX4_best_58 ?_
              exact br_iret C rfl dX4_best_60 (by
                  rw [show br_sBest (w, g, r, c, t, n, b, kp, ri, ci, ti) m k = (-103, (w, g, r, c, t, n, b, kp, ri, ci, ti)) from (if_neg (fun q => q ⟨by omega, by first | exact Or.inl h29 | exact Or.inr (by omega)⟩)).trans (if_pos (by first | exact Or.inl h43 | (exact Or.inr (by omega))))]
                  exact ⟨rfl, hc0, br_fc.rfl⟩)
        · refine br_if_ne0 C dX4_best_32 (tgt := 42) (by decide) ?_
          refine br_iload_n C dX4_best_35 rfl rfl ?_
          refine br_if_neJ C (by omega) dX4_best_36 (tgt := 42) (by decide) (fun c => absurd c (by decide)) (fun _ => ?_)
          refine br_bipushJ C (by decide) dX4_best_39 ?_
          exact br_iret C rfl dX4_best_41 (by
              rw [show br_sBest (w, g, r, c, t, n, b, kp, ri, ci, ti) m k = (-102, (w, g, r, c, t, n, b, kp, ri, ci, ti)) from if_pos (fun q => by first | omega | (rcases q.2 with q2 | q2; exact h29 q2; omega))]
              exact ⟨rfl, hc0, br_fc.rfl⟩)
  · refine br_iload_n C dX4_best_6 rfl rfl ?_
    refine br_bipushJ C (by decide) dX4_best_7 ?_
    refine br_icmp_geJ C (by omega) (by omega) dX4_best_9 (tgt := 16) (by decide) (fun c9 => ?_) (fun c9 => ?_)
    · refine br_iconstJ C dX4_best_16 ?_
      refine br_istore_n C dX4_best_17 rfl (by decide) rfl (L' := [_, _, _, _]) rfl ?_
      refine br_iload_n C dX4_best_18 rfl rfl ?_
      refine br_iconstJ C dX4_best_19 ?_
      refine br_icmp_ltJ C (by omega) (by omega) dX4_best_20 (tgt := 39) (by decide) (fun c20 => ?_) (fun c20 => ?_)
      · refine br_bipushJ C (by decide) dX4_best_39 ?_
        exact br_iret C rfl dX4_best_41 (by
            rw [show br_sBest (w, g, r, c, t, n, b, kp, ri, ci, ti) m k = (-102, (w, g, r, c, t, n, b, kp, ri, ci, ti)) from if_pos (fun q => by first | omega | (rcases q.2 with q2 | q2; exact h29 q2; omega))]
            exact ⟨rfl, hc0, br_fc.rfl⟩)
      · refine br_iload_n C dX4_best_23 rfl rfl ?_
        refine br_iconstJ C dX4_best_24 ?_
        refine br_icmp_gtJ C (by omega) (by omega) dX4_best_25 (tgt := 39) (by decide) (fun c25 => ?_) (fun c25 => ?_)
        · refine br_bipushJ C (by decide) dX4_best_39 ?_
          exact br_iret C rfl dX4_best_41 (by
              rw [show br_sBest (w, g, r, c, t, n, b, kp, ri, ci, ti) m k = (-102, (w, g, r, c, t, n, b, kp, ri, ci, ti)) from if_pos (fun q => by first | omega | (rcases q.2 with q2 | q2; exact h29 q2; omega))]
              exact ⟨rfl, hc0, br_fc.rfl⟩)
        · refine br_iload_n C dX4_best_28 rfl rfl ?_
          refine br_cs1B C scX4_147 (c_X4_asksAboveOrBelow k hbk) (by decide) (fun _ => Nat.le_of_ble_eq_true rfl) dX4_best_29 (fun h29 => ?_) (fun h29 => ?_)
          · refine br_if_ne1 C dX4_best_32 (tgt := 42) (by decide) ?_
            refine br_aload_n C dX4_best_42 rfl rfl ?_
            refine br_cv0B C vcX4_141 (c_X4_noGym (A := (w, g, r, c, t, n, b, kp, ri, ci, ti)) hc0 hA0) (by decide) rfl rfl (fun _ => Nat.le_of_ble_eq_true rfl) dX4_best_43 (fun h43 => ?_) (fun h43 => ?_)
            · refine br_if_ne1 C dX4_best_46 (tgt := 58) (by decide) ?_
              refine br_bipushJ C (by decide) dX4_best_58 ?_
              exact br_iret C rfl dX4_best_60 (by
                  rw [show br_sBest (w, g, r, c, t, n, b, kp, ri, ci, ti) m k = (-103, (w, g, r, c, t, n, b, kp, ri, ci, ti)) from (if_neg (fun q => q ⟨by omega, by first | exact Or.inl h29 | exact Or.inr (by omega)⟩)).trans (if_pos (by first | exact Or.inl h43 | (exact Or.inr (by omega))))]
                  exact ⟨rfl, hc0, br_fc.rfl⟩)
            · refine br_if_ne0 C dX4_best_46 (tgt := 58) (by decide) ?_
              have hgn : ¬ g.1 = 0 := h43
              refine br_aload_n C dX4_best_49 rfl rfl ?_
              refine br_getI C fdX4_65 dX4_best_50 rfl rfl (by assumption) ?_
              refine br_bipushJ C (by decide) dX4_best_53 ?_
              refine br_icmp_ltJ C (by omega) (by omega) dX4_best_55 (tgt := 61) (by decide) (fun c55 => ?_) (fun c55 => ?_)
              · refine br_aload_n C dX4_best_61 rfl rfl ?_
                refine br_dup C dX4_best_62 rfl ?_
                refine br_getI C fdX4_65 dX4_best_63 rfl rfl (x := br_J b) hbb ?_
                refine br_iconstJ C dX4_best_66 ?_
                refine br_iaddJ C dX4_best_67 ?_
                refine br_putI C fdX4_65 dX4_best_68 rfl rfl rfl ?_
                refine br_iload_n C dX4_best_71 rfl rfl ?_
                refine br_aload_n C dX4_best_72 rfl rfl ?_
                refine br_getR C fdX4_19 dX4_best_73 rfl rfl ?_
                refine br_getI C fdX4_91 dX4_best_76 rfl rfl (by assumption) ?_
                refine br_icmp_leJ C (by omega) (by omega) dX4_best_79 (tgt := 84) (by decide) (fun c79 => ?_) (fun c79 => ?_)
                · refine br_aload_n C dX4_best_84 rfl rfl ?_
                  refine br_iload_n C dX4_best_85 rfl rfl ?_
                  have em : ((m.toNat : Nat) : Int) = m := by omega
                  have hg1p : br_GC (br_up σ 0 12 (br_J (b + 1))) g := hg.keep rfl rfl rfl rfl
                  have hff := c_X4_findFinest hg1p hgo (by omega) m.toNat (by omega)
                  rw [em] at hff
                  refine br_cv1 C vcX4_166 (hff) (by decide) rfl rfl (fun _ => Nat.le_of_ble_eq_true rfl) dX4_best_86 (fun v86 τ86 hv => ?_)
                  obtain ⟨rfl, hfin, hsm⟩ := hv
                  have hne := (br_bs_some hg7 (by omega) (show 1 ≤ m.toNat ∧ m.toNat ≤ 3 by omega)).1 (by omega)
                  obtain ⟨cf, hcf⟩ := Option.ne_none_iff_exists'.mp hne
                  rw [hcf] at hfin
                  have hfr : br_RC 13 τ86 (br_rw g.1 m.toNat cf) := hfin
                  have hds := (br_bs_dst g m.toNat _ cf hcf).1
                  have hok := br_Rok_rw (show 0 < g.1 by omega) (show m.toNat ≤ 5 by omega) hds
                  have hmb := br_mh_bnd hgo hok
                  have hbv : br_vBest g m k = (if k = 0 ∨ k = 1 then br_lo (br_mh g (br_rw g.1 m.toNat cf)) 100 k else if k - 10 < m then (br_dg g.1 m.toNat cf (k - 10).toNat : Nat) else -1) := by unfold br_vBest; rw [hcf]
                  have hcr : br_CR τ86 (w, g, r, c, t, n, b + 1, kp, ri, ci, ti) := br_CR.keep (σ := br_up σ 0 12 (br_J (b + 1))) ⟨⟨hw.keep rfl rfl, hg.keep rfl rfl rfl rfl, hr.keep rfl rfl, ht.keep rfl rfl rfl rfl⟩, ⟨hcc, hnn, rfl, hkp⟩, fun h => ⟨(him h).1.keep rfl rfl, (him h).2.1.keep rfl rfl rfl rfl, (him h).2.2⟩⟩ (fun p hp hq => hsm.1 p (by simp; omega))
                  have hfc : br_fc σ τ86 := (((br_sm.rfl (qs := [0])).up (by simp)).fc (by decide)).trans (hsm.fc (by decide))
                  refine br_iload_n C dX4_best_89 rfl rfl ?_
                  refine br_if_eqJ C (by omega) dX4_best_90 (tgt := 105) (by decide) (fun _ => ?_) (fun c => absurd c (by decide))
                  refine br_aload_n C dX4_best_105 rfl rfl ?_
                  refine br_getR C fdX4_59 dX4_best_106 rfl rfl ?_
                  refine br_cv0R C vcX4_150 (c_X2_meanInHundredths (q := 13) rfl rfl (hg.keep (hsm.1 3 (by decide)) (hsm.1 4 (by decide)) (hsm.1 5 (by decide)) (hsm.1 6 (by decide))) hgo hfr hok) (by decide) rfl rfl (fun _ => Nat.le_of_ble_eq_true rfl) dX4_best_109 ?_
                  refine br_bipushJ C (by decide) dX4_best_112 ?_
                  refine br_iload_n C dX4_best_114 rfl rfl ?_
                  refine br_cs3R C scX4_153 (c_X4_inLowestTerms _ 100 k (by omega) (by omega) hbk) (by decide) (fun _ => Nat.le_of_ble_eq_true rfl) dX4_best_115 ?_
                  exact br_iret C rfl dX4_best_118 (by
                      rw [show br_sBest (w, g, r, c, t, n, b, kp, ri, ci, ti) m k = (br_vBest g m k, (w, g, r, c, t, n, b + 1, kp, ri, ci, ti)) from (if_neg (fun q => q ⟨by omega, by first | exact Or.inl h29 | exact Or.inr (by omega)⟩)).trans (if_neg (fun q => q.elim (fun e => h43 e) (fun e => absurd e (by omega))))]
                      rw [hbv, if_pos (by first | exact h29 | omega)]
                      exact ⟨rfl, hcr, hfc⟩)
                · refine br_iconstJ C dX4_best_82 ?_
                  exact br_iret C rfl dX4_best_83 (by
                      rw [show br_sBest (w, g, r, c, t, n, b, kp, ri, ci, ti) m k = (-1, (w, g, r, c, t, n, b + 1, kp, ri, ci, ti)) from (if_neg (fun q => q ⟨by omega, by first | exact Or.inl h29 | exact Or.inr (by omega)⟩)).trans ((if_neg (fun q => q.elim (fun e => h43 e) (fun e => absurd e (by omega)))).trans (by rw [show br_vBest g m k = -1 by unfold br_vBest; rw [(br_bs_some hg7 (by omega) (show 1 ≤ m.toNat ∧ m.toNat ≤ 3 by omega)).2 (by omega)]]))]
                      exact ⟨rfl, ⟨⟨hw.keep rfl rfl, hg.keep rfl rfl rfl rfl, hr.keep rfl rfl, ht.keep rfl rfl rfl rfl⟩, ⟨hcc, hnn, rfl, hkp⟩, fun h => ⟨(him h).1.keep rfl rfl, (him h).2.1.keep rfl rfl rfl rfl, (him h).2.2⟩⟩, ((br_sm.rfl (qs := [0])).up (by simp)).fc (by decide)⟩)
              · refine br_bipushJ C (by decide) dX4_best_58 ?_
                exact br_iret C rfl dX4_best_60 (by
                    rw [show br_sBest (w, g, r, c, t, n, b, kp, ri, ci, ti) m k = (-103, (w, g, r, c, t, n, b, kp, ri, ci, ti)) from (if_neg (fun q => q ⟨by omega, by first | exact Or.inl h29 | exact Or.inr (by omega)⟩)).trans (if_pos (by first | exact Or.inl h43 | (exact Or.inr (by omega))))]
                    exact ⟨rfl, hc0, br_fc.rfl⟩)
          · refine br_if_ne0 C dX4_best_32 (tgt := 42) (by decide) ?_
            refine br_iload_n C dX4_best_35 rfl rfl ?_
            refine br_if_neJ C (by omega) dX4_best_36 (tgt := 42) (by decide) (fun c => absurd c (by decide)) (fun _ => ?_)
            refine br_bipushJ C (by decide) dX4_best_39 ?_
            exact br_iret C rfl dX4_best_41 (by
                rw [show br_sBest (w, g, r, c, t, n, b, kp, ri, ci, ti) m k = (-102, (w, g, r, c, t, n, b, kp, ri, ci, ti)) from if_pos (fun q => by first | omega | (rcases q.2 with q2 | q2; exact h29 q2; omega))]
                exact ⟨rfl, hc0, br_fc.rfl⟩)
    · refine br_iconstJ C dX4_best_12 ?_
      refine br_goto C dX4_best_13 (tgt := 17) (by decide) ?_
      refine br_istore_n C dX4_best_17 rfl (by decide) rfl (L' := [_, _, _, _]) rfl ?_
      refine br_iload_n C dX4_best_18 rfl rfl ?_
      refine br_iconstJ C dX4_best_19 ?_
      refine br_icmp_ltJ C (by omega) (by omega) dX4_best_20 (tgt := 39) (by decide) (fun c20 => ?_) (fun c20 => ?_)
      · refine br_bipushJ C (by decide) dX4_best_39 ?_
        exact br_iret C rfl dX4_best_41 (by
            rw [show br_sBest (w, g, r, c, t, n, b, kp, ri, ci, ti) m k = (-102, (w, g, r, c, t, n, b, kp, ri, ci, ti)) from if_pos (fun q => by first | omega | (rcases q.2 with q2 | q2; exact h29 q2; omega))]
            exact ⟨rfl, hc0, br_fc.rfl⟩)
      · refine br_iload_n C dX4_best_23 rfl rfl ?_
        refine br_iconstJ C dX4_best_24 ?_
        refine br_icmp_gtJ C (by omega) (by omega) dX4_best_25 (tgt := 39) (by decide) (fun c25 => ?_) (fun c25 => ?_)
        · refine br_bipushJ C (by decide) dX4_best_39 ?_
          exact br_iret C rfl dX4_best_41 (by
              rw [show br_sBest (w, g, r, c, t, n, b, kp, ri, ci, ti) m k = (-102, (w, g, r, c, t, n, b, kp, ri, ci, ti)) from if_pos (fun q => by first | omega | (rcases q.2 with q2 | q2; exact h29 q2; omega))]
              exact ⟨rfl, hc0, br_fc.rfl⟩)
        · refine br_iload_n C dX4_best_28 rfl rfl ?_
          refine br_cs1B C scX4_147 (c_X4_asksAboveOrBelow k hbk) (by decide) (fun _ => Nat.le_of_ble_eq_true rfl) dX4_best_29 (fun h29 => ?_) (fun h29 => ?_)
          · refine br_if_ne1 C dX4_best_32 (tgt := 42) (by decide) ?_
            refine br_aload_n C dX4_best_42 rfl rfl ?_
            refine br_cv0B C vcX4_141 (c_X4_noGym (A := (w, g, r, c, t, n, b, kp, ri, ci, ti)) hc0 hA0) (by decide) rfl rfl (fun _ => Nat.le_of_ble_eq_true rfl) dX4_best_43 (fun h43 => ?_) (fun h43 => ?_)
            · refine br_if_ne1 C dX4_best_46 (tgt := 58) (by decide) ?_
              refine br_bipushJ C (by decide) dX4_best_58 ?_
              exact br_iret C rfl dX4_best_60 (by
                  rw [show br_sBest (w, g, r, c, t, n, b, kp, ri, ci, ti) m k = (-103, (w, g, r, c, t, n, b, kp, ri, ci, ti)) from (if_neg (fun q => q ⟨by omega, by first | exact Or.inl h29 | exact Or.inr (by omega)⟩)).trans (if_pos (by first | exact Or.inl h43 | (exact Or.inr (by omega))))]
                  exact ⟨rfl, hc0, br_fc.rfl⟩)
            · refine br_if_ne0 C dX4_best_46 (tgt := 58) (by decide) ?_
              have hgn : ¬ g.1 = 0 := h43
              refine br_aload_n C dX4_best_49 rfl rfl ?_
              refine br_getI C fdX4_65 dX4_best_50 rfl rfl (by assumption) ?_
              refine br_bipushJ C (by decide) dX4_best_53 ?_
              refine br_icmp_ltJ C (by omega) (by omega) dX4_best_55 (tgt := 61) (by decide) (fun c55 => ?_) (fun c55 => ?_)
              · refine br_aload_n C dX4_best_61 rfl rfl ?_
                refine br_dup C dX4_best_62 rfl ?_
                refine br_getI C fdX4_65 dX4_best_63 rfl rfl (x := br_J b) hbb ?_
                refine br_iconstJ C dX4_best_66 ?_
                refine br_iaddJ C dX4_best_67 ?_
                refine br_putI C fdX4_65 dX4_best_68 rfl rfl rfl ?_
                refine br_iload_n C dX4_best_71 rfl rfl ?_
                refine br_aload_n C dX4_best_72 rfl rfl ?_
                refine br_getR C fdX4_19 dX4_best_73 rfl rfl ?_
                refine br_getI C fdX4_91 dX4_best_76 rfl rfl (by assumption) ?_
                refine br_icmp_leJ C (by omega) (by omega) dX4_best_79 (tgt := 84) (by decide) (fun c79 => ?_) (fun c79 => ?_)
                · refine br_aload_n C dX4_best_84 rfl rfl ?_
                  refine br_iload_n C dX4_best_85 rfl rfl ?_
                  have em : ((m.toNat : Nat) : Int) = m := by omega
                  have hg1p : br_GC (br_up σ 0 12 (br_J (b + 1))) g := hg.keep rfl rfl rfl rfl
                  have hff := c_X4_findFinest hg1p hgo (by omega) m.toNat (by omega)
                  rw [em] at hff
                  refine br_cv1 C vcX4_166 (hff) (by decide) rfl rfl (fun _ => Nat.le_of_ble_eq_true rfl) dX4_best_86 (fun v86 τ86 hv => ?_)
                  obtain ⟨rfl, hfin, hsm⟩ := hv
                  have hne := (br_bs_some hg7 (by omega) (show 1 ≤ m.toNat ∧ m.toNat ≤ 3 by omega)).1 (by omega)
                  obtain ⟨cf, hcf⟩ := Option.ne_none_iff_exists'.mp hne
                  rw [hcf] at hfin
                  have hfr : br_RC 13 τ86 (br_rw g.1 m.toNat cf) := hfin
                  have hds := (br_bs_dst g m.toNat _ cf hcf).1
                  have hok := br_Rok_rw (show 0 < g.1 by omega) (show m.toNat ≤ 5 by omega) hds
                  have hmb := br_mh_bnd hgo hok
                  have hbv : br_vBest g m k = (if k = 0 ∨ k = 1 then br_lo (br_mh g (br_rw g.1 m.toNat cf)) 100 k else if k - 10 < m then (br_dg g.1 m.toNat cf (k - 10).toNat : Nat) else -1) := by unfold br_vBest; rw [hcf]
                  have hcr : br_CR τ86 (w, g, r, c, t, n, b + 1, kp, ri, ci, ti) := br_CR.keep (σ := br_up σ 0 12 (br_J (b + 1))) ⟨⟨hw.keep rfl rfl, hg.keep rfl rfl rfl rfl, hr.keep rfl rfl, ht.keep rfl rfl rfl rfl⟩, ⟨hcc, hnn, rfl, hkp⟩, fun h => ⟨(him h).1.keep rfl rfl, (him h).2.1.keep rfl rfl rfl rfl, (him h).2.2⟩⟩ (fun p hp hq => hsm.1 p (by simp; omega))
                  have hfc : br_fc σ τ86 := (((br_sm.rfl (qs := [0])).up (by simp)).fc (by decide)).trans (hsm.fc (by decide))
                  refine br_iload_n C dX4_best_89 rfl rfl ?_
                  refine br_if_eqJ C (by omega) dX4_best_90 (tgt := 105) (by decide) (fun c => absurd c (by decide)) (fun _ => ?_)
                  refine br_aload_n C dX4_best_93 rfl rfl ?_
                  refine br_getR C fdX4_59 dX4_best_94 rfl rfl ?_
                  refine br_iload_n C dX4_best_97 rfl rfl ?_
                  refine br_bipushJ C (by decide) dX4_best_98 ?_
                  refine br_isubJ C dX4_best_100 ?_
                  have hpa := c_X2_pieceAt (q := 13) rfl rfl hfr (show m.toNat ≤ 5 by omega) (k - 10) (by omega)
                  refine br_cv1R C vcX4_138 (hpa) (by decide) rfl rfl (fun _ => Nat.le_of_ble_eq_true rfl) dX4_best_101 ?_
                  exact br_iret C rfl dX4_best_104 (by
                      rw [show br_sBest (w, g, r, c, t, n, b, kp, ri, ci, ti) m k = (br_vBest g m k, (w, g, r, c, t, n, b + 1, kp, ri, ci, ti)) from (if_neg (fun q => q ⟨by omega, by first | exact Or.inl h29 | exact Or.inr (by omega)⟩)).trans (if_neg (fun q => q.elim (fun e => h43 e) (fun e => absurd e (by omega))))]
                      rw [hbv, if_neg (by omega)]
                      refine ⟨?_, hcr, hfc⟩
                      unfold br_pO
                      by_cases q : k - 10 < m
                      · rw [if_pos q, if_pos (by show 0 ≤ k - 10 ∧ k - 10 < ((m.toNat : Nat) : Int); omega)]; rfl
                      · rw [if_neg q, if_neg (by show ¬ (0 ≤ k - 10 ∧ k - 10 < ((m.toNat : Nat) : Int)); omega)])
                · refine br_iconstJ C dX4_best_82 ?_
                  exact br_iret C rfl dX4_best_83 (by
                      rw [show br_sBest (w, g, r, c, t, n, b, kp, ri, ci, ti) m k = (-1, (w, g, r, c, t, n, b + 1, kp, ri, ci, ti)) from (if_neg (fun q => q ⟨by omega, by first | exact Or.inl h29 | exact Or.inr (by omega)⟩)).trans ((if_neg (fun q => q.elim (fun e => h43 e) (fun e => absurd e (by omega)))).trans (by rw [show br_vBest g m k = -1 by unfold br_vBest; rw [(br_bs_some hg7 (by omega) (show 1 ≤ m.toNat ∧ m.toNat ≤ 3 by omega)).2 (by omega)]]))]
                      exact ⟨rfl, ⟨⟨hw.keep rfl rfl, hg.keep rfl rfl rfl rfl, hr.keep rfl rfl, ht.keep rfl rfl rfl rfl⟩, ⟨hcc, hnn, rfl, hkp⟩, fun h => ⟨(him h).1.keep rfl rfl, (him h).2.1.keep rfl rfl rfl rfl, (him h).2.2⟩⟩, ((br_sm.rfl (qs := [0])).up (by simp)).fc (by decide)⟩)
              · refine br_bipushJ C (by decide) dX4_best_58 ?_
                exact br_iret C rfl dX4_best_60 (by
                    rw [show br_sBest (w, g, r, c, t, n, b, kp, ri, ci, ti) m k = (-103, (w, g, r, c, t, n, b, kp, ri, ci, ti)) from (if_neg (fun q => q ⟨by omega, by first | exact Or.inl h29 | exact Or.inr (by omega)⟩)).trans (if_pos (by first | exact Or.inl h43 | (exact Or.inr (by omega))))]
                    exact ⟨rfl, hc0, br_fc.rfl⟩)
          · refine br_if_ne0 C dX4_best_32 (tgt := 42) (by decide) ?_
            refine br_iload_n C dX4_best_35 rfl rfl ?_
            refine br_if_neJ C (by omega) dX4_best_36 (tgt := 42) (by decide) (fun _ => ?_) (fun c => absurd c (by decide))
            refine br_aload_n C dX4_best_42 rfl rfl ?_
            refine br_cv0B C vcX4_141 (c_X4_noGym (A := (w, g, r, c, t, n, b, kp, ri, ci, ti)) hc0 hA0) (by decide) rfl rfl (fun _ => Nat.le_of_ble_eq_true rfl) dX4_best_43 (fun h43 => ?_) (fun h43 => ?_)
            · refine br_if_ne1 C dX4_best_46 (tgt := 58) (by decide) ?_
              refine br_bipushJ C (by decide) dX4_best_58 ?_
              exact br_iret C rfl dX4_best_60 (by
                  rw [show br_sBest (w, g, r, c, t, n, b, kp, ri, ci, ti) m k = (-103, (w, g, r, c, t, n, b, kp, ri, ci, ti)) from (if_neg (fun q => q ⟨by omega, by first | exact Or.inl h29 | exact Or.inr (by omega)⟩)).trans (if_pos (by first | exact Or.inl h43 | (exact Or.inr (by omega))))]
                  exact ⟨rfl, hc0, br_fc.rfl⟩)
            · refine br_if_ne0 C dX4_best_46 (tgt := 58) (by decide) ?_
              have hgn : ¬ g.1 = 0 := h43
              refine br_aload_n C dX4_best_49 rfl rfl ?_
              refine br_getI C fdX4_65 dX4_best_50 rfl rfl (by assumption) ?_
              refine br_bipushJ C (by decide) dX4_best_53 ?_
              refine br_icmp_ltJ C (by omega) (by omega) dX4_best_55 (tgt := 61) (by decide) (fun c55 => ?_) (fun c55 => ?_)
              · refine br_aload_n C dX4_best_61 rfl rfl ?_
                refine br_dup C dX4_best_62 rfl ?_
                refine br_getI C fdX4_65 dX4_best_63 rfl rfl (x := br_J b) hbb ?_
                refine br_iconstJ C dX4_best_66 ?_
                refine br_iaddJ C dX4_best_67 ?_
                refine br_putI C fdX4_65 dX4_best_68 rfl rfl rfl ?_
                refine br_iload_n C dX4_best_71 rfl rfl ?_
                refine br_aload_n C dX4_best_72 rfl rfl ?_
                refine br_getR C fdX4_19 dX4_best_73 rfl rfl ?_
                refine br_getI C fdX4_91 dX4_best_76 rfl rfl (by assumption) ?_
                refine br_icmp_leJ C (by omega) (by omega) dX4_best_79 (tgt := 84) (by decide) (fun c79 => ?_) (fun c79 => ?_)
                · refine br_aload_n C dX4_best_84 rfl rfl ?_
                  refine br_iload_n C dX4_best_85 rfl rfl ?_
                  have em : ((m.toNat : Nat) : Int) = m := by omega
                  have hg1p : br_GC (br_up σ 0 12 (br_J (b + 1))) g := hg.keep rfl rfl rfl rfl
                  have hff := c_X4_findFinest hg1p hgo (by omega) m.toNat (by omega)
                  rw [em] at hff
                  refine br_cv1 C vcX4_166 (hff) (by decide) rfl rfl (fun _ => Nat.le_of_ble_eq_true rfl) dX4_best_86 (fun v86 τ86 hv => ?_)
                  obtain ⟨rfl, hfin, hsm⟩ := hv
                  have hne := (br_bs_some hg7 (by omega) (show 1 ≤ m.toNat ∧ m.toNat ≤ 3 by omega)).1 (by omega)
                  obtain ⟨cf, hcf⟩ := Option.ne_none_iff_exists'.mp hne
                  rw [hcf] at hfin
                  have hfr : br_RC 13 τ86 (br_rw g.1 m.toNat cf) := hfin
                  have hds := (br_bs_dst g m.toNat _ cf hcf).1
                  have hok := br_Rok_rw (show 0 < g.1 by omega) (show m.toNat ≤ 5 by omega) hds
                  have hmb := br_mh_bnd hgo hok
                  have hbv : br_vBest g m k = (if k = 0 ∨ k = 1 then br_lo (br_mh g (br_rw g.1 m.toNat cf)) 100 k else if k - 10 < m then (br_dg g.1 m.toNat cf (k - 10).toNat : Nat) else -1) := by unfold br_vBest; rw [hcf]
                  have hcr : br_CR τ86 (w, g, r, c, t, n, b + 1, kp, ri, ci, ti) := br_CR.keep (σ := br_up σ 0 12 (br_J (b + 1))) ⟨⟨hw.keep rfl rfl, hg.keep rfl rfl rfl rfl, hr.keep rfl rfl, ht.keep rfl rfl rfl rfl⟩, ⟨hcc, hnn, rfl, hkp⟩, fun h => ⟨(him h).1.keep rfl rfl, (him h).2.1.keep rfl rfl rfl rfl, (him h).2.2⟩⟩ (fun p hp hq => hsm.1 p (by simp; omega))
                  have hfc : br_fc σ τ86 := (((br_sm.rfl (qs := [0])).up (by simp)).fc (by decide)).trans (hsm.fc (by decide))
                  refine br_iload_n C dX4_best_89 rfl rfl ?_
                  refine br_if_eqJ C (by omega) dX4_best_90 (tgt := 105) (by decide) (fun c => absurd c (by decide)) (fun _ => ?_)
                  refine br_aload_n C dX4_best_93 rfl rfl ?_
                  refine br_getR C fdX4_59 dX4_best_94 rfl rfl ?_
                  refine br_iload_n C dX4_best_97 rfl rfl ?_
                  refine br_bipushJ C (by decide) dX4_best_98 ?_
                  refine br_isubJ C dX4_best_100 ?_
                  have hpa := c_X2_pieceAt (q := 13) rfl rfl hfr (show m.toNat ≤ 5 by omega) (k - 10) (by omega)
                  refine br_cv1R C vcX4_138 (hpa) (by decide) rfl rfl (fun _ => Nat.le_of_ble_eq_true rfl) dX4_best_101 ?_
                  exact br_iret C rfl dX4_best_104 (by
                      rw [show br_sBest (w, g, r, c, t, n, b, kp, ri, ci, ti) m k = (br_vBest g m k, (w, g, r, c, t, n, b + 1, kp, ri, ci, ti)) from (if_neg (fun q => q ⟨by omega, by first | exact Or.inl h29 | exact Or.inr (by omega)⟩)).trans (if_neg (fun q => q.elim (fun e => h43 e) (fun e => absurd e (by omega))))]
                      rw [hbv, if_neg (by omega)]
                      refine ⟨?_, hcr, hfc⟩
                      unfold br_pO
                      by_cases q : k - 10 < m
                      · rw [if_pos q, if_pos (by show 0 ≤ k - 10 ∧ k - 10 < ((m.toNat : Nat) : Int); omega)]; rfl
                      · rw [if_neg q, if_neg (by show ¬ (0 ≤ k - 10 ∧ k - 10 < ((m.toNat : Nat) : Int)); omega)])
                · refine br_iconstJ C dX4_best_82 ?_
                  exact br_iret C rfl dX4_best_83 (by
                      rw [show br_sBest (w, g, r, c, t, n, b, kp, ri, ci, ti) m k = (-1, (w, g, r, c, t, n, b + 1, kp, ri, ci, ti)) from (if_neg (fun q => q ⟨by omega, by first | exact Or.inl h29 | exact Or.inr (by omega)⟩)).trans ((if_neg (fun q => q.elim (fun e => h43 e) (fun e => absurd e (by omega)))).trans (by rw [show br_vBest g m k = -1 by unfold br_vBest; rw [(br_bs_some hg7 (by omega) (show 1 ≤ m.toNat ∧ m.toNat ≤ 3 by omega)).2 (by omega)]]))]
                      exact ⟨rfl, ⟨⟨hw.keep rfl rfl, hg.keep rfl rfl rfl rfl, hr.keep rfl rfl, ht.keep rfl rfl rfl rfl⟩, ⟨hcc, hnn, rfl, hkp⟩, fun h => ⟨(him h).1.keep rfl rfl, (him h).2.1.keep rfl rfl rfl rfl, (him h).2.2⟩⟩, ((br_sm.rfl (qs := [0])).up (by simp)).fc (by decide)⟩)
              · refine br_bipushJ C (by decide) dX4_best_58 ?_
                exact br_iret C rfl dX4_best_60 (by
                    rw [show br_sBest (w, g, r, c, t, n, b, kp, ri, ci, ti) m k = (-103, (w, g, r, c, t, n, b, kp, ri, ci, ti)) from (if_neg (fun q => q ⟨by omega, by first | exact Or.inl h29 | exact Or.inr (by omega)⟩)).trans (if_pos (by first | exact Or.inl h43 | (exact Or.inr (by omega))))]
                    exact ⟨rfl, hc0, br_fc.rfl⟩)

set_option maxHeartbeats 4000000 in
set_option maxRecDepth 100000 in
theorem c_X4_nextSeed {σ : br_Wd} (s : Int) (hs : 0 ≤ s ∧ s < 2147483648) : br_Met 0 mX4_nextSeed [br_i (br_J s)] σ (br_R (br_J (br_nx s)) σ) := by
  refine br_ofW (by decide) 0 rfl (fun G C => ?_)
  refine br_ldc2K C klX4_218 (z := 1103515245) (by decide) dX4_nextSeed_0 ?_
  refine br_iload_n C dX4_nextSeed_3 rfl rfl ?_
  refine br_i2lK C (by omega) dX4_nextSeed_4 ?_
  refine br_lmulK C dX4_nextSeed_5 ?_
  refine br_ldc2K C klX4_220 (z := 12345) (by decide) dX4_nextSeed_6 ?_
  refine br_laddK C dX4_nextSeed_9 ?_
  refine br_ldc2K C klX4_222 (z := 2147483648) (by decide) dX4_nextSeed_10 ?_
  refine br_lremK C (by omega) (by omega) dX4_nextSeed_13 ?_
  refine br_l2iK C dX4_nextSeed_14 ?_
  exact br_iret C rfl dX4_nextSeed_15 ⟨rfl, rfl⟩

set_option maxHeartbeats 4000000 in
set_option maxRecDepth 100000 in
theorem c_X4_drawOfTen {σ : br_Wd} (s : Int) (hs : 0 ≤ s ∧ s < 2147483648) : br_Met 0 mX4_drawOfTen [br_i (br_J s)] σ (br_R (br_J (br_dw s)) σ) := by
  refine br_ofW (by decide) 0 rfl (fun G C => ?_)
  refine br_iload_n C dX4_drawOfTen_0 rfl rfl ?_
  refine br_ldcJ C kiX4_224 (z := 65536) (by decide) dX4_drawOfTen_1 ?_
  refine br_idivJ C (by omega) (by omega) dX4_drawOfTen_3 ?_
  refine br_bipushJ C (by decide) dX4_drawOfTen_4 ?_
  refine br_iremJ C (by omega) (by omega) dX4_drawOfTen_6 ?_
  exact br_iret C rfl dX4_drawOfTen_7 ⟨rfl, rfl⟩

set_option maxHeartbeats 4000000 in
set_option maxRecDepth 100000 in
theorem c_X4_meets {σ : br_Wd} {A : br_A} (hc : br_CR σ A) (hA : br_Aok A) (n0 : Int) (hbn0 : -2147483648 ≤ n0 ∧ n0 < 2147483648) (s : Int) (hbs : -2147483648 ≤ s ∧ s < 2147483648) (k : Int) (hbk : -2147483648 ≤ k ∧ k < 2147483648) : br_Met 5 mX4_meets [br_r 0, br_i (br_J n0), br_i (br_J s), br_i (br_J k)] σ (br_R (br_J (br_vMeets A n0 s k)) σ) := by
  obtain ⟨w, g, r, c, t, n, b, kp, ri, ci, ti⟩ := A
  have hc0 := hc
  have hA0 := hA
  obtain ⟨⟨hw, hg, hr, ht⟩, ⟨hcc, hnn, hbb, hkp⟩, him⟩ := hc
  obtain ⟨⟨hwo, hgo, hro, hto⟩, ⟨hb30, hn512⟩, hio⟩ := hA
  have hw1 := hw.1
  have hg1 := hg.1
  have hr1 := hr.1
  have ht1 := ht.1
  have hw30 := hwo.1
  have hg7 := hgo.1
  have h5r := hro.1
  have h8t := hto.1
  have hk4 := fun (j : Nat) (hj : j < g.1) => (hgo.2 j hj).1
  have hrb := fun (j : Nat) (hj : j < r.1) => (show r.2 j < 7 by have := hro.2.1 j hj; omega)
  refine br_ofW (by decide) 6 rfl (fun G C => ?_)
  have inner : ∀ (s2 : Int) (a1 a2 : Int) (j : Nat), (0 ≤ s2 ∧ s2 < 2147483648) → (∀ (q : Nat × Int) (x : Option br_V), q = br_in g r s2 r.1 → G 114 [some (br_r 0), some (br_i (br_J n0)), some (br_i (br_J s)), some (br_i (br_J k)), some (br_i (br_J a1)), some (br_i (br_J a2)), some (br_i (br_J q.2)), some (br_i (br_J j)), some (br_i (br_J q.1)), x] [] σ) → ∀ (m i : Nat) (q : Nat × Int), i + m = r.1 → q = br_in g r s2 i → G 63 [some (br_r 0), some (br_i (br_J n0)), some (br_i (br_J s)), some (br_i (br_J k)), some (br_i (br_J a1)), some (br_i (br_J a2)), some (br_i (br_J q.2)), some (br_i (br_J j)), some (br_i (br_J q.1)), some (br_i (br_J i))] [] σ := by
    intro s2 a1 a2 j hsb hout m
    induction m with
    | zero =>
      intro i q him2 hb2
      refine br_iload C dX4_meets_63 rfl ?_
      refine br_aload_n C dX4_meets_65 rfl rfl ?_
      refine br_getR C fdX4_28 dX4_meets_66 rfl rfl ?_
      refine br_getI C fdX4_87 dX4_meets_69 rfl rfl (by assumption) ?_
      refine br_icmp_geJ C (by omega) (by omega) dX4_meets_72 (tgt := 114) (by decide) (fun c72 => ?_) (fun c72 => ?_)
      · exact hout q _ (by rw [hb2, show i = r.1 by omega])
      · omega
    | succ m ih =>
      intro i q him2 hb2
      refine br_iload C dX4_meets_63 rfl ?_
      refine br_aload_n C dX4_meets_65 rfl rfl ?_
      refine br_getR C fdX4_28 dX4_meets_66 rfl rfl ?_
      refine br_getI C fdX4_87 dX4_meets_69 rfl rfl (by assumption) ?_
      refine br_icmp_geJ C (by omega) (by omega) dX4_meets_72 (tgt := 114) (by decide) (fun c72 => ?_) (fun c72 => ?_)
      · omega
      · have hinb := br_in_bnd g r hsb i
        rw [← hb2] at hinb
        have hf2 : q.1 < 2 ^ i := hinb.1
        have hnx := br_nx_bnd q.2
        have hdw : 0 ≤ br_dw (br_nx q.2) ∧ br_dw (br_nx q.2) < 10 := by unfold br_dw; omega
        have hcb := br_cr_bnd hgo hro i
        refine br_iload C dX4_meets_75 rfl ?_
        refine br_cs1R C scX4_176 (c_X4_nextSeed _ (by omega)) (by decide) (fun _ => Nat.le_of_ble_eq_true rfl) dX4_meets_77 ?_
        refine br_istore C dX4_meets_80 (by decide) rfl (L' := [_, _, _, _, _, _, _, _, _, _]) rfl ?_
        refine br_iload C dX4_meets_82 rfl ?_
        refine br_cs1R C scX4_179 (c_X4_drawOfTen _ hnx) (by decide) (fun _ => Nat.le_of_ble_eq_true rfl) dX4_meets_84 ?_
        refine br_aload_n C dX4_meets_87 rfl rfl ?_
        refine br_getR C fdX4_28 dX4_meets_88 rfl rfl ?_
        refine br_iload C dX4_meets_91 rfl ?_
        refine br_cv1R C vcX4_112 (c_X2_chanceAt (q := 7) rfl rfl hg hgo hr hro i (by omega)) (by decide) rfl rfl (fun _ => Nat.le_of_ble_eq_true rfl) dX4_meets_93 ?_
        refine br_icmp_ltJ C (by omega) (by omega) dX4_meets_96 (tgt := 108) (by decide) (fun c96 => ?_) (fun c96 => ?_)
        · refine br_iincJ C dX4_meets_108 rfl (by decide) rfl (L' := [_, _, _, _, _, _, _, _, _, _]) rfl ?_
          refine br_goto C dX4_meets_111 (tgt := 63) (by decide) ?_
          refine ih (i + 1) (_, _) (by omega) (show (_, _) = (if br_dw (br_nx (br_in g r s2 i).2) < br_cr g r i then (br_in g r s2 i).1 else (br_in g r s2 i).1 + 2 ^ i, br_nx (br_in g r s2 i).2) from ?_)
          rw [← hb2]
          first | (rw [if_pos c96]; done) | (rw [if_pos c96]; rfl) | (rw [if_neg (by omega)]; done) | (rw [if_neg (by omega)]; rfl)
        · refine br_iload C dX4_meets_99 rfl ?_
          refine br_iconstJ C dX4_meets_101 ?_
          refine br_iload C dX4_meets_102 rfl ?_
          refine br_ishlE C (br_shl1 (by omega)) dX4_meets_104 ?_
          refine br_iorE C (br_or2 (show i < 5 by omega) hf2) dX4_meets_105 ?_
          refine br_istore C dX4_meets_106 (by decide) rfl (L' := [_, _, _, _, _, _, _, _, _, _]) rfl ?_
          refine br_iincJ C dX4_meets_108 rfl (by decide) rfl (L' := [_, _, _, _, _, _, _, _, _, _]) rfl ?_
          refine br_goto C dX4_meets_111 (tgt := 63) (by decide) ?_
          refine ih (i + 1) (_, _) (by omega) (show (_, _) = (if br_dw (br_nx (br_in g r s2 i).2) < br_cr g r i then (br_in g r s2 i).1 else (br_in g r s2 i).1 + 2 ^ i, br_nx (br_in g r s2 i).2) from ?_)
          rw [← hb2]
          first | (rw [if_pos c96]; done) | (rw [if_pos c96]; rfl) | (rw [if_neg (by omega)]; done) | (rw [if_neg (by omega)]; rfl)
  have outer : (1 ≤ n0 ∧ n0 ≤ 60) → 0 ≤ s → (0 ≤ k ∧ k ≤ 2) → ¬ g.1 = 0 → ∀ (m j : Nat) (a : Int × Int × Int) (x y : Option br_V), j + m = n0.toNat → a = br_me g r s j → G 51 [some (br_r 0), some (br_i (br_J n0)), some (br_i (br_J s)), some (br_i (br_J k)), some (br_i (br_J a.1)), some (br_i (br_J a.2.1)), some (br_i (br_J a.2.2)), some (br_i (br_J j)), x, y] [] σ := by
    intro hn0 hs0 hk0 h28 m
    induction m with
    | zero =>
      intro j a x y hjm ha
      refine br_iload C dX4_meets_51 rfl ?_
      refine br_iload_n C dX4_meets_53 rfl rfl ?_
      refine br_icmp_geJ C (by omega) (by omega) dX4_meets_54 (tgt := 149) (by decide) (fun c54 => ?_) (fun c54 => ?_)
      · refine br_iload_n C dX4_meets_149 rfl rfl ?_
        refine br_if_neJ C (by omega) dX4_meets_150 (tgt := 156) (by decide) (fun c150 => ?_) (fun c150 => ?_)
        · refine br_iload_n C dX4_meets_156 rfl rfl ?_
          refine br_iconstJ C dX4_meets_157 ?_
          refine br_icmp_neJ C (by omega) (by omega) dX4_meets_158 (tgt := 166) (by decide) (fun c158 => ?_) (fun c158 => ?_)
          · refine br_iload C dX4_meets_166 rfl ?_
            exact br_iret C rfl dX4_meets_168 ⟨congrArg (fun x => some (br_i (br_J x))) (show _ = br_vMeets (w, g, r, c, t, n, b, kp, ri, ci, ti) n0 s k from by
                first
                | (rw [show a.2.1 = (br_me g r s n0.toNat).2.1 by rw [ha, show j = n0.toNat by omega]]; exact ((if_neg (by omega)).trans ((if_neg h28).trans ((if_neg (by omega)).trans (if_pos (by omega))))).symm)
                | (rw [show a.2.2 = (br_me g r s n0.toNat).2.2 by rw [ha, show j = n0.toNat by omega]]; exact ((if_neg (by omega)).trans ((if_neg h28).trans ((if_neg (by omega)).trans (if_neg (by omega))))).symm)), rfl⟩
          · refine br_iload C dX4_meets_161 rfl ?_
            refine br_goto C dX4_meets_163 (tgt := 168) (by decide) ?_
            exact br_iret C rfl dX4_meets_168 ⟨congrArg (fun x => some (br_i (br_J x))) (show _ = br_vMeets (w, g, r, c, t, n, b, kp, ri, ci, ti) n0 s k from by
                first
                | (rw [show a.2.1 = (br_me g r s n0.toNat).2.1 by rw [ha, show j = n0.toNat by omega]]; exact ((if_neg (by omega)).trans ((if_neg h28).trans ((if_neg (by omega)).trans (if_pos (by omega))))).symm)
                | (rw [show a.2.2 = (br_me g r s n0.toNat).2.2 by rw [ha, show j = n0.toNat by omega]]; exact ((if_neg (by omega)).trans ((if_neg h28).trans ((if_neg (by omega)).trans (if_neg (by omega))))).symm)), rfl⟩
        · refine br_iload C dX4_meets_153 rfl ?_
          exact br_iret C rfl dX4_meets_155 ⟨congrArg (fun x => some (br_i (br_J x))) (show a.1 = br_vMeets (w, g, r, c, t, n, b, kp, ri, ci, ti) n0 s k from by rw [ha, show j = n0.toNat by omega]; exact ((if_neg (by omega)).trans ((if_neg h28).trans (if_pos (by omega)))).symm), rfl⟩
      · omega
    | succ m ih =>
      intro j a x y hjm ha
      have hsb : 0 ≤ a.2.2 ∧ a.2.2 < 2147483648 := by rw [ha]; exact br_me_bnd g r (by omega) j
      refine br_iload C dX4_meets_51 rfl ?_
      refine br_iload_n C dX4_meets_53 rfl rfl ?_
      refine br_icmp_geJ C (by omega) (by omega) dX4_meets_54 (tgt := 149) (by decide) (fun c54 => ?_) (fun c54 => ?_)
      · omega
      · refine br_iconstJ C dX4_meets_57 ?_
        refine br_istore C dX4_meets_58 (by decide) rfl (L' := [_, _, _, _, _, _, _, _, _, _]) rfl ?_
        refine br_iconstJ C dX4_meets_60 ?_
        refine br_istore C dX4_meets_61 (by decide) rfl (L' := [_, _, _, _, _, _, _, _, _, _]) rfl ?_
        refine inner a.2.2 a.1 a.2.1 j hsb (fun q x2 hb3 => ?_) r.1 0 (0, a.2.2) (by omega) rfl
        have hinb := br_in_bnd g r hsb r.1
        rw [← hb3] at hinb
        have h32 : q.1 < 32 := Nat.lt_of_lt_of_le hinb.1 (br_pow2 h5r).2
        refine br_iload C dX4_meets_114 rfl ?_
        refine br_iload C dX4_meets_116 rfl ?_
        refine br_if_neJ C (by omega) dX4_meets_118 (tgt := 125) (by decide) (fun c118 => ?_) (fun c118 => ?_)
        · refine br_iconstJ C dX4_meets_125 ?_
          refine br_iaddJ C dX4_meets_126 ?_
          refine br_istore C dX4_meets_127 (by decide) rfl (L' := [_, _, _, _, _, _, _, _, _, _]) rfl ?_
          refine br_iload C dX4_meets_129 rfl ?_
          refine br_aload_n C dX4_meets_131 rfl rfl ?_
          refine br_getR C fdX4_28 dX4_meets_132 rfl rfl ?_
          refine br_iload C dX4_meets_135 rfl ?_
          refine br_cv1R C vcX4_144 (c_X2_points (q := 7) rfl rfl hg hgo hr hro q.1 h32) (by decide) rfl rfl (fun _ => Nat.le_of_ble_eq_true rfl) dX4_meets_137 ?_
          refine br_iaddJ C dX4_meets_140 ?_
          refine br_istore C dX4_meets_141 (by decide) rfl (L' := [_, _, _, _, _, _, _, _, _, _]) rfl ?_
          refine br_iincJ C dX4_meets_143 rfl (by decide) rfl (L' := [_, _, _, _, _, _, _, _, _, _]) rfl ?_
          refine br_goto C dX4_meets_146 (tgt := 51) (by decide) ?_
          refine ih (j + 1) (_, _, _) _ _ (by omega) (show (_, _, _) = ((br_me g r s j).1 + (if (br_in g r (br_me g r s j).2.2 r.1).1 = 0 then 1 else 0), (br_me g r s j).2.1 + br_pt g r (br_in g r (br_me g r s j).2.2 r.1).1, (br_in g r (br_me g r s j).2.2 r.1).2) from ?_)
          rw [← ha, ← hb3]
          first | (rw [if_pos (by omega)]; done) | (rw [if_pos (by omega)]; rfl) | (rw [if_neg (by omega)]; done) | (rw [if_neg (by omega)]; rfl)
        · refine br_iconstJ C dX4_meets_121 ?_
          refine br_goto C dX4_meets_122 (tgt := 126) (by decide) ?_
          refine br_iaddJ C dX4_meets_126 ?_
          refine br_istore C dX4_meets_127 (by decide) rfl (L' := [_, _, _, _, _, _, _, _, _, _]) rfl ?_
          refine br_iload C dX4_meets_129 rfl ?_
          refine br_aload_n C dX4_meets_131 rfl rfl ?_
          refine br_getR C fdX4_28 dX4_meets_132 rfl rfl ?_
          refine br_iload C dX4_meets_135 rfl ?_
          refine br_cv1R C vcX4_144 (c_X2_points (q := 7) rfl rfl hg hgo hr hro q.1 h32) (by decide) rfl rfl (fun _ => Nat.le_of_ble_eq_true rfl) dX4_meets_137 ?_
          refine br_iaddJ C dX4_meets_140 ?_
          refine br_istore C dX4_meets_141 (by decide) rfl (L' := [_, _, _, _, _, _, _, _, _, _]) rfl ?_
          refine br_iincJ C dX4_meets_143 rfl (by decide) rfl (L' := [_, _, _, _, _, _, _, _, _, _]) rfl ?_
          refine br_goto C dX4_meets_146 (tgt := 51) (by decide) ?_
          refine ih (j + 1) (_, _, _) _ _ (by omega) (show (_, _, _) = ((br_me g r s j).1 + (if (br_in g r (br_me g r s j).2.2 r.1).1 = 0 then 1 else 0), (br_me g r s j).2.1 + br_pt g r (br_in g r (br_me g r s j).2.2 r.1).1, (br_in g r (br_me g r s j).2.2 r.1).2) from ?_)
          rw [← ha, ← hb3]
          first | (rw [if_pos (by omega)]; done) | (rw [if_pos (by omega)]; rfl) | (rw [if_neg (by omega)]; done) | (rw [if_neg (by omega)]; rfl)
  refine br_iload_n C dX4_meets_0 rfl rfl ?_
  refine br_iconstJ C dX4_meets_1 ?_
  refine br_icmp_ltJ C (by omega) (by omega) dX4_meets_2 (tgt := 24) (by decide) (fun c2 => ?_) (fun c2 => ?_)
  · refine br_bipushJ C (by decide) dX4_meets_24 ?_
    exact br_iret C rfl dX4_meets_26 ⟨congrArg (fun x => some (br_i (br_J x))) (show _ = br_vMeets (w, g, r, c, t, n, b, kp, ri, ci, ti) n0 s k from (if_pos (by omega)).symm), rfl⟩
  · refine br_iload_n C dX4_meets_5 rfl rfl ?_
    refine br_bipushJ C (by decide) dX4_meets_6 ?_
    refine br_icmp_gtJ C (by omega) (by omega) dX4_meets_8 (tgt := 24) (by decide) (fun c8 => ?_) (fun c8 => ?_)
    · refine br_bipushJ C (by decide) dX4_meets_24 ?_
      exact br_iret C rfl dX4_meets_26 ⟨congrArg (fun x => some (br_i (br_J x))) (show _ = br_vMeets (w, g, r, c, t, n, b, kp, ri, ci, ti) n0 s k from (if_pos (by omega)).symm), rfl⟩
    · refine br_iload_n C dX4_meets_11 rfl rfl ?_
      refine br_if_ltJ C (by omega) dX4_meets_12 (tgt := 24) (by decide) (fun c12 => ?_) (fun c12 => ?_)
      · refine br_bipushJ C (by decide) dX4_meets_24 ?_
        exact br_iret C rfl dX4_meets_26 ⟨congrArg (fun x => some (br_i (br_J x))) (show _ = br_vMeets (w, g, r, c, t, n, b, kp, ri, ci, ti) n0 s k from (if_pos (by omega)).symm), rfl⟩
      · refine br_iload_n C dX4_meets_15 rfl rfl ?_
        refine br_if_ltJ C (by omega) dX4_meets_16 (tgt := 24) (by decide) (fun c16 => ?_) (fun c16 => ?_)
        · refine br_bipushJ C (by decide) dX4_meets_24 ?_
          exact br_iret C rfl dX4_meets_26 ⟨congrArg (fun x => some (br_i (br_J x))) (show _ = br_vMeets (w, g, r, c, t, n, b, kp, ri, ci, ti) n0 s k from (if_pos (by omega)).symm), rfl⟩
        · refine br_iload_n C dX4_meets_19 rfl rfl ?_
          refine br_iconstJ C dX4_meets_20 ?_
          refine br_icmp_leJ C (by omega) (by omega) dX4_meets_21 (tgt := 27) (by decide) (fun c21 => ?_) (fun c21 => ?_)
          · refine br_aload_n C dX4_meets_27 rfl rfl ?_
            refine br_cv0B C vcX4_141 (c_X4_noGym (A := (w, g, r, c, t, n, b, kp, ri, ci, ti)) hc0 hA0) (by decide) rfl rfl (fun _ => Nat.le_of_ble_eq_true rfl) dX4_meets_28 (fun h28 => ?_) (fun h28 => ?_)
            · refine br_if_eq1 C dX4_meets_31 (tgt := 37) (by decide) ?_
              refine br_bipushJ C (by decide) dX4_meets_34 ?_
              exact br_iret C rfl dX4_meets_36 ⟨congrArg (fun x => some (br_i (br_J x))) (show _ = br_vMeets (w, g, r, c, t, n, b, kp, ri, ci, ti) n0 s k from ((if_neg (by omega)).trans (if_pos h28)).symm), rfl⟩
            · refine br_if_eq0 C dX4_meets_31 (tgt := 37) (by decide) ?_
              refine br_iconstJ C dX4_meets_37 ?_
              refine br_istore C dX4_meets_38 (by decide) rfl (L' := [_, _, _, _, _, _, _, _, _, _]) rfl ?_
              refine br_sipushJ C (by decide) dX4_meets_40 ?_
              refine br_istore C dX4_meets_43 (by decide) rfl (L' := [_, _, _, _, _, _, _, _, _, _]) rfl ?_
              refine br_iload_n C dX4_meets_45 rfl rfl ?_
              refine br_istore C dX4_meets_46 (by decide) rfl (L' := [_, _, _, _, _, _, _, _, _, _]) rfl ?_
              refine br_iconstJ C dX4_meets_48 ?_
              refine br_istore C dX4_meets_49 (by decide) rfl (L' := [_, _, _, _, _, _, _, _, _, _]) rfl ?_
              exact outer (by omega) (by omega) (by omega) h28 n0.toNat 0 (0, 20000, s) _ _ (by omega) rfl
          · refine br_bipushJ C (by decide) dX4_meets_24 ?_
            exact br_iret C rfl dX4_meets_26 ⟨congrArg (fun x => some (br_i (br_J x))) (show _ = br_vMeets (w, g, r, c, t, n, b, kp, ri, ci, ti) n0 s k from (if_pos (by omega)).symm), rfl⟩

set_option maxHeartbeats 4000000 in
set_option maxRecDepth 100000 in
theorem c_X4_mixed {σ : br_Wd} (h x : Int64) : br_Met 0 mX4_mixed [br_l h, br_l x] σ (br_RL (br_K 31 * h + x) σ) := by
  refine br_ofW (by decide) 0 rfl (fun G C => ?_)
  refine br_ldc2K C klX4_216 (z := 31) (by decide) dX4_mixed_0 ?_
  refine br_lload_n C dX4_mixed_3 rfl rfl ?_
  refine br_lmul C dX4_mixed_4 ?_
  refine br_lload_n C dX4_mixed_5 rfl rfl ?_
  refine br_ladd C dX4_mixed_6 ?_
  exact br_lret C rfl dX4_mixed_7 ⟨rfl, rfl⟩

set_option maxHeartbeats 4000000 in
set_option maxRecDepth 100000 in
theorem c_X4_digest {σ : br_Wd} {A : br_A} (hc : br_CR σ A) (hA : br_Aok A) : br_Met 6 mX4_digest [br_r 0] σ (br_RL (br_vDigest A) σ) := by
  obtain ⟨w, g, r, c, t, n, b, kp, ri, ci, ti⟩ := A
  have hc0 := hc
  have hA0 := hA
  obtain ⟨⟨hw, hg, hr, ht⟩, ⟨hcc, hnn, hbb, hkp⟩, him⟩ := hc
  obtain ⟨⟨hwo, hgo, hro, hto⟩, ⟨hb30, hn512⟩, hio⟩ := hA
  have hw1 := hw.1
  have hg1 := hg.1
  have hr1 := hr.1
  have ht1 := ht.1
  have hw30 := hwo.1
  have hg7 := hgo.1
  have h5r := hro.1
  have h8t := hto.1
  have hk4 := fun (j : Nat) (hj : j < g.1) => (hgo.2 j hj).1
  have hrb := fun (j : Nat) (hj : j < r.1) => (show r.2 j < 7 by have := hro.2.1 j hj; omega)
  refine br_ofW (by decide) 4 rfl (fun G C => ?_)
  have hA1 := hA0
  have l5 : ∀ (m k : Nat) (h : Int64) (x : Option br_V), k + m = 10 → h = br_fold (fun k => br_J (br_vCount (w, g, r, c, t, n, b, kp, ri, ci, ti) k)) (br_d4 (w, g, r, c, t, n, b, kp, ri, ci, ti)) k → G 186 [some (br_r 0), some (br_l h), none, some (br_i (br_J k)), x] [] σ := by
    intro m
    induction m with
    | zero =>
      intro k h x hkm hh
      refine br_iload_n C dX4_digest_186 rfl rfl ?_
      refine br_bipushJ C (by decide) dX4_digest_187 ?_
      refine br_icmp_gtJ C (by omega) (by omega) dX4_digest_189 (tgt := 209) (by decide) (fun c189 => ?_) (fun c189 => ?_)
      · refine br_lload_n C dX4_digest_209 rfl rfl ?_
        exact br_lret C rfl dX4_digest_210 ⟨by rw [hh, show k = 10 by omega]; rfl, rfl⟩
      · omega
    | succ m ih =>
      intro k h x hkm hh
      refine br_iload_n C dX4_digest_186 rfl rfl ?_
      refine br_bipushJ C (by decide) dX4_digest_187 ?_
      refine br_icmp_gtJ C (by omega) (by omega) dX4_digest_189 (tgt := 209) (by decide) (fun c189 => ?_) (fun c189 => ?_)
      · omega
      · refine br_lload_n C dX4_digest_192 rfl rfl ?_
        refine br_aload_n C dX4_digest_193 rfl rfl ?_
        refine br_iload_n C dX4_digest_194 rfl rfl ?_
        refine br_cv1R C vcX4_213 (c_X4_count (A := (w, g, r, c, t, n, b, kp, ri, ci, ti)) hc0 hA0 k (by omega)) (by decide) rfl rfl (fun _ => Nat.le_of_ble_eq_true rfl) dX4_digest_195 ?_
        refine br_i2l C  dX4_digest_198 ?_
        refine br_cs2L C scX4_197 (c_X4_mixed _ _) (by decide) (fun _ => Nat.le_of_ble_eq_true rfl) dX4_digest_199 ?_
        refine br_lstore_n C dX4_digest_202 rfl (by decide) rfl (L' := [_, _, _, _, _]) rfl ?_
        refine br_iincJ C dX4_digest_203 rfl (by decide) rfl (L' := [_, _, _, _, _]) rfl ?_
        refine br_goto C dX4_digest_206 (tgt := 186) (by decide) ?_
        exact ih (k + 1) _ _ (by omega) (by rw [hh]; rfl)
  have l4 : (∀ x y : Option br_V, G 184 [some (br_r 0), some (br_l (br_fold (fun k => br_J (w.2 k)) (br_d3 (w, g, r, c, t, n, b, kp, ri, ci, ti)) w.1)), none, y, x] [] σ) → ∀ (m k : Nat) (h : Int64) (x : Option br_V), k + m = w.1 → h = br_fold (fun k => br_J (w.2 k)) (br_d3 (w, g, r, c, t, n, b, kp, ri, ci, ti)) k → G 153 [some (br_r 0), some (br_l h), none, some (br_i (br_J k)), x] [] σ := by
    intro hout m
    induction m with
    | zero =>
      intro k h x hkm hh
      refine br_iload_n C dX4_digest_153 rfl rfl ?_
      refine br_aload_n C dX4_digest_154 rfl rfl ?_
      refine br_getR C fdX4_12 dX4_digest_155 rfl rfl ?_
      refine br_getI C fdX4_68 dX4_digest_158 rfl rfl (by assumption) ?_
      refine br_icmp_geJ C (by omega) (by omega) dX4_digest_161 (tgt := 184) (by decide) (fun c161 => ?_) (fun c161 => ?_)
      · rw [hh, show k = w.1 by omega]
        exact hout _ _
      · omega
    | succ m ih =>
      intro k h x hkm hh
      refine br_iload_n C dX4_digest_153 rfl rfl ?_
      refine br_aload_n C dX4_digest_154 rfl rfl ?_
      refine br_getR C fdX4_12 dX4_digest_155 rfl rfl ?_
      refine br_getI C fdX4_68 dX4_digest_158 rfl rfl (by assumption) ?_
      refine br_icmp_geJ C (by omega) (by omega) dX4_digest_161 (tgt := 184) (by decide) (fun c161 => ?_) (fun c161 => ?_)
      · omega
      · refine br_lload_n C dX4_digest_164 rfl rfl ?_
        refine br_aload_n C dX4_digest_165 rfl rfl ?_
        refine br_getR C fdX4_12 dX4_digest_166 rfl rfl ?_
        refine br_iload_n C dX4_digest_169 rfl rfl ?_
        have hca := c_X1_codeAt hw hw30 (k : Nat) (by omega) (by omega)
        rw [show ((k : Nat) : Int).toNat = k by omega] at hca
        refine br_cv1R C vcX4_210 (hca) (by decide) rfl rfl (fun _ => Nat.le_of_ble_eq_true rfl) dX4_digest_170 ?_
        refine br_i2l C  dX4_digest_173 ?_
        refine br_cs2L C scX4_197 (c_X4_mixed _ _) (by decide) (fun _ => Nat.le_of_ble_eq_true rfl) dX4_digest_174 ?_
        refine br_lstore_n C dX4_digest_177 rfl (by decide) rfl (L' := [_, _, _, _, _]) rfl ?_
        refine br_iincJ C dX4_digest_178 rfl (by decide) rfl (L' := [_, _, _, _, _]) rfl ?_
        refine br_goto C dX4_digest_181 (tgt := 153) (by decide) ?_
        exact ih (k + 1) _ _ (by omega) (by rw [hh]; rfl)
  have b4 : ∀ x y : Option br_V, G 184 [some (br_r 0), some (br_l (br_fold (fun k => br_J (w.2 k)) (br_d3 (w, g, r, c, t, n, b, kp, ri, ci, ti)) w.1)), none, y, x] [] σ := by
    intro x y
    refine br_iconstJ C dX4_digest_184 ?_
    refine br_istore_n C dX4_digest_185 rfl (by decide) rfl (L' := [_, _, _, _, _]) rfl ?_
    exact l5 10 0 _ _ (by omega) rfl
  have b3 : ∀ x y : Option br_V, G 151 [some (br_r 0), some (br_l (br_d3 (w, g, r, c, t, n, b, kp, ri, ci, ti))), none, y, x] [] σ := by
    intro x y
    refine br_iconstJ C dX4_digest_151 ?_
    refine br_istore_n C dX4_digest_152 rfl (by decide) rfl (L' := [_, _, _, _, _]) rfl ?_
    exact l4 b4 w.1 0 _ _ (by omega) rfl
  have b2 : ∀ x y : Option br_V, G 85 [some (br_r 0), some (br_l (br_fold (fun k => br_J (r.2 k : Nat)) (br_dP (w, g, r, c, t, n, b, kp, ri, ci, ti) g.1) r.1)), none, y, x] [] σ := by
    intro x y
    have b3 := b3 x y
    refine br_aload_n C dX4_digest_85 rfl rfl ?_
    refine br_cv0B C vcX4_141 (c_X4_noGym (A := (w, g, r, c, t, n, b, kp, ri, ci, ti)) hc0 hA0) (by decide) rfl rfl (fun _ => Nat.le_of_ble_eq_true rfl) dX4_digest_86 (fun h86 => ?_) (fun h86 => ?_)
    · refine br_if_ne1 C dX4_digest_89 (tgt := 151) (by decide) ?_
      unfold br_d3 at b3
      first
        | (rw [if_pos h86] at b3; exact b3)
        | (rw [if_neg h86] at b3; exact b3)
    · refine br_if_ne0 C dX4_digest_89 (tgt := 151) (by decide) ?_
      refine br_lload_n C dX4_digest_92 rfl rfl ?_
      refine br_aload_n C dX4_digest_93 rfl rfl ?_
      refine br_iconstJ C dX4_digest_94 ?_
      refine br_cv1R C vcX4_201 (c_X4_score (A := (w, g, r, c, t, n, b, kp, ri, ci, ti)) hc0 hA0 0 (by omega)) (by decide) rfl rfl (fun _ => Nat.le_of_ble_eq_true rfl) dX4_digest_95 ?_
      refine br_i2l C  dX4_digest_98 ?_
      refine br_cs2L C scX4_197 (c_X4_mixed _ _) (by decide) (fun _ => Nat.le_of_ble_eq_true rfl) dX4_digest_99 ?_
      refine br_lstore_n C dX4_digest_102 rfl (by decide) rfl (L' := [_, _, _, _, _]) rfl ?_
      refine br_lload_n C dX4_digest_103 rfl rfl ?_
      refine br_aload_n C dX4_digest_104 rfl rfl ?_
      refine br_iconstJ C dX4_digest_105 ?_
      refine br_cv1R C vcX4_204 (c_X4_mean (A := (w, g, r, c, t, n, b, kp, ri, ci, ti)) hc0 hA0 0 (by omega)) (by decide) rfl rfl (fun _ => Nat.le_of_ble_eq_true rfl) dX4_digest_106 ?_
      refine br_i2l C  dX4_digest_109 ?_
      refine br_cs2L C scX4_197 (c_X4_mixed _ _) (by decide) (fun _ => Nat.le_of_ble_eq_true rfl) dX4_digest_110 ?_
      refine br_lstore_n C dX4_digest_113 rfl (by decide) rfl (L' := [_, _, _, _, _]) rfl ?_
      refine br_lload_n C dX4_digest_114 rfl rfl ?_
      refine br_aload_n C dX4_digest_115 rfl rfl ?_
      refine br_iconstJ C dX4_digest_116 ?_
      refine br_cv1R C vcX4_204 (c_X4_mean (A := (w, g, r, c, t, n, b, kp, ri, ci, ti)) hc0 hA0 1 (by omega)) (by decide) rfl rfl (fun _ => Nat.le_of_ble_eq_true rfl) dX4_digest_117 ?_
      refine br_i2l C  dX4_digest_120 ?_
      refine br_cs2L C scX4_197 (c_X4_mixed _ _) (by decide) (fun _ => Nat.le_of_ble_eq_true rfl) dX4_digest_121 ?_
      refine br_lstore_n C dX4_digest_124 rfl (by decide) rfl (L' := [_, _, _, _, _]) rfl ?_
      refine br_lload_n C dX4_digest_125 rfl rfl ?_
      refine br_aload_n C dX4_digest_126 rfl rfl ?_
      refine br_bipushJ C (by decide) dX4_digest_127 ?_
      refine br_iconstJ C dX4_digest_129 ?_
      refine br_cv2R C vcX4_207 (c_X4_odds (A := (w, g, r, c, t, n, b, kp, ri, ci, ti)) hc0 hA0 10 (by omega) 0 (by omega)) (by decide) rfl rfl (fun _ => Nat.le_of_ble_eq_true rfl) dX4_digest_130 ?_
      refine br_i2l C  dX4_digest_133 ?_
      refine br_cs2L C scX4_197 (c_X4_mixed _ _) (by decide) (fun _ => Nat.le_of_ble_eq_true rfl) dX4_digest_134 ?_
      refine br_lstore_n C dX4_digest_137 rfl (by decide) rfl (L' := [_, _, _, _, _]) rfl ?_
      refine br_lload_n C dX4_digest_138 rfl rfl ?_
      refine br_aload_n C dX4_digest_139 rfl rfl ?_
      refine br_bipushJ C (by decide) dX4_digest_140 ?_
      refine br_iconstJ C dX4_digest_142 ?_
      refine br_cv2R C vcX4_207 (c_X4_odds (A := (w, g, r, c, t, n, b, kp, ri, ci, ti)) hc0 hA0 10 (by omega) 1 (by omega)) (by decide) rfl rfl (fun _ => Nat.le_of_ble_eq_true rfl) dX4_digest_143 ?_
      refine br_i2l C  dX4_digest_146 ?_
      refine br_cs2L C scX4_197 (c_X4_mixed _ _) (by decide) (fun _ => Nat.le_of_ble_eq_true rfl) dX4_digest_147 ?_
      refine br_lstore_n C dX4_digest_150 rfl (by decide) rfl (L' := [_, _, _, _, _]) rfl ?_
      unfold br_d3 at b3
      first
        | (rw [if_pos h86] at b3; exact b3)
        | (rw [if_neg h86] at b3; exact b3)
  have l2 : (∀ x y : Option br_V, G 85 [some (br_r 0), some (br_l (br_fold (fun k => br_J (r.2 k : Nat)) (br_dP (w, g, r, c, t, n, b, kp, ri, ci, ti) g.1) r.1)), none, y, x] [] σ) → ∀ (m k : Nat) (h : Int64) (x : Option br_V), k + m = r.1 → h = br_fold (fun k => br_J (r.2 k : Nat)) (br_dP (w, g, r, c, t, n, b, kp, ri, ci, ti) g.1) k → G 54 [some (br_r 0), some (br_l h), none, some (br_i (br_J k)), x] [] σ := by
    intro hout m
    induction m with
    | zero =>
      intro k h x hkm hh
      refine br_iload_n C dX4_digest_54 rfl rfl ?_
      refine br_aload_n C dX4_digest_55 rfl rfl ?_
      refine br_getR C fdX4_28 dX4_digest_56 rfl rfl ?_
      refine br_getI C fdX4_87 dX4_digest_59 rfl rfl (by assumption) ?_
      refine br_icmp_geJ C (by omega) (by omega) dX4_digest_62 (tgt := 85) (by decide) (fun c62 => ?_) (fun c62 => ?_)
      · rw [hh, show k = r.1 by omega]
        exact hout _ _
      · omega
    | succ m ih =>
      intro k h x hkm hh
      refine br_iload_n C dX4_digest_54 rfl rfl ?_
      refine br_aload_n C dX4_digest_55 rfl rfl ?_
      refine br_getR C fdX4_28 dX4_digest_56 rfl rfl ?_
      refine br_getI C fdX4_87 dX4_digest_59 rfl rfl (by assumption) ?_
      refine br_icmp_geJ C (by omega) (by omega) dX4_digest_62 (tgt := 85) (by decide) (fun c62 => ?_) (fun c62 => ?_)
      · omega
      · refine br_lload_n C dX4_digest_65 rfl rfl ?_
        refine br_aload_n C dX4_digest_66 rfl rfl ?_
        refine br_getR C fdX4_28 dX4_digest_67 rfl rfl ?_
        refine br_iload_n C dX4_digest_70 rfl rfl ?_
        have hpa := c_X2_pieceAt (q := 7) rfl rfl hr h5r (k : Nat) (by omega)
        rw [br_pO_in (show k < r.1 by omega)] at hpa
        refine br_cv1R C vcX4_138 (hpa) (by decide) rfl rfl (fun _ => Nat.le_of_ble_eq_true rfl) dX4_digest_71 ?_
        refine br_i2l C  dX4_digest_74 ?_
        refine br_cs2L C scX4_197 (c_X4_mixed _ _) (by decide) (fun _ => Nat.le_of_ble_eq_true rfl) dX4_digest_75 ?_
        refine br_lstore_n C dX4_digest_78 rfl (by decide) rfl (L' := [_, _, _, _, _]) rfl ?_
        refine br_iincJ C dX4_digest_79 rfl (by decide) rfl (L' := [_, _, _, _, _]) rfl ?_
        refine br_goto C dX4_digest_82 (tgt := 54) (by decide) ?_
        exact ih (k + 1) _ _ (by omega) (by rw [hh]; rfl)
  have b1 : ∀ x y : Option br_V, G 52 [some (br_r 0), some (br_l (br_dP (w, g, r, c, t, n, b, kp, ri, ci, ti) g.1)), none, y, x] [] σ := by
    intro x y
    refine br_iconstJ C dX4_digest_52 ?_
    refine br_istore_n C dX4_digest_53 rfl (by decide) rfl (L' := [_, _, _, _, _]) rfl ?_
    exact l2 b2 r.1 0 _ _ (by omega) rfl
  have l0 : ∀ (p : Nat), p < g.1 → (∀ x : Option br_V, G 46 [some (br_r 0), some (br_l (br_dP (w, g, r, c, t, n, b, kp, ri, ci, ti) (p + 1))), none, some (br_i (br_J p)), x] [] σ) → ∀ (m k : Nat) (h : Int64), k + m = 7 → h = br_fold (fun k => br_vPiece (w, g, r, c, t, n, b, kp, ri, ci, ti) p k) (br_dP (w, g, r, c, t, n, b, kp, ri, ci, ti) p) k → G 20 [some (br_r 0), some (br_l h), none, some (br_i (br_J p)), some (br_i (br_J k))] [] σ := by
    intro p hp hout m
    induction m with
    | zero =>
      intro k h hkm hh
      refine br_iload C dX4_digest_20 rfl ?_
      refine br_bipushJ C (by decide) dX4_digest_22 ?_
      refine br_icmp_gtJ C (by omega) (by omega) dX4_digest_24 (tgt := 46) (by decide) (fun c24 => ?_) (fun c24 => ?_)
      · rw [hh, show k = 7 by omega]
        exact hout _
      · omega
    | succ m ih =>
      intro k h hkm hh
      refine br_iload C dX4_digest_20 rfl ?_
      refine br_bipushJ C (by decide) dX4_digest_22 ?_
      refine br_icmp_gtJ C (by omega) (by omega) dX4_digest_24 (tgt := 46) (by decide) (fun c24 => ?_) (fun c24 => ?_)
      · omega
      · refine br_lload_n C dX4_digest_27 rfl rfl ?_
        refine br_aload_n C dX4_digest_28 rfl rfl ?_
        refine br_iload_n C dX4_digest_29 rfl rfl ?_
        refine br_iload C dX4_digest_30 rfl ?_
        refine br_cv2R C vcX4_193 (c_X4_piece (A := (w, g, r, c, t, n, b, kp, ri, ci, ti)) hc0 hA0 p (by omega) k (by omega)) (by decide) rfl rfl (fun _ => Nat.le_of_ble_eq_true rfl) dX4_digest_32 ?_
        refine br_i2l C  dX4_digest_35 ?_
        refine br_cs2L C scX4_197 (c_X4_mixed _ _) (by decide) (fun _ => Nat.le_of_ble_eq_true rfl) dX4_digest_36 ?_
        refine br_lstore_n C dX4_digest_39 rfl (by decide) rfl (L' := [_, _, _, _, _]) rfl ?_
        refine br_iincJ C dX4_digest_40 rfl (by decide) rfl (L' := [_, _, _, _, _]) rfl ?_
        refine br_goto C dX4_digest_43 (tgt := 20) (by decide) ?_
        exact ih (k + 1) _ (by omega) (by rw [hh]; rfl)
  have l1 : ∀ (m p : Nat) (x : Option br_V), p + m = g.1 → G 6 [some (br_r 0), some (br_l (br_dP (w, g, r, c, t, n, b, kp, ri, ci, ti) p)), none, some (br_i (br_J p)), x] [] σ := by
    intro m
    induction m with
    | zero =>
      intro p x hpm
      refine br_iload_n C dX4_digest_6 rfl rfl ?_
      refine br_aload_n C dX4_digest_7 rfl rfl ?_
      refine br_getR C fdX4_19 dX4_digest_8 rfl rfl ?_
      refine br_getI C fdX4_91 dX4_digest_11 rfl rfl (by assumption) ?_
      refine br_icmp_geJ C (by omega) (by omega) dX4_digest_14 (tgt := 52) (by decide) (fun c14 => ?_) (fun c14 => ?_)
      · rw [show p = g.1 by omega]
        exact b1 _ _
      · omega
    | succ m ih =>
      intro p x hpm
      refine br_iload_n C dX4_digest_6 rfl rfl ?_
      refine br_aload_n C dX4_digest_7 rfl rfl ?_
      refine br_getR C fdX4_19 dX4_digest_8 rfl rfl ?_
      refine br_getI C fdX4_91 dX4_digest_11 rfl rfl (by assumption) ?_
      refine br_icmp_geJ C (by omega) (by omega) dX4_digest_14 (tgt := 52) (by decide) (fun c14 => ?_) (fun c14 => ?_)
      · omega
      · refine br_iconstJ C dX4_digest_17 ?_
        refine br_istore C dX4_digest_18 (by decide) rfl (L' := [_, _, _, _, _]) rfl ?_
        refine l0 p (by omega) (fun x2 => ?_) 7 0 _ (by omega) rfl
        refine br_iincJ C dX4_digest_46 rfl (by decide) rfl (L' := [_, _, _, _, _]) rfl ?_
        refine br_goto C dX4_digest_49 (tgt := 6) (by decide) ?_
        exact ih (p + 1) _ (by omega)
  refine br_ldc2K C klX4_191 (z := 1033) (by decide) dX4_digest_0 ?_
  refine br_lstore_n C dX4_digest_3 rfl (by decide) rfl (L' := [_, _, _, _, _]) rfl ?_
  refine br_iconstJ C dX4_digest_4 ?_
  refine br_istore_n C dX4_digest_5 rfl (by decide) rfl (L' := [_, _, _, _, _]) rfl ?_
  exact l1 g.1 0 _ (by omega)
