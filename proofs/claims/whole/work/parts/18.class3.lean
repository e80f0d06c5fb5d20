set_option maxHeartbeats 4000000 in
set_option maxRecDepth 100000 in
theorem c_X4_more {σ : br_Wd} {A : br_A} (hc : br_CR σ A) (hA : br_Aok A) (s : Int) (hbs : -2147483648 ≤ s ∧ s < 2147483648) : br_Met 5 mX4_more [br_r 0, br_i (br_J s)] σ (br_QC (br_J (br_vMore A s)) A σ) := by
  obtain ⟨w, g, r, c, t, n, b, kp, ri, ci, ti⟩ := A
  have hc0 := hc
  have hA0 := hA
  obtain ⟨⟨hw, hg, hr, ht⟩, ⟨hcc, hnn, hbb, hkp⟩, him⟩ := hc
  obtain ⟨⟨hwo, hgo, hro, hto⟩, ⟨hb30, hn512⟩, hio⟩ := hA
  have hw1 := hw.1
  have hg1 := hg.1
  have hr1 := hr.1
  have ht1 := ht.1
  have hw30 := hwo.1
  have hg7 := hgo.1
  have h5r := hro.1
  have h8t := hto.1
  have hk4 := fun (j : Nat) (hj : j < g.1) => (hgo.2 j hj).1
  have hrb := fun (j : Nat) (hj : j < r.1) => (show r.2 j < 7 by have := hro.2.1 j hj; omega)
  refine br_ofW (by decide) 4 rfl (fun G C => ?_)
  have loop : (-100 ≤ s ∧ s ≤ 100) → ¬ g.1 = 0 → r.1 < 5 → ∀ (m p : Nat) (τ : br_Wd) (a : Int × Int) (x : Option br_V), p + m = g.1 → a = br_mo g r s p → br_sm [11, 12] σ τ → G 48 [some (br_r 0), some (br_i (br_J s)), some (br_i (br_J a.1)), some (br_i (br_J a.2)), some (br_i (br_J p)), x] [] τ := by
    intro h1 h11 hlt5 m
    induction m with
    | zero =>
      intro p τ a x hpm ha hsm
      refine br_iload C dX4_more_48 rfl ?_
      refine br_aload_n C dX4_more_50 rfl rfl ?_
      refine br_getR C fdX4_19 dX4_more_51 rfl rfl ?_
      refine br_getI C fdX4_91 dX4_more_54 rfl rfl (x := br_J g.1) ((congrFun (hsm.1 3 (by decide)) 3).trans hg1) ?_
      refine br_icmp_geJ C (by omega) (by omega) dX4_more_57 (tgt := 120) (by decide) (fun c57 => ?_) (fun c57 => ?_)
      · refine br_iload_n C dX4_more_120 rfl rfl ?_
        exact br_iret C rfl dX4_more_121 ⟨congrArg (fun x => some (br_i (br_J x))) (show a.1 = br_vMore (w, g, r, c, t, n, b, kp, ri, ci, ti) s from by
            rw [ha, show p = g.1 by omega]
            exact ((if_neg (fun q => q h1)).trans (if_neg (fun q => q.elim (fun e => h11 e) (fun e => absurd e (by omega))))).symm), hc0.keep (fun p hp hq => hsm.1 p (by simp; omega)), hsm.fc (by decide)⟩
      · omega
    | succ m ih =>
      intro p τ a x hpm ha hsm
      have hrτ : br_RC 7 τ r := hr.keep (hsm.1 7 (by decide)) (hsm.1 8 (by decide))
      have hab := br_mo_bnd hgo hro hlt5 s p (by omega)
      rw [← ha] at hab
      refine br_iload C dX4_more_48 rfl ?_
      refine br_aload_n C dX4_more_50 rfl rfl ?_
      refine br_getR C fdX4_19 dX4_more_51 rfl rfl ?_
      refine br_getI C fdX4_91 dX4_more_54 rfl rfl (x := br_J g.1) ((congrFun (hsm.1 3 (by decide)) 3).trans hg1) ?_
      refine br_icmp_geJ C (by omega) (by omega) dX4_more_57 (tgt := 120) (by decide) (fun c57 => ?_) (fun c57 => ?_)
      · omega
      · refine br_aload_n C dX4_more_60 rfl rfl ?_
        refine br_getR C fdX4_28 dX4_more_61 rfl rfl ?_
        refine br_iload C dX4_more_64 rfl ?_
        refine br_cv1B C vcX4_109 (c_X2_holds (q := 7) rfl rfl hrτ h5r hro.2.2 hrb (p : Nat) (by omega)) (by decide) rfl rfl (fun _ => Nat.le_of_ble_eq_true rfl) dX4_more_66 (fun h66 => ?_) (fun h66 => ?_)
        · refine br_if_ne1 C dX4_more_69 (tgt := 114) (by decide) ?_
          refine br_iincJ C dX4_more_114 rfl (by decide) rfl (L' := [_, _, _, _, _, _]) rfl ?_
          refine br_goto C dX4_more_117 (tgt := 48) (by decide) ?_
          refine ih (p + 1) _ _ _ (by omega) (show (_, _) = br_mo g r s (p + 1) from ?_) (by first | exact hsm | exact hsm2)
          unfold br_mo
          rw [← ha]
          first
            | (rw [if_pos ⟨Decidable.not_not.mp h66, c105⟩]; done)
            | (rw [if_pos ⟨Decidable.not_not.mp h66, c105⟩]; rfl)
            | rw [if_neg (fun q => absurd q.2 (by omega))]
            | rw [if_neg (fun q => h66 q.1)]
        · refine br_if_ne0 C dX4_more_69 (tgt := 114) (by decide) ?_
          refine br_aload_n C dX4_more_72 rfl rfl ?_
          refine br_getR C fdX4_56 dX4_more_73 rfl rfl ?_
          refine br_aload_n C dX4_more_76 rfl rfl ?_
          refine br_getR C fdX4_28 dX4_more_77 rfl rfl ?_
          refine br_cv1 C vcX4_169 (c_X2_copyFrom (q := 11) rfl rfl (q2 := 7) rfl rfl hrτ h5r (by omega)) (by decide) rfl rfl (fun _ => Nat.le_of_ble_eq_true rfl) dX4_more_80 (fun v80 τ80 hv => ?_)
          obtain ⟨rfl, hr11, hs1⟩ := hv
          refine br_aload_n C dX4_more_83 rfl rfl ?_
          refine br_getR C fdX4_56 dX4_more_84 rfl rfl ?_
          refine br_iload C dX4_more_87 rfl ?_
          refine br_cv1 C vcX4_125 (c_X2_append (q := 11) rfl rfl hr11 h5r p hlt5) (by decide) rfl rfl (fun _ => Nat.le_of_ble_eq_true rfl) dX4_more_89 (fun v89 τ89 hv => ?_)
          obtain ⟨rfl, hra, hs2⟩ := hv
          have hsm2 := (hsm.trans hs1).trans hs2
          have hok := br_Rok_app hro (show p < g.1 by omega) (Decidable.not_not.mp h66) hlt5
          have hob2 := br_od_bnd hgo hok s
          refine br_aload_n C dX4_more_92 rfl rfl ?_
          refine br_getR C fdX4_56 dX4_more_93 rfl rfl ?_
          refine br_iload_n C dX4_more_96 rfl rfl ?_
          refine br_cv1R C vcX4_160 (c_X2_partsWith (q := 11) rfl rfl (hg.keep (hsm2.1 3 (by decide)) (hsm2.1 4 (by decide)) (hsm2.1 5 (by decide)) (hsm2.1 6 (by decide))) hgo hra hok s h1) (by decide) rfl rfl (fun _ => Nat.le_of_ble_eq_true rfl) dX4_more_97 ?_
          refine br_istore C dX4_more_100 (by decide) rfl (L' := [_, _, _, _, _, _]) rfl ?_
          refine br_iload C dX4_more_102 rfl ?_
          refine br_iload_n C dX4_more_104 rfl rfl ?_
          refine br_icmp_leJ C (by omega) (by omega) dX4_more_105 (tgt := 114) (by decide) (fun c105 => ?_) (fun c105 => ?_)
          · refine br_iincJ C dX4_more_114 rfl (by decide) rfl (L' := [_, _, _, _, _, _]) rfl ?_
            refine br_goto C dX4_more_117 (tgt := 48) (by decide) ?_
            refine ih (p + 1) _ _ _ (by omega) (show (_, _) = br_mo g r s (p + 1) from ?_) (by first | exact hsm | exact hsm2)
            unfold br_mo
            rw [← ha]
            first
              | (rw [if_pos ⟨Decidable.not_not.mp h66, c105⟩]; done)
              | (rw [if_pos ⟨Decidable.not_not.mp h66, c105⟩]; rfl)
              | rw [if_neg (fun q => absurd q.2 (by omega))]
              | rw [if_neg (fun q => h66 q.1)]
          · refine br_iload C dX4_more_108 rfl ?_
            refine br_istore_n C dX4_more_110 rfl (by decide) rfl (L' := [_, _, _, _, _, _]) rfl ?_
            refine br_iload C dX4_more_111 rfl ?_
            refine br_istore_n C dX4_more_113 rfl (by decide) rfl (L' := [_, _, _, _, _, _]) rfl ?_
            refine br_iincJ C dX4_more_114 rfl (by decide) rfl (L' := [_, _, _, _, _, _]) rfl ?_
            refine br_goto C dX4_more_117 (tgt := 48) (by decide) ?_
            refine ih (p + 1) _ _ _ (by omega) (show (_, _) = br_mo g r s (p + 1) from ?_) (by first | exact hsm | exact hsm2)
            unfold br_mo
            rw [← ha]
            first
              | (rw [if_pos ⟨Decidable.not_not.mp h66, c105⟩]; done)
              | (rw [if_pos ⟨Decidable.not_not.mp h66, c105⟩]; rfl)
              | rw [if_neg (fun q => absurd q.2 (by omega))]
              | rw [if_neg (fun q => h66 q.1)]
  have hob := br_od_bnd hgo hro s
  refine br_iload_n C dX4_more_0 rfl rfl ?_
  refine br_cs1B C scX4_157 (c_X4_isScore s hbs) (by decide) (fun _ => Nat.le_of_ble_eq_true rfl) dX4_more_1 (fun h1 => ?_) (fun h1 => ?_)
  · refine br_if_ne1 C dX4_more_4 (tgt := 10) (by decide) ?_
    refine br_aload_n C dX4_more_10 rfl rfl ?_
    refine br_cv0B C vcX4_141 (c_X4_noGym (A := (w, g, r, c, t, n, b, kp, ri, ci, ti)) hc0 hA0) (by decide) rfl rfl (fun _ => Nat.le_of_ble_eq_true rfl) dX4_more_11 (fun h11 => ?_) (fun h11 => ?_)
    · refine br_if_ne1 C dX4_more_14 (tgt := 28) (by decide) ?_
      refine br_bipushJ C (by decide) dX4_more_28 ?_
      exact br_iret C rfl dX4_more_30 ⟨congrArg (fun x => some (br_i (br_J x))) (show _ = br_vMore (w, g, r, c, t, n, b, kp, ri, ci, ti) s from ((if_neg (fun q => q h1)).trans (if_pos (by first | exact Or.inl h11 | (exact Or.inr (by omega))))).symm), hc0, br_fc.rfl⟩
    · refine br_if_ne0 C dX4_more_14 (tgt := 28) (by decide) ?_
      refine br_aload_n C dX4_more_17 rfl rfl ?_
      refine br_getR C fdX4_28 dX4_more_18 rfl rfl ?_
      refine br_getI C fdX4_87 dX4_more_21 rfl rfl (by assumption) ?_
      refine br_iconstJ C dX4_more_24 ?_
      refine br_icmp_ltJ C (by omega) (by omega) dX4_more_25 (tgt := 31) (by decide) (fun c25 => ?_) (fun c25 => ?_)
      · refine br_iconstJ C dX4_more_31 ?_
        refine br_istore_n C dX4_more_32 rfl (by decide) rfl (L' := [_, _, _, _, _, _]) rfl ?_
        refine br_aload_n C dX4_more_33 rfl rfl ?_
        refine br_getR C fdX4_28 dX4_more_34 rfl rfl ?_
        refine br_iload_n C dX4_more_37 rfl rfl ?_
        refine br_cv1R C vcX4_160 (c_X2_partsWith (q := 7) rfl rfl hg hgo hr hro s h1) (by decide) rfl rfl (fun _ => Nat.le_of_ble_eq_true rfl) dX4_more_38 ?_
        refine br_bipushJ C (by decide) dX4_more_41 ?_
        refine br_imulJ C dX4_more_43 ?_
        refine br_istore_n C dX4_more_44 rfl (by decide) rfl (L' := [_, _, _, _, _, _]) rfl ?_
        refine br_iconstJ C dX4_more_45 ?_
        refine br_istore C dX4_more_46 (by decide) rfl (L' := [_, _, _, _, _, _]) rfl ?_
        exact loop h1 h11 (by omega) g.1 0 σ (-1, br_od g r s * 10) _ (by omega) (by show (-1, br_od g r s * 10) = ((-1 : Int), br_od g r s * 10); rfl) br_sm.rfl
      · refine br_bipushJ C (by decide) dX4_more_28 ?_
        exact br_iret C rfl dX4_more_30 ⟨congrArg (fun x => some (br_i (br_J x))) (show _ = br_vMore (w, g, r, c, t, n, b, kp, ri, ci, ti) s from ((if_neg (fun q => q h1)).trans (if_pos (by first | exact Or.inl h11 | (exact Or.inr (by omega))))).symm), hc0, br_fc.rfl⟩
  · refine br_if_ne0 C dX4_more_4 (tgt := 10) (by decide) ?_
    refine br_bipushJ C (by decide) dX4_more_7 ?_
    exact br_iret C rfl dX4_more_9 ⟨congrArg (fun x => some (br_i (br_J x))) (show _ = br_vMore (w, g, r, c, t, n, b, kp, ri, ci, ti) s from (if_pos h1).symm), hc0, br_fc.rfl⟩

set_option maxHeartbeats 4000000 in
set_option maxRecDepth 100000 in
theorem c_X4_picksOf {σ : br_Wd} {n : Nat} (hn0 : σ.1 3 3 = br_J n) (k : Nat) (hk : k ≤ 3) : br_Met 0 mX4_picksOf [br_r 0, br_i (br_J k)] σ (br_R (br_J ((n ^ k : Nat) : Int)) σ) := by
  refine br_ofW (by decide) 2 rfl (fun G C => ?_)
  have loop : ∀ (m i : Nat) (a : Int), i + m = k → a = (fun i : Nat => ((n ^ i : Nat) : Int)) i → G 4 [some (br_r 0), some (br_i (br_J k)), some (br_i (br_J a)), some (br_i (br_J i))] [] σ := by
    intro m
    induction m with
    | zero =>
      intro i a hin ha
      have ei : i = k := by omega
      subst ei
      refine br_iload_n C dX4_picksOf_4 rfl rfl ?_
      refine br_iload_n C dX4_picksOf_5 rfl rfl ?_
      refine br_icmp_geJ C (by omega) (by omega) dX4_picksOf_6 (tgt := 25) (by decide) (fun c6 => ?_) (fun c6 => ?_)
      · refine br_iload_n C dX4_picksOf_25 rfl rfl ?_
        exact br_iret C rfl dX4_picksOf_26 ⟨by rw [ha], rfl⟩
      · omega
    | succ m ih =>
      intro i a hin ha
      have hi : i < k := by omega
      refine br_iload_n C dX4_picksOf_4 rfl rfl ?_
      refine br_iload_n C dX4_picksOf_5 rfl rfl ?_
      refine br_icmp_geJ C (by omega) (by omega) dX4_picksOf_6 (tgt := 25) (by decide) (fun c6 => ?_) (fun c6 => ?_)
      · omega
      · refine br_iload_n C dX4_picksOf_9 rfl rfl ?_
        refine br_aload_n C dX4_picksOf_10 rfl rfl ?_
        refine br_getR C fdX4_19 dX4_picksOf_11 rfl rfl ?_
        refine br_getI C fdX4_91 dX4_picksOf_14 rfl rfl (by assumption) ?_
        refine br_imulJ C dX4_picksOf_17 ?_
        refine br_istore_n C dX4_picksOf_18 rfl (by decide) rfl (L' := [_, _, _, _]) rfl ?_
        refine br_iincJ C dX4_picksOf_19 rfl (by decide) rfl (L' := [_, _, _, _]) rfl ?_
        refine br_goto C dX4_picksOf_22 (tgt := 4) (by decide) ?_
        exact ih (i + 1) _ (by omega) (by show _ = ((n ^ (i + 1) : Nat) : Int); rw [ha, Nat.pow_succ, Int.natCast_mul])
  refine br_iconstJ C dX4_picksOf_0 ?_
  refine br_istore_n C dX4_picksOf_1 rfl (by decide) rfl (L' := [_, _, _, _]) rfl ?_
  refine br_iconstJ C dX4_picksOf_2 ?_
  refine br_istore_n C dX4_picksOf_3 rfl (by decide) rfl (L' := [_, _, _, _]) rfl ?_
  exact loop k 0 1 (by omega) rfl

theorem br_RC_zero {q : Nat} {σ : br_Wd} (r : br_Ro) (h : σ.1 q 2 = br_J 0) : br_RC q σ (0, r.2) := ⟨h, fun j hj => absurd hj (Nat.not_lt_zero j)⟩

set_option maxHeartbeats 4000000 in
set_option maxRecDepth 100000 in
theorem c_X4_pickByNumber {σ : br_Wd} {n : Nat} (hn0 : σ.1 3 3 = br_J n) (hn1 : 0 < n) (hn7 : n ≤ 7) (c m : Nat) (hm : 1 ≤ m ∧ m ≤ 3) (hc : c < 343) : br_Met 2 mX4_pickByNumber [br_r 0, br_i (br_J c), br_i (br_J m)] σ (fun v τ => v = some (br_i (br_J (if br_dst n m c then 1 else 0))) ∧ (br_dst n m c → br_RC 11 τ (br_rw n m c)) ∧ br_sm [11, 12] σ τ) := by
  refine br_ofW (by decide) 3 rfl (fun G C => ?_)
  have loop : ∀ (k i : Nat) (τ : br_Wd) (u : Int) (x : Option br_V), i + k = m → (i < m → u = ((n ^ (m - 1 - i) : Nat) : Int)) → br_sm [11, 12] σ τ → br_RC 11 τ (i, fun j => br_dg n m c j) → (∀ j : Nat, j < i → ∀ i2 : Nat, i2 < j → ¬ br_dg n m c i2 = br_dg n m c j) → G 19 [some (br_r 0), some (br_i (br_J c)), some (br_i (br_J m)), some (br_i (br_J u)), some (br_i (br_J i)), x] [] τ := by
    intro k
    induction k with
    | zero =>
      intro i τ u x him hux hsm hrτ hd0
      have hd : br_dst n m c := fun j hj => hd0 j (by omega)
      refine br_iload C dX4_pickByNumber_19 rfl ?_
      refine br_iload_n C dX4_pickByNumber_21 rfl rfl ?_
      refine br_icmp_geJ C (by omega) (by omega) dX4_pickByNumber_22 (tgt := 93) (by decide) (fun c22 => ?_) (fun c22 => ?_)
      · refine br_iconstJ C dX4_pickByNumber_93 ?_
        exact br_zret C (by decide) rfl dX4_pickByNumber_94 ⟨by rw [if_pos hd], fun _ => by rw [show i = m by omega] at hrτ; exact hrτ, hsm⟩
      · omega
    | succ k ih =>
      intro i τ u x him hux hsm hrτ hd0
      have hi : i < m := by omega
      have hdis : ∀ a b : Nat, a < i → b < i → br_dg n m c a = br_dg n m c b → a = b := fun a b ha hb e => by
        rcases Nat.lt_trichotomy a b with h | h | h
        · exact absurd e (hd0 b hb a h)
        · exact h
        · exact absurd e.symm (hd0 a ha b h)
      refine br_iload C dX4_pickByNumber_19 rfl ?_
      refine br_iload_n C dX4_pickByNumber_21 rfl rfl ?_
      refine br_icmp_geJ C (by omega) (by omega) dX4_pickByNumber_22 (tgt := 93) (by decide) (fun c22 => ?_) (fun c22 => ?_)
      · omega
      · have hu1 := hux hi
        have hup : 0 < n ^ (m - 1 - i) := Nat.pow_pos hn1
        have hup2 : n ^ (m - 1 - i) ≤ 343 := br_pow7 hn7 (by omega)
        have hdl : br_dg n m c i < n := Nat.mod_lt _ hn1
        rw [hu1]
        refine br_iload_n C dX4_pickByNumber_25 rfl rfl ?_
        refine br_if_eqJ C (by omega) dX4_pickByNumber_26 (tgt := 39) (by decide) (fun c26 => ?_) (fun c26 => ?_)
        · omega
        · refine br_aload_n C dX4_pickByNumber_29 rfl rfl ?_
          refine br_getR C fdX4_19 dX4_pickByNumber_30 rfl rfl ?_
          refine br_getI C fdX4_91 dX4_pickByNumber_33 rfl rfl (x := br_J n) ((congrFun (hsm.1 3 (by decide)) 3).trans hn0) ?_
          refine br_if_neJ C (by omega) dX4_pickByNumber_36 (tgt := 41) (by decide) (fun c36 => ?_) (fun c36 => ?_)
          · refine br_iload_n C dX4_pickByNumber_41 rfl rfl ?_
            refine br_iload_n C dX4_pickByNumber_42 rfl rfl ?_
            refine br_idivJ C (by omega) (by omega) dX4_pickByNumber_43 ?_
            refine br_aload_n C dX4_pickByNumber_44 rfl rfl ?_
            refine br_getR C fdX4_19 dX4_pickByNumber_45 rfl rfl ?_
            refine br_getI C fdX4_91 dX4_pickByNumber_48 rfl rfl (x := br_J n) ((congrFun (hsm.1 3 (by decide)) 3).trans hn0) ?_
            refine br_iremJ C (by
                refine ⟨Int.ediv_nonneg (by omega) (by omega), ?_⟩
                have := Int.ediv_le_self (a := (c : Int)) ((n ^ (m - 1 - i) : Nat) : Int) (by omega)
                omega) (by omega) dX4_pickByNumber_51 ?_
            rw [show ((c : Int) / ((n ^ (m - 1 - i) : Nat) : Int)) % (n : Int) = ((br_dg n m c i : Nat) : Int) by unfold br_dg; rw [Int.natCast_emod, Int.natCast_ediv]]
            refine br_istore C dX4_pickByNumber_52 (by decide) rfl (L' := [_, _, _, _, _, _]) rfl ?_
            refine br_aload_n C dX4_pickByNumber_54 rfl rfl ?_
            refine br_getR C fdX4_56 dX4_pickByNumber_55 rfl rfl ?_
            refine br_iload C dX4_pickByNumber_58 rfl ?_
            refine br_cv1B C vcX4_109 (c_X2_holds (q := 11) rfl rfl hrτ (show i ≤ 5 by omega) (fun a b ha hb e => hdis a b ha hb e) (fun j _ => Nat.lt_of_lt_of_le (Nat.mod_lt _ hn1) hn7) (br_dg n m c i : Nat) (by omega)) (by decide) rfl rfl (fun _ => Nat.le_of_ble_eq_true rfl) dX4_pickByNumber_60 (fun h60 => ?_) (fun h60 => ?_)
            · refine br_if_eq1 C dX4_pickByNumber_63 (tgt := 68) (by decide) ?_
              refine br_iconstJ C dX4_pickByNumber_66 ?_
              exact br_zret C (by decide) rfl dX4_pickByNumber_67 ⟨by rw [if_neg (fun q => h60 (br_po_neg' (fun j hj e => q i hi j hj e)))], fun q => absurd q (fun q => h60 (br_po_neg' (fun j hj e => q i hi j hj e))), hsm⟩
            · refine br_if_eq0 C dX4_pickByNumber_63 (tgt := 68) (by decide) ?_
              refine br_aload_n C dX4_pickByNumber_68 rfl rfl ?_
              refine br_getR C fdX4_56 dX4_pickByNumber_69 rfl rfl ?_
              refine br_iload C dX4_pickByNumber_72 rfl ?_
              refine br_cv1 C vcX4_125 (c_X2_append (q := 11) rfl rfl hrτ (show i ≤ 5 by omega) (br_dg n m c i) (by show i < 5; omega)) (by decide) rfl rfl (fun _ => Nat.le_of_ble_eq_true rfl) dX4_pickByNumber_74 (fun v74 τ74 hv => ?_)
              obtain ⟨rfl, hra, hs2⟩ := hv
              have hsm2 := hsm.trans hs2
              refine br_iload_n C dX4_pickByNumber_77 rfl rfl ?_
              refine br_aload_n C dX4_pickByNumber_78 rfl rfl ?_
              refine br_getR C fdX4_19 dX4_pickByNumber_79 rfl rfl ?_
              refine br_getI C fdX4_91 dX4_pickByNumber_82 rfl rfl (x := br_J n) ((congrFun (hsm2.1 3 (by decide)) 3).trans hn0) ?_
              refine br_idivJ C (by omega) (by omega) dX4_pickByNumber_85 ?_
              refine br_istore_n C dX4_pickByNumber_86 rfl (by decide) rfl (L' := [_, _, _, _, _, _]) rfl ?_
              refine br_iincJ C dX4_pickByNumber_87 rfl (by decide) rfl (L' := [_, _, _, _, _, _]) rfl ?_
              refine br_goto C dX4_pickByNumber_90 (tgt := 19) (by decide) ?_
              have hno := br_po_neg (Decidable.not_not.mp h60)
              refine ih (i + 1) τ74 _ _ (by omega) (fun hi2 => ?_) hsm2 ⟨hra.1, fun j hj => ?_⟩ (fun j hj i2 hi2 => ?_)
              · rw [← Int.natCast_ediv]
                congr 1
                rw [show m - 1 - i = (m - 1 - (i + 1)) + 1 by omega, Nat.pow_succ]
                exact Nat.mul_div_cancel _ hn1
              · have h9 := hra.2 j hj
                rw [h9]
                show br_J ((if j = i then br_dg n m c i else br_dg n m c j : Nat) : Int) = _
                by_cases e : j = i
                · rw [if_pos e, e]
                · rw [if_neg e]
              · rcases Nat.lt_or_ge j i with q | q
                · exact hd0 j q i2 hi2
                · rw [show j = i by omega]; exact hno i2 (by show i2 < i; omega)
          · omega
  refine br_aload_n C dX4_pickByNumber_0 rfl rfl ?_
  refine br_getR C fdX4_56 dX4_pickByNumber_1 rfl rfl ?_
  refine br_iconstJ C dX4_pickByNumber_4 ?_
  refine br_putI C fdX4_87 dX4_pickByNumber_5 rfl rfl rfl ?_
  refine br_aload_n C dX4_pickByNumber_8 rfl rfl ?_
  refine br_iload_n C dX4_pickByNumber_9 rfl rfl ?_
  refine br_iconstJ C dX4_pickByNumber_10 ?_
  refine br_isubJ C dX4_pickByNumber_11 ?_
  have hpk := c_X4_picksOf (σ := br_up σ 11 2 (br_J 0)) (n := n) hn0 (m - 1) (by omega)
  rw [show ((m - 1 : Nat) : Int) = (m : Int) - 1 by omega] at hpk
  refine br_cv1R C vcX4_228 (hpk) (by decide) rfl rfl (fun _ => Nat.le_of_ble_eq_true rfl) dX4_pickByNumber_12 ?_
  refine br_istore_n C dX4_pickByNumber_15 rfl (by decide) rfl (L' := [_, _, _, _, _, _]) rfl ?_
  refine br_iconstJ C dX4_pickByNumber_16 ?_
  refine br_istore C dX4_pickByNumber_17 (by decide) rfl (L' := [_, _, _, _, _, _]) rfl ?_
  exact loop m 0 _ _ _ (by omega) (fun _ => by rw [show m - 1 - 0 = m - 1 by omega]) (br_sm.rfl.up (by simp)) ⟨rfl, fun j hj => absurd hj (Nat.not_lt_zero j)⟩ (fun j hj => absurd hj (Nat.not_lt_zero j))

set_option maxHeartbeats 4000000 in
set_option maxRecDepth 100000 in
theorem c_X4_findFinest {σ : br_Wd} {g : br_Gy} (hg : br_GC σ g) (hgo : br_Gok g) (hn1 : 0 < g.1) (m : Nat) (hm : 1 ≤ m ∧ m ≤ 3) : br_Met 5 mX4_findFinest [br_r 0, br_i (br_J m)] σ (fun v τ => v = none ∧ (match br_bs g m (g.1 ^ m) with
    | none => True
    | some c2 => br_RC 13 τ (br_rw g.1 m c2)) ∧ br_sm [11, 12, 13, 14] σ τ) := by
  have hg7 := hgo.1
  have hp7 := br_pow7 hg7 (show m ≤ 3 by omega)
  refine br_ofW (by decide) 4 rfl (fun G C => ?_)
  have loop : ∀ (k c : Nat) (τ : br_Wd) (a : Int) (x : Option br_V), c + k = g.1 ^ m → br_sm [11, 12, 13, 14] σ τ → (0 ≤ a ∧ a ≤ 25500) → (match br_bs g m c with
      | none => a = 0
      | some c2 => a = br_mh g (br_rw g.1 m c2) ∧ br_RC 13 τ (br_rw g.1 m c2)) → G 11 [some (br_r 0), some (br_i (br_J m)), some (br_i (br_J ((g.1 ^ m : Nat) : Int))), some (br_i (br_J a)), some (br_i (br_J c)), x] [] τ := by
    intro k
    induction k with
    | zero =>
      intro c τ a x hck hsm hab hbest0
      have hbest : (match br_bs g m c with
        | none => True
        | some c2 => br_RC 13 τ (br_rw g.1 m c2)) := by
        cases hb : br_bs g m c with
        | none => trivial
        | some c2 => rw [hb] at hbest0; exact hbest0.2
      refine br_iload C dX4_findFinest_11 rfl ?_
      refine br_iload_n C dX4_findFinest_13 rfl rfl ?_
      refine br_icmp_geJ C (by omega) (by omega) dX4_findFinest_14 (tgt := 62) (by decide) (fun c14 => ?_) (fun c14 => ?_)
      · exact br_vret C rfl dX4_findFinest_62 ⟨rfl, by rw [show c = g.1 ^ m by omega] at hbest; exact hbest, hsm⟩
      · omega
    | succ k ih =>
      intro c τ a x hck hsm hab hbest0
      have hgτ : br_GC τ g := hg.keep (hsm.1 3 (by decide)) (hsm.1 4 (by decide)) (hsm.1 5 (by decide)) (hsm.1 6 (by decide))
      refine br_iload C dX4_findFinest_11 rfl ?_
      refine br_iload_n C dX4_findFinest_13 rfl rfl ?_
      refine br_icmp_geJ C (by omega) (by omega) dX4_findFinest_14 (tgt := 62) (by decide) (fun c14 => ?_) (fun c14 => ?_)
      · omega
      · refine br_aload_n C dX4_findFinest_17 rfl rfl ?_
        refine br_iload C dX4_findFinest_18 rfl ?_
        refine br_iload_n C dX4_findFinest_20 rfl rfl ?_
        refine br_cv2 C vcX4_231 (c_X4_pickByNumber hgτ.1 hn1 hg7 c m hm (by omega)) (by decide) rfl rfl (fun _ => Nat.le_of_ble_eq_true rfl) dX4_findFinest_21 (fun v21 τ21 hv => ?_)
        obtain ⟨rfl, hrw, hs1⟩ := hv
        have hsm1 := hsm.trans (hs1.mono (qs' := [11, 12, 13, 14]) (by decide))
        refine br_if_eqJ C (by omega) dX4_findFinest_24 (tgt := 56) (by decide) (fun c24 => ?_) (fun c24 => ?_)
        · have hd : ¬ br_dst g.1 m c := fun q => by rw [if_pos q] at c24; omega
          refine br_iincJ C dX4_findFinest_56 rfl (by decide) rfl (L' := [_, _, _, _, _, _]) rfl ?_
          refine br_goto C dX4_findFinest_59 (tgt := 11) (by decide) ?_
          refine ih (c + 1) τ21 _ _ (by omega) hsm1 hab ?_
          unfold br_bs
          rw [if_neg hd]
          cases hb : br_bs g m c with
          | none => rw [hb] at hbest0; exact hbest0
          | some c2 => rw [hb] at hbest0; exact ⟨hbest0.1, hbest0.2.keep (hs1.1 13 (by decide)) (hs1.1 14 (by decide))⟩
        · have hd : br_dst g.1 m c := by
            by_cases q : br_dst g.1 m c
            · exact q
            · rw [if_neg q] at c24; omega
          have hok := br_Rok_rw hn1 (show m ≤ 5 by omega) hd
          have hgτ1 : br_GC τ21 g := hg.keep (hsm1.1 3 (by decide)) (hsm1.1 4 (by decide)) (hsm1.1 5 (by decide)) (hsm1.1 6 (by decide))
          have hmb := br_mh_bnd hgo hok
          refine br_aload_n C dX4_findFinest_27 rfl rfl ?_
          refine br_getR C fdX4_56 dX4_findFinest_28 rfl rfl ?_
          refine br_cv0R C vcX4_150 (c_X2_meanInHundredths (q := 11) rfl rfl hgτ1 hgo (hrw hd) hok) (by decide) rfl rfl (fun _ => Nat.le_of_ble_eq_true rfl) dX4_findFinest_31 ?_
          refine br_istore C dX4_findFinest_34 (by decide) rfl (L' := [_, _, _, _, _, _]) rfl ?_
          refine br_iload C dX4_findFinest_36 rfl ?_
          refine br_iload_n C dX4_findFinest_38 rfl rfl ?_
          refine br_icmp_leJ C (by omega) (by omega) dX4_findFinest_39 (tgt := 56) (by decide) (fun c39 => ?_) (fun c39 => ?_)
          · refine br_iincJ C dX4_findFinest_56 rfl (by decide) rfl (L' := [_, _, _, _, _, _]) rfl ?_
            refine br_goto C dX4_findFinest_59 (tgt := 11) (by decide) ?_
            refine ih (c + 1) τ21 _ _ (by omega) hsm1 hab ?_
            unfold br_bs
            rw [if_pos hd]
            cases hb : br_bs g m c with
            | none => rw [hb] at hbest0; have hbest1 : a = 0 := hbest0; omega
            | some c2 =>
              rw [hb] at hbest0
              have hbest1 : a = br_mh g (br_rw g.1 m c2) ∧ br_RC 13 τ (br_rw g.1 m c2) := hbest0
              simp only
              rw [if_neg (by omega)]
              exact ⟨hbest1.1, hbest1.2.keep (hs1.1 13 (by decide)) (hs1.1 14 (by decide))⟩
          · refine br_iload C dX4_findFinest_42 rfl ?_
            refine br_istore_n C dX4_findFinest_44 rfl (by decide) rfl (L' := [_, _, _, _, _, _]) rfl ?_
            refine br_aload_n C dX4_findFinest_45 rfl rfl ?_
            refine br_getR C fdX4_59 dX4_findFinest_46 rfl rfl ?_
            refine br_aload_n C dX4_findFinest_49 rfl rfl ?_
            refine br_getR C fdX4_56 dX4_findFinest_50 rfl rfl ?_
            refine br_cv1 C vcX4_169 (c_X2_copyFrom (q := 13) rfl rfl (q2 := 11) rfl rfl (hrw hd) (by show m ≤ 5; omega) (by omega)) (by decide) rfl rfl (fun _ => Nat.le_of_ble_eq_true rfl) dX4_findFinest_53 (fun v53 τ53 hv => ?_)
            obtain ⟨rfl, hr13, hs2⟩ := hv
            have hsm2 := hsm1.trans (hs2.mono (qs' := [11, 12, 13, 14]) (by decide))
            refine br_iincJ C dX4_findFinest_56 rfl (by decide) rfl (L' := [_, _, _, _, _, _]) rfl ?_
            refine br_goto C dX4_findFinest_59 (tgt := 11) (by decide) ?_
            refine ih (c + 1) τ53 _ _ (by omega) hsm2 (by omega) ?_
            unfold br_bs
            rw [if_pos hd]
            cases hb : br_bs g m c with
            | none => exact ⟨rfl, hr13⟩
            | some c2 =>
              rw [hb] at hbest0
              have hbest1 : a = br_mh g (br_rw g.1 m c2) ∧ br_RC 13 τ (br_rw g.1 m c2) := hbest0
              simp only
              rw [if_pos (by omega)]
              exact ⟨rfl, hr13⟩
  refine br_aload_n C dX4_findFinest_0 rfl rfl ?_
  refine br_iload_n C dX4_findFinest_1 rfl rfl ?_
  refine br_cv1R C vcX4_228 (c_X4_picksOf hg.1 m (by omega)) (by decide) rfl rfl (fun _ => Nat.le_of_ble_eq_true rfl) dX4_findFinest_2 ?_
  refine br_istore_n C dX4_findFinest_5 rfl (by decide) rfl (L' := [_, _, _, _, _, _]) rfl ?_
  refine br_iconstJ C dX4_findFinest_6 ?_
  refine br_istore_n C dX4_findFinest_7 rfl (by decide) rfl (L' := [_, _, _, _, _, _]) rfl ?_
  refine br_iconstJ C dX4_findFinest_8 ?_
  refine br_istore C dX4_findFinest_9 (by decide) rfl (L' := [_, _, _, _, _, _]) rfl ?_
  exact loop (g.1 ^ m) 0 σ 0 _ (by omega) br_sm.rfl (by omega) rfl
