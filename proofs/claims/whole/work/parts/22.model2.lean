def br_MR (σ : br_Wd) : br_A → Prop
  | (w, g, r, c, t, n, b, kp, r2, c2, t2) => (br_PM σ w ∧ br_GM σ g ∧ br_RM 26 σ r ∧ br_TM 29 σ t) ∧ (σ.1 23 7 = br_J r.1 ∧ σ.1 23 11 = br_J t.1 ∧ σ.1 23 3 = br_J c ∧ σ.1 23 4 = br_J n ∧ σ.1 23 8 = br_J b) ∧ (∃ e : Int, σ.1 23 14 = br_J e ∧ (-1 ≤ e ∧ e ≤ n) ∧ (kp = true ↔ e = n)) ∧ (kp = true → (br_RM 30 σ r2 ∧ br_TM 31 σ t2) ∧ σ.1 23 15 = br_J r2.1 ∧ σ.1 23 16 = br_J c2 ∧ σ.1 23 17 = br_J t2.1)
abbrev br_QM (x : Int32) (A : br_A) (σ : br_Wd) : br_post := fun v τ => v = some (br_i x) ∧ br_MR τ A ∧ br_fm σ τ
theorem br_QM.of {d : Nat} {Y : br_Y} {args : List br_V} {σ : br_Wd} {x : Int32} {A : br_A} (h : br_Met d Y args σ (br_R x σ)) (hc : br_MR σ A) : br_Met d Y args σ (br_QM x A σ) := h.to (fun v τ q => by
  obtain ⟨rfl, rfl⟩ := q
  exact ⟨Eq.refl _, hc, br_fm.rfl⟩)
theorem br_PM.keep {σ τ : br_Wd} {w : br_Pg} (h : br_PM σ w) (e1 : τ.1 23 1 = σ.1 23 1) (e2 : τ.1 24 = σ.1 24) : br_PM τ w := ⟨by rw [e1]; exact h.1, fun j hj => by rw [e2]; exact h.2 j hj⟩
theorem br_GM.keep {σ τ : br_Wd} {g : br_Gy} (h : br_GM σ g) (e1 : τ.1 23 2 = σ.1 23 2) (e2 : τ.1 25 = σ.1 25) : br_GM τ g := ⟨by rw [e1]; exact h.1, fun j hj => by rw [e2]; exact h.2.1 j hj, fun j hj => by rw [e2]; exact h.2.2.1 j hj, fun j hj => by rw [e2]; exact h.2.2.2 j hj⟩
theorem br_RM.keep {a : Nat} {σ τ : br_Wd} {r : br_Ro} (h : br_RM a σ r) (e1 : τ.1 a = σ.1 a) : br_RM a τ r := fun j hj => by rw [e1]; exact h j hj
theorem br_TM.keep {a : Nat} {σ τ : br_Wd} {t : br_Tr} (h : br_TM a σ t) (e1 : τ.1 a = σ.1 a) : br_TM a τ t := ⟨fun j hj => by rw [e1]; exact h.1 j hj, fun j hj => by rw [e1]; exact h.2.1 j hj, fun j hj => by rw [e1]; exact h.2.2 j hj⟩
theorem br_RM.copy {a b : Nat} {σ τ : br_Wd} {r : br_Ro} (h : br_RM a σ r) (h5 : r.1 ≤ 5) (e : ∀ j : Nat, j < 5 → τ.1 b j = σ.1 a j) : br_RM b τ r := fun j hj => by rw [e j (by omega)]; exact h j hj
theorem br_TM.copy {a b : Nat} {σ τ : br_Wd} {t : br_Tr} (h : br_TM a σ t) (h8 : t.1 ≤ 8) (e : ∀ j : Nat, j < 24 → τ.1 b j = σ.1 a j) : br_TM b τ t := ⟨fun j hj => by rw [e (3 * j) (by omega)]; exact h.1 j hj, fun j hj => by rw [e (3 * j + 1) (by omega)]; exact h.2.1 j hj, fun j hj => by rw [e (3 * j + 2) (by omega)]; exact h.2.2 j hj⟩

set_option maxHeartbeats 4000000 in
set_option maxRecDepth 100000 in
theorem c_X5_meanOf {σ : br_Wd} {g : br_Gy} (hg : br_GM σ g) (hgo : br_Gok g) {ra : Nat} (hra : br_shps[ra]? = some (.inl (false, 5))) {r : br_Ro} (hr : br_RM ra σ r) (hro : br_Rok g r) (k : Int) (hbk : -2147483648 ≤ k ∧ k < 2147483648) : br_Met 4 mX5_meanOf [br_r 23, br_r ra, br_i (br_J r.1), br_i (br_J k)] σ (br_R (br_J (br_lo (br_mh g r) 100 k)) σ) := by
  have hg0 := hg
  have hgo0 := hgo
  obtain ⟨hgn, hK, hWo, hS⟩ := hg
  have hg7 := hgo.1
  have hr0 := hr
  have h5r := hro.1
  refine br_ofW (by decide) 2 rfl (fun G C => ?_)
  have hub := br_mu_bnd hgo hro
  have hpb := br_pow10 h5r
  have hmb := br_mh_bnd hgo hro
  have hgp := br_gcd_pos (a := (10 : Int) ^ r.1) (b := br_mu g r) (by omega)
  have hlo := br_lo_like k (show 0 ≤ br_mu g r by omega) (show 0 < (10 : Int) ^ r.1 by omega) (show 0 ≤ br_mh g r by omega) (show (0 : Int) < 100 by omega) (br_mu_eq g r)
  refine br_aload_n C dX5_meanOf_0 rfl rfl ?_
  refine br_aload_n C dX5_meanOf_1 rfl rfl ?_
  refine br_iload_n C dX5_meanOf_2 rfl rfl ?_
  refine br_cv2R C vcX5_128 (c_X5_meanUp hg0 hgo0 hra hr0 hro) (by decide) rfl rfl (fun _ => Nat.le_of_ble_eq_true rfl) dX5_meanOf_3 ?_
  refine br_istore C dX5_meanOf_6 (by decide) rfl (L' := [_, _, _, _, _, _]) rfl ?_
  refine br_iload_n C dX5_meanOf_8 rfl rfl ?_
  refine br_cs1R C scX5_132 (c_X5_powerOf r.1 h5r) (by decide) (fun _ => Nat.le_of_ble_eq_true rfl) dX5_meanOf_9 ?_
  refine br_iload C dX5_meanOf_12 rfl ?_
  refine br_cs2R C scX5_135 (c_X5_common _ _ (by omega) (by omega)) (by decide) (fun _ => Nat.le_of_ble_eq_true rfl) dX5_meanOf_14 ?_
  refine br_istore C dX5_meanOf_17 (by decide) rfl (L' := [_, _, _, _, _, _]) rfl ?_
  refine br_iload_n C dX5_meanOf_19 rfl rfl ?_
  refine br_if_neJ C (by omega) dX5_meanOf_20 (tgt := 31) (by decide) (fun c20 => ?_) (fun c20 => ?_)
  · refine br_iload_n C dX5_meanOf_31 rfl rfl ?_
    refine br_cs1R C scX5_132 (c_X5_powerOf r.1 h5r) (by decide) (fun _ => Nat.le_of_ble_eq_true rfl) dX5_meanOf_32 ?_
    refine br_iload C dX5_meanOf_35 rfl ?_
    refine br_idivJ C (by omega) (by omega) dX5_meanOf_37 ?_
    exact br_iret C rfl dX5_meanOf_38 ⟨by rw [← hlo]; unfold br_lo; rw [br_gcd_comm (br_mu g r)]; first | rw [if_pos (by omega)] | rw [if_neg (by omega)], rfl⟩
  · refine br_iload C dX5_meanOf_23 rfl ?_
    refine br_iload C dX5_meanOf_25 rfl ?_
    refine br_idivJ C (by omega) (by omega) dX5_meanOf_27 ?_
    refine br_goto C dX5_meanOf_28 (tgt := 38) (by decide) ?_
    exact br_iret C rfl dX5_meanOf_38 ⟨by rw [← hlo]; unfold br_lo; rw [br_gcd_comm (br_mu g r)]; first | rw [if_pos (by omega)] | rw [if_neg (by omega)], rfl⟩

set_option maxHeartbeats 4000000 in
set_option maxRecDepth 100000 in
theorem c_X5_oddsOf {σ : br_Wd} {g : br_Gy} (hg : br_GM σ g) (hgo : br_Gok g) {r : br_Ro} (hr7 : σ.1 23 7 = br_J r.1) (hr : br_RM 26 σ r) (hro : br_Rok g r) (s : Int) (hsb : -100 ≤ s ∧ s ≤ 100) (k : Int) (hbk : -2147483648 ≤ k ∧ k < 2147483648) : br_Met 4 mX5_oddsOf [br_r 23, br_i (br_J s), br_i (br_J k)] σ (br_R (br_J (br_lo (br_od g r s) ((10 : Int) ^ r.1) k)) σ) := by
  have hg0 := hg
  have hgo0 := hgo
  obtain ⟨hgn, hK, hWo, hS⟩ := hg
  have hg7 := hgo.1
  have hr0 := hr
  have h5r := hro.1
  refine br_ofW (by decide) 2 rfl (fun G C => ?_)
  have hob := br_od_bnd hgo hro s
  have hpb := br_pow10 h5r
  have hgp := br_gcd_pos (a := br_od g r s) (b := (10 : Int) ^ r.1) (by omega)
  rw [br_gcd_comm] at hgp
  refine br_aload_n C dX5_oddsOf_0 rfl rfl ?_
  refine br_aload_n C dX5_oddsOf_1 rfl rfl ?_
  refine br_getR C fdX5_16 dX5_oddsOf_2 rfl rfl ?_
  refine br_aload_n C dX5_oddsOf_5 rfl rfl ?_
  refine br_getI C fdX5_66 dX5_oddsOf_6 rfl rfl (by assumption) ?_
  refine br_iload_n C dX5_oddsOf_9 rfl rfl ?_
  refine br_cv3R C vcX5_141 (c_X5_oddsUp hg0 hgo0 (ra := 26) rfl hr0 hro s hsb) (by decide) rfl rfl (fun _ => Nat.le_of_ble_eq_true rfl) dX5_oddsOf_10 ?_
  refine br_istore_n C dX5_oddsOf_13 rfl (by decide) rfl (L' := [_, _, _, _, _]) rfl ?_
  refine br_aload_n C dX5_oddsOf_14 rfl rfl ?_
  refine br_getI C fdX5_66 dX5_oddsOf_15 rfl rfl (by assumption) ?_
  refine br_cs1R C scX5_132 (c_X5_powerOf r.1 h5r) (by decide) (fun _ => Nat.le_of_ble_eq_true rfl) dX5_oddsOf_18 ?_
  refine br_iload_n C dX5_oddsOf_21 rfl rfl ?_
  refine br_cs2R C scX5_135 (c_X5_common _ _ (by omega) (by omega)) (by decide) (fun _ => Nat.le_of_ble_eq_true rfl) dX5_oddsOf_22 ?_
  refine br_istore C dX5_oddsOf_25 (by decide) rfl (L' := [_, _, _, _, _]) rfl ?_
  refine br_iload_n C dX5_oddsOf_27 rfl rfl ?_
  refine br_if_neJ C (by omega) dX5_oddsOf_28 (tgt := 38) (by decide) (fun c28 => ?_) (fun c28 => ?_)
  · refine br_aload_n C dX5_oddsOf_38 rfl rfl ?_
    refine br_getI C fdX5_66 dX5_oddsOf_39 rfl rfl (by assumption) ?_
    refine br_cs1R C scX5_132 (c_X5_powerOf r.1 h5r) (by decide) (fun _ => Nat.le_of_ble_eq_true rfl) dX5_oddsOf_42 ?_
    refine br_iload C dX5_oddsOf_45 rfl ?_
    refine br_idivJ C (by omega) (by omega) dX5_oddsOf_47 ?_
    exact br_iret C rfl dX5_oddsOf_48 ⟨by unfold br_lo; rw [br_gcd_comm (br_od g r s)]; first | rw [if_pos (by omega)] | rw [if_neg (by omega)], rfl⟩
  · refine br_iload_n C dX5_oddsOf_31 rfl rfl ?_
    refine br_iload C dX5_oddsOf_32 rfl ?_
    refine br_idivJ C (by omega) (by omega) dX5_oddsOf_34 ?_
    refine br_goto C dX5_oddsOf_35 (tgt := 48) (by decide) ?_
    exact br_iret C rfl dX5_oddsOf_48 ⟨by unfold br_lo; rw [br_gcd_comm (br_od g r s)]; first | rw [if_pos (by omega)] | rw [if_neg (by omega)], rfl⟩

set_option maxHeartbeats 4000000 in
set_option maxRecDepth 100000 in
theorem c_X5_triedWays {σ : br_Wd} {g : br_Gy} (hg : br_GM σ g) (hgo : br_Gok g) {t : br_Tr} (ht : br_TM 29 σ t) (ht11 : σ.1 23 11 = br_J t.1) (hto : br_Tok g t) (p : Nat) (hp : p < g.1) (v : Int) (hv : 0 ≤ v ∧ v ≤ 9) : br_Met 1 mX5_triedWays [br_r 23, br_i (br_J p), br_i (br_J v)] σ (br_RL (br_K (br_lk g t p v)) σ) := by
  have hg0 := hg
  have hgo0 := hgo
  have ht0 := ht
  obtain ⟨hgn, hK, hWo, hS⟩ := hg
  have hg7 := hgo.1
  have h8t := hto.1
  obtain ⟨h1, h2, h3⟩ := ht
  refine br_ofW (by decide) 4 rfl (fun G C => ?_)
  have loop : ∀ (n i : Nat) (a : Int) (x : Option br_V), i + n = t.1 → a = br_prod (br_lkf g t p v) i → G 5 [some (br_r 23), some (br_i (br_J p)), some (br_i (br_J v)), some (br_l (br_K a)), none, some (br_i (br_J i)), x] [] σ := by
    intro n
    induction n with
    | zero =>
      intro i a x hin ha
      have ei : i = t.1 := by omega
      subst ei
      refine br_iload C dX5_triedWays_5 rfl ?_
      refine br_aload_n C dX5_triedWays_7 rfl rfl ?_
      refine br_getI C fdX5_72 dX5_triedWays_8 rfl rfl (by assumption) ?_
      refine br_icmp_geJ C (by omega) (by omega) dX5_triedWays_11 (tgt := 92) (by decide) (fun c11 => ?_) (fun c11 => ?_)
      · refine br_lload_n C dX5_triedWays_92 rfl rfl ?_
        exact br_lret C rfl dX5_triedWays_93 ⟨by rw [ha]; rfl, rfl⟩
      · omega
    | succ n ih =>
      intro i a x hin ha
      have hi : i < t.1 := by omega
      refine br_iload C dX5_triedWays_5 rfl ?_
      refine br_aload_n C dX5_triedWays_7 rfl rfl ?_
      refine br_getI C fdX5_72 dX5_triedWays_8 rfl rfl (by assumption) ?_
      refine br_icmp_geJ C (by omega) (by omega) dX5_triedWays_11 (tgt := 92) (by decide) (fun c11 => ?_) (fun c11 => ?_)
      · omega
      · have hti := hto.2 i hi
        have hgp := hgo.2 p hp
        have hchb := br_ch_bnd (kd := br_gK g p) (pl := (t.2.2.1 i : Nat)) hv
        refine br_aload_n C dX5_triedWays_14 rfl rfl ?_
        refine br_getR C fdX5_13 dX5_triedWays_15 rfl rfl ?_
        refine br_iconstJ C dX5_triedWays_18 ?_
        refine br_iload_n C dX5_triedWays_19 rfl rfl ?_
        refine br_imulJ C dX5_triedWays_20 ?_
        refine br_ialdJ C rfl (by decide) (by omega) (by omega) (y := br_gK g (p)) (by rw [show (3 * ((p : Nat) : Int)).toNat = 3 * p by omega]; exact hK (p) hp) dX5_triedWays_21 ?_
        refine br_iload_n C dX5_triedWays_22 rfl rfl ?_
        refine br_aload_n C dX5_triedWays_23 rfl rfl ?_
        refine br_getR C fdX5_25 dX5_triedWays_24 rfl rfl ?_
        refine br_iconstJ C dX5_triedWays_27 ?_
        refine br_iload C dX5_triedWays_28 rfl ?_
        refine br_imulJ C dX5_triedWays_30 ?_
        refine br_iconstJ C dX5_triedWays_31 ?_
        refine br_iaddJ C dX5_triedWays_32 ?_
        refine br_ialdJ C rfl (by decide) (by omega) (by omega) (y := (t.2.2.1 i : Nat)) (by rw [show (3 * ((i : Nat) : Int) + 1).toNat = 3 * i + 1 by omega]; exact h2 i hi) dX5_triedWays_33 ?_
        refine br_cs3R C scX5_78 (c_X5_tenthsBy _ _ _ (by omega) (by omega) (by omega)) (by decide) (fun _ => Nat.le_of_ble_eq_true rfl) dX5_triedWays_34 ?_
        refine br_istore C dX5_triedWays_37 (by decide) rfl (L' := [_, _, _, _, _, _, _]) rfl ?_
        refine br_lload_n C dX5_triedWays_39 rfl rfl ?_
        refine br_aload_n C dX5_triedWays_40 rfl rfl ?_
        refine br_getR C fdX5_25 dX5_triedWays_41 rfl rfl ?_
        refine br_iconstJ C dX5_triedWays_44 ?_
        refine br_iload C dX5_triedWays_45 rfl ?_
        refine br_imulJ C dX5_triedWays_47 ?_
        refine br_ialdJ C rfl (by decide) (by omega) (by omega) (y := (t.2.1 i : Nat)) (by rw [show (3 * ((i : Nat) : Int)).toNat = 3 * i by omega]; exact h1 i hi) dX5_triedWays_48 ?_
        refine br_iload_n C dX5_triedWays_49 rfl rfl ?_
        refine br_icmp_eqJ C (by omega) (by omega) dX5_triedWays_50 (tgt := 57) (by decide) (fun c50 => ?_) (fun c50 => ?_)
        · refine br_aload_n C dX5_triedWays_57 rfl rfl ?_
          refine br_getR C fdX5_25 dX5_triedWays_58 rfl rfl ?_
          refine br_iconstJ C dX5_triedWays_61 ?_
          refine br_iload C dX5_triedWays_62 rfl ?_
          refine br_imulJ C dX5_triedWays_64 ?_
          refine br_iconstJ C dX5_triedWays_65 ?_
          refine br_iaddJ C dX5_triedWays_66 ?_
          refine br_ialdJ C rfl (by decide) (by omega) (by omega) (y := (t.2.2.2 i : Nat)) (by rw [show (3 * ((i : Nat) : Int) + 2).toNat = 3 * i + 2 by omega]; exact h3 i hi) dX5_triedWays_67 ?_
          refine br_iconstJ C dX5_triedWays_68 ?_
          refine br_icmp_neJ C (by omega) (by omega) dX5_triedWays_69 (tgt := 78) (by decide) (fun c69 => ?_) (fun c69 => ?_)
          · refine br_bipushJ C (by decide) dX5_triedWays_78 ?_
            refine br_iload C dX5_triedWays_80 rfl ?_
            refine br_isubJ C dX5_triedWays_82 ?_
            refine br_i2lK C (by omega) dX5_triedWays_83 ?_
            refine br_lmulK C dX5_triedWays_84 ?_
            refine br_lstore_n C dX5_triedWays_85 rfl (by decide) rfl (L' := [_, _, _, _, _, _, _]) rfl ?_
            refine br_iincJ C dX5_triedWays_86 rfl (by decide) rfl (L' := [_, _, _, _, _, _, _]) rfl ?_
            refine br_goto C dX5_triedWays_89 (tgt := 5) (by decide) ?_
            exact ih (i + 1) _ _ (by omega) (by show _ = br_prod _ i * br_lkf g t p v i; rw [← ha]; unfold br_lkf; first | (rw [if_neg (by omega)]; done) | (rw [if_neg (by omega)]; rfl) | rw [if_pos (by omega), if_pos (by omega)] | rw [if_pos (by omega), if_neg (by omega)])
          · refine br_iload C dX5_triedWays_72 rfl ?_
            refine br_i2lK C (by omega) dX5_triedWays_74 ?_
            refine br_goto C dX5_triedWays_75 (tgt := 84) (by decide) ?_
            refine br_lmulK C dX5_triedWays_84 ?_
            refine br_lstore_n C dX5_triedWays_85 rfl (by decide) rfl (L' := [_, _, _, _, _, _, _]) rfl ?_
            refine br_iincJ C dX5_triedWays_86 rfl (by decide) rfl (L' := [_, _, _, _, _, _, _]) rfl ?_
            refine br_goto C dX5_triedWays_89 (tgt := 5) (by decide) ?_
            exact ih (i + 1) _ _ (by omega) (by show _ = br_prod _ i * br_lkf g t p v i; rw [← ha]; unfold br_lkf; first | (rw [if_neg (by omega)]; done) | (rw [if_neg (by omega)]; rfl) | rw [if_pos (by omega), if_pos (by omega)] | rw [if_pos (by omega), if_neg (by omega)])
        · refine br_lconst C dX5_triedWays_53 (v := br_K 1) (by decide) ?_
          refine br_goto C dX5_triedWays_54 (tgt := 84) (by decide) ?_
          refine br_lmulK C dX5_triedWays_84 ?_
          refine br_lstore_n C dX5_triedWays_85 rfl (by decide) rfl (L' := [_, _, _, _, _, _, _]) rfl ?_
          refine br_iincJ C dX5_triedWays_86 rfl (by decide) rfl (L' := [_, _, _, _, _, _, _]) rfl ?_
          refine br_goto C dX5_triedWays_89 (tgt := 5) (by decide) ?_
          exact ih (i + 1) _ _ (by omega) (by show _ = br_prod _ i * br_lkf g t p v i; rw [← ha]; unfold br_lkf; first | (rw [if_neg (by omega)]; done) | (rw [if_neg (by omega)]; rfl) | rw [if_pos (by omega), if_pos (by omega)] | rw [if_pos (by omega), if_neg (by omega)])
  refine br_lconst C dX5_triedWays_0 (v := br_K 1) (by decide) ?_
  refine br_lstore_n C dX5_triedWays_1 rfl (by decide) rfl (L' := [_, _, _, _, _, _, _]) rfl ?_
  refine br_iconstJ C dX5_triedWays_2 ?_
  refine br_istore C dX5_triedWays_3 (by decide) rfl (L' := [_, _, _, _, _, _, _]) rfl ?_
  exact loop t.1 0 1 _ (by omega) rfl

set_option maxHeartbeats 4000000 in
set_option maxRecDepth 100000 in
theorem c_X5_sureOf {σ : br_Wd} {g : br_Gy} (hg : br_GM σ g) (hgo : br_Gok g) {t : br_Tr} (ht : br_TM 29 σ t) (ht11 : σ.1 23 11 = br_J t.1) (hto : br_Tok g t) (p : Nat) (hp : p < g.1) : br_Met 2 mX5_sureOf [br_r 23, br_i (br_J p)] σ (br_R (br_sures g t p) σ) := by
  have hg0 := hg
  have hgo0 := hgo
  have ht0 := ht
  obtain ⟨hgn, hK, hWo, hS⟩ := hg
  have hg7 := hgo.1
  have h8t := hto.1
  obtain ⟨h1, h2, h3⟩ := ht
  refine br_ofW (by decide) 2 rfl (fun G C => ?_)
  have loop : ∀ (n i : Nat) (a : Int32), i + n = 9 → a = br_bt (fun v : Nat => br_lk g t p ((v : Int) + 1)) i → G 4 [some (br_r 23), some (br_i (br_J p)), some (br_i a), some (br_i (br_J ((i : Int) + 1)))] [] σ := by
    intro n
    induction n with
    | zero =>
      intro i a hin ha
      refine br_iload_n C dX5_sureOf_4 rfl rfl ?_
      refine br_bipushJ C (by decide) dX5_sureOf_5 ?_
      refine br_icmp_geJ C (by omega) (by omega) dX5_sureOf_7 (tgt := 39) (by decide) (fun c7 => ?_) (fun c7 => ?_)
      · refine br_iload_n C dX5_sureOf_39 rfl rfl ?_
        exact br_iret C rfl dX5_sureOf_40 ⟨by rw [ha, show i = 9 by omega]; rfl, rfl⟩
      · omega
    | succ n ih =>
      intro i a hin ha
      have hi : i < 9 := by omega
      refine br_iload_n C dX5_sureOf_4 rfl rfl ?_
      refine br_bipushJ C (by decide) dX5_sureOf_5 ?_
      refine br_icmp_geJ C (by omega) (by omega) dX5_sureOf_7 (tgt := 39) (by decide) (fun c7 => ?_) (fun c7 => ?_)
      · omega
      · have hlb := br_lk_bnd g t p (v := (i : Int) + 1) (by omega) h8t
        have hsg := br_sg_spec (br_lk g t p ((i : Int) + 1)) 0
        refine br_iload_n C dX5_sureOf_10 rfl rfl ?_
        refine br_aload_n C dX5_sureOf_11 rfl rfl ?_
        refine br_iload_n C dX5_sureOf_12 rfl rfl ?_
        refine br_iload_n C dX5_sureOf_13 rfl rfl ?_
        refine br_cv2L C vcX5_173 (c_X5_triedWays hg0 hgo0 ht0 ht11 hto p hp ((i : Int) + 1) (by omega)) (by decide) rfl rfl (fun _ => Nat.le_of_ble_eq_true rfl) dX5_sureOf_14 ?_
        refine br_lconst C dX5_sureOf_17 (v := br_K 0) (by decide) ?_
        refine br_lcmpK C (by omega) (by omega) dX5_sureOf_18 ?_
        refine br_if_leJ C (by omega) dX5_sureOf_19 (tgt := 30) (by decide) (fun c19 => ?_) (fun c19 => ?_)
        · refine br_iconstJ C dX5_sureOf_30 ?_
          refine br_iorE C rfl dX5_sureOf_31 ?_
          refine br_istore_n C dX5_sureOf_32 rfl (by decide) rfl (L' := [_, _, _, _]) rfl ?_
          refine br_iincJ C dX5_sureOf_33 rfl (by decide) rfl (L' := [_, _, _, _]) rfl ?_
          refine br_goto C dX5_sureOf_36 (tgt := 4) (by decide) ?_
          exact ih (i + 1) _ (by omega) (by show _ = br_bt _ i ||| (if 0 < (fun v : Nat => br_lk g t p ((v : Int) + 1)) i then br_J 1 <<< (br_J i &&& 31) else br_J 0); rw [← ha]; first | (rw [if_pos (by simp only []; omega)]; rw [show (i : Int) + 1 - 1 = i by omega]) | rw [if_neg (by simp only []; omega)])
        · refine br_iconstJ C dX5_sureOf_22 ?_
          refine br_iload_n C dX5_sureOf_23 rfl rfl ?_
          refine br_iconstJ C dX5_sureOf_24 ?_
          refine br_isubJ C dX5_sureOf_25 ?_
          refine br_ishlE C rfl dX5_sureOf_26 ?_
          refine br_goto C dX5_sureOf_27 (tgt := 31) (by decide) ?_
          refine br_iorE C rfl dX5_sureOf_31 ?_
          refine br_istore_n C dX5_sureOf_32 rfl (by decide) rfl (L' := [_, _, _, _]) rfl ?_
          refine br_iincJ C dX5_sureOf_33 rfl (by decide) rfl (L' := [_, _, _, _]) rfl ?_
          refine br_goto C dX5_sureOf_36 (tgt := 4) (by decide) ?_
          exact ih (i + 1) _ (by omega) (by show _ = br_bt _ i ||| (if 0 < (fun v : Nat => br_lk g t p ((v : Int) + 1)) i then br_J 1 <<< (br_J i &&& 31) else br_J 0); rw [← ha]; first | (rw [if_pos (by simp only []; omega)]; rw [show (i : Int) + 1 - 1 = i by omega]) | rw [if_neg (by simp only []; omega)])
  refine br_iconstJ C dX5_sureOf_0 ?_
  refine br_istore_n C dX5_sureOf_1 rfl (by decide) rfl (L' := [_, _, _, _]) rfl ?_
  refine br_iconstJ C dX5_sureOf_2 ?_
  refine br_istore_n C dX5_sureOf_3 rfl (by decide) rfl (L' := [_, _, _, _]) rfl ?_
  exact loop 9 0 (br_J 0) (by omega) rfl

set_option maxHeartbeats 4000000 in
set_option maxRecDepth 100000 in
theorem c_X5_likelyOf {σ : br_Wd} {g : br_Gy} (hg : br_GM σ g) (hgo : br_Gok g) {t : br_Tr} (ht : br_TM 29 σ t) (ht11 : σ.1 23 11 = br_J t.1) (hto : br_Tok g t) (p : Nat) (hp : p < g.1) : br_Met 2 mX5_likelyOf [br_r 23, br_i (br_J p)] σ (br_R (br_J (br_likely g t p)) σ) := by
  have hg0 := hg
  have hgo0 := hgo
  have ht0 := ht
  obtain ⟨hgn, hK, hWo, hS⟩ := hg
  have hg7 := hgo.1
  have h8t := hto.1
  obtain ⟨h1, h2, h3⟩ := ht
  refine br_ofW (by decide) 6 rfl (fun G C => ?_)
  have loop : ∀ (n i : Nat) (a : Int × Int) (x y : Option br_V), i + n = 9 → a = br_am (fun v : Nat => br_lk g t p ((v : Int) + 1)) i → G 7 [some (br_r 23), some (br_i (br_J p)), some (br_i (br_J a.1)), some (br_l (br_K a.2)), none, some (br_i (br_J ((i : Int) + 1))), x, y] [] σ := by
    intro n
    induction n with
    | zero =>
      intro i a x y hin ha
      refine br_iload C dX5_likelyOf_7 rfl ?_
      refine br_bipushJ C (by decide) dX5_likelyOf_9 ?_
      refine br_icmp_geJ C (by omega) (by omega) dX5_likelyOf_11 (tgt := 57) (by decide) (fun c11 => ?_) (fun c11 => ?_)
      · refine br_iload_n C dX5_likelyOf_57 rfl rfl ?_
        exact br_iret C rfl dX5_likelyOf_58 ⟨by rw [ha, show i = 9 by omega]; rfl, rfl⟩
      · omega
    | succ n ih =>
      intro i a x y hin ha
      have hi : i < 9 := by omega
      have hab : 0 ≤ a.2 ∧ a.2 ≤ 100000000 := by
        rw [ha]
        exact (br_am_bnd (by omega) (fun j hj => (br_lk_bnd g t p (v := (j : Int) + 1) (by omega) h8t).2)).2
      refine br_iload C dX5_likelyOf_7 rfl ?_
      refine br_bipushJ C (by decide) dX5_likelyOf_9 ?_
      refine br_icmp_geJ C (by omega) (by omega) dX5_likelyOf_11 (tgt := 57) (by decide) (fun c11 => ?_) (fun c11 => ?_)
      · omega
      · have hlb := br_lk_bnd g t p (v := (i : Int) + 1) (by omega) h8t
        have hsg := br_sg_spec (br_lk g t p ((i : Int) + 1)) a.2
        refine br_aload_n C dX5_likelyOf_14 rfl rfl ?_
        refine br_iload_n C dX5_likelyOf_15 rfl rfl ?_
        refine br_iload C dX5_likelyOf_16 rfl ?_
        refine br_cv2L C vcX5_173 (c_X5_triedWays hg0 hgo0 ht0 ht11 hto p hp ((i : Int) + 1) (by omega)) (by decide) rfl rfl (fun _ => Nat.le_of_ble_eq_true rfl) dX5_likelyOf_18 ?_
        refine br_lstore C dX5_likelyOf_21 (by decide) rfl (L' := [_, _, _, _, _, _, _, _]) rfl ?_
        refine br_lload C dX5_likelyOf_23 rfl ?_
        refine br_lload_n C dX5_likelyOf_25 rfl rfl ?_
        refine br_lcmpK C (by omega) (by omega) dX5_likelyOf_26 ?_
        refine br_if_leJ C (by omega) dX5_likelyOf_27 (tgt := 35) (by decide) (fun c27 => ?_) (fun c27 => ?_)
        · refine br_iload_n C dX5_likelyOf_35 rfl rfl ?_
          refine br_istore_n C dX5_likelyOf_36 rfl (by decide) rfl (L' := [_, _, _, _, _, _, _, _]) rfl ?_
          refine br_lload C dX5_likelyOf_37 rfl ?_
          refine br_lload_n C dX5_likelyOf_39 rfl rfl ?_
          refine br_lcmpK C (by omega) (by omega) dX5_likelyOf_40 ?_
          refine br_if_leJ C (by omega) dX5_likelyOf_41 (tgt := 49) (by decide) (fun c41 => ?_) (fun c41 => ?_)
          · refine br_lload_n C dX5_likelyOf_49 rfl rfl ?_
            refine br_lstore_n C dX5_likelyOf_50 rfl (by decide) rfl (L' := [_, _, _, _, _, _, _, _]) rfl ?_
            refine br_iincJ C dX5_likelyOf_51 rfl (by decide) rfl (L' := [_, _, _, _, _, _, _, _]) rfl ?_
            refine br_goto C dX5_likelyOf_54 (tgt := 7) (by decide) ?_
            first | (exfalso; omega) | exact ih (i + 1) (_, _) _ _ (by omega) (show (_, _) = (if (br_am (fun v : Nat => br_lk g t p ((v : Int) + 1)) i).2 < (fun v : Nat => br_lk g t p ((v : Int) + 1)) i then ((i : Int) + 1, (fun v : Nat => br_lk g t p ((v : Int) + 1)) i) else br_am (fun v : Nat => br_lk g t p ((v : Int) + 1)) i) by rw [← ha]; first | (rw [if_pos (by simp only []; omega)]; done) | (rw [if_pos (by simp only []; omega)]; rfl) | rw [if_neg (by simp only []; omega)])
          · refine br_lload C dX5_likelyOf_44 rfl ?_
            refine br_goto C dX5_likelyOf_46 (tgt := 50) (by decide) ?_
            refine br_lstore_n C dX5_likelyOf_50 rfl (by decide) rfl (L' := [_, _, _, _, _, _, _, _]) rfl ?_
            refine br_iincJ C dX5_likelyOf_51 rfl (by decide) rfl (L' := [_, _, _, _, _, _, _, _]) rfl ?_
            refine br_goto C dX5_likelyOf_54 (tgt := 7) (by decide) ?_
            first | (exfalso; omega) | exact ih (i + 1) (_, _) _ _ (by omega) (show (_, _) = (if (br_am (fun v : Nat => br_lk g t p ((v : Int) + 1)) i).2 < (fun v : Nat => br_lk g t p ((v : Int) + 1)) i then ((i : Int) + 1, (fun v : Nat => br_lk g t p ((v : Int) + 1)) i) else br_am (fun v : Nat => br_lk g t p ((v : Int) + 1)) i) by rw [← ha]; first | (rw [if_pos (by simp only []; omega)]; done) | (rw [if_pos (by simp only []; omega)]; rfl) | rw [if_neg (by simp only []; omega)])
        · refine br_iload C dX5_likelyOf_30 rfl ?_
          refine br_goto C dX5_likelyOf_32 (tgt := 36) (by decide) ?_
          refine br_istore_n C dX5_likelyOf_36 rfl (by decide) rfl (L' := [_, _, _, _, _, _, _, _]) rfl ?_
          refine br_lload C dX5_likelyOf_37 rfl ?_
          refine br_lload_n C dX5_likelyOf_39 rfl rfl ?_
          refine br_lcmpK C (by omega) (by omega) dX5_likelyOf_40 ?_
          refine br_if_leJ C (by omega) dX5_likelyOf_41 (tgt := 49) (by decide) (fun c41 => ?_) (fun c41 => ?_)
          · refine br_lload_n C dX5_likelyOf_49 rfl rfl ?_
            refine br_lstore_n C dX5_likelyOf_50 rfl (by decide) rfl (L' := [_, _, _, _, _, _, _, _]) rfl ?_
            refine br_iincJ C dX5_likelyOf_51 rfl (by decide) rfl (L' := [_, _, _, _, _, _, _, _]) rfl ?_
            refine br_goto C dX5_likelyOf_54 (tgt := 7) (by decide) ?_
            first | (exfalso; omega) | exact ih (i + 1) (_, _) _ _ (by omega) (show (_, _) = (if (br_am (fun v : Nat => br_lk g t p ((v : Int) + 1)) i).2 < (fun v : Nat => br_lk g t p ((v : Int) + 1)) i then ((i : Int) + 1, (fun v : Nat => br_lk g t p ((v : Int) + 1)) i) else br_am (fun v : Nat => br_lk g t p ((v : Int) + 1)) i) by rw [← ha]; first | (rw [if_pos (by simp only []; omega)]; done) | (rw [if_pos (by simp only []; omega)]; rfl) | rw [if_neg (by simp only []; omega)])
          · refine br_lload C dX5_likelyOf_44 rfl ?_
            refine br_goto C dX5_likelyOf_46 (tgt := 50) (by decide) ?_
            refine br_lstore_n C dX5_likelyOf_50 rfl (by decide) rfl (L' := [_, _, _, _, _, _, _, _]) rfl ?_
            refine br_iincJ C dX5_likelyOf_51 rfl (by decide) rfl (L' := [_, _, _, _, _, _, _, _]) rfl ?_
            refine br_goto C dX5_likelyOf_54 (tgt := 7) (by decide) ?_
            first | (exfalso; omega) | exact ih (i + 1) (_, _) _ _ (by omega) (show (_, _) = (if (br_am (fun v : Nat => br_lk g t p ((v : Int) + 1)) i).2 < (fun v : Nat => br_lk g t p ((v : Int) + 1)) i then ((i : Int) + 1, (fun v : Nat => br_lk g t p ((v : Int) + 1)) i) else br_am (fun v : Nat => br_lk g t p ((v : Int) + 1)) i) by rw [← ha]; first | (rw [if_pos (by simp only []; omega)]; done) | (rw [if_pos (by simp only []; omega)]; rfl) | rw [if_neg (by simp only []; omega)])
  refine br_iconstJ C dX5_likelyOf_0 ?_
  refine br_istore_n C dX5_likelyOf_1 rfl (by decide) rfl (L' := [_, _, _, _, _, _, _, _]) rfl ?_
  refine br_lconst C dX5_likelyOf_2 (v := br_K 0) (by decide) ?_
  refine br_lstore_n C dX5_likelyOf_3 rfl (by decide) rfl (L' := [_, _, _, _, _, _, _, _]) rfl ?_
  refine br_iconstJ C dX5_likelyOf_4 ?_
  refine br_istore C dX5_likelyOf_5 (by decide) rfl (L' := [_, _, _, _, _, _, _, _]) rfl ?_
  exact loop 9 0 (-1, 0) _ _ (by omega) rfl

set_option maxHeartbeats 4000000 in
set_option maxRecDepth 100000 in
theorem c_X5_letter {σ : br_Wd} {A : br_A} (hm : br_MR σ A) (hA : br_Aok A) (z : Int) (hbz : -2147483648 ≤ z ∧ z < 2147483648) : br_Met 1 mX5_letter [br_r 23, br_i (br_J z)] σ (br_QM (br_J (br_sLetter A z).1) (br_sLetter A z).2 σ) := by
  obtain ⟨w, g, r, c, t, n, b, kp, ri, ci, ti⟩ := A
  have hm0 := hm
  have hA0 := hA
  obtain ⟨⟨hw, hg, hr, ht⟩, ⟨hr7, ht11, hcc, hnn, hbb⟩, ⟨e, he, heb, hke⟩, him⟩ := hm
  obtain ⟨⟨hwo, hgo, hro, hto⟩, ⟨hb30, hn512⟩, hio⟩ := hA
  have hw1 := hw.1
  have hg1 := hg.1
  have hK := hg.2.1
  have hWo := hg.2.2.1
  have hS := hg.2.2.2
  have hw30 := hwo.1
  have hg7 := hgo.1
  have h5r := hro.1
  have h8t := hto.1
  have hcb := fun (j : Nat) (hj : j < w.1) => (show -2147483648 ≤ w.2 j ∧ w.2 j < 2147483648 by have := hwo.2 j hj; omega)
  have hrb := fun (j : Nat) (hj : j < r.1) => (show r.2 j < 7 by have := hro.2.1 j hj; omega)
  refine br_ofW (by decide) 0 rfl (fun G C => ?_)
  refine br_iload_n C dX5_letter_0 rfl rfl ?_
  refine br_i2lK C (by omega) dX5_letter_1 ?_
  refine br_lconst C dX5_letter_2 (v := br_K 1) (by decide) ?_
  refine br_ldc2K C klX5_38 (z := 126) (by decide) dX5_letter_3 ?_
  refine br_cs3B C scX5_40 (c_X5_in z 1 126 (by omega) (by omega) (by omega)) (by decide) (fun _ => Nat.le_of_ble_eq_true rfl) dX5_letter_6 (fun h6 => ?_) (fun h6 => ?_)
  · refine br_if_ne1 C dX5_letter_9 (tgt := 15) (by decide) ?_
    refine br_aload_n C dX5_letter_15 rfl rfl ?_
    refine br_getI C fdX5_44 dX5_letter_16 rfl rfl (by assumption) ?_
    refine br_bipushJ C (by decide) dX5_letter_19 ?_
    refine br_icmp_neJ C (by omega) (by omega) dX5_letter_21 (tgt := 27) (by decide) (fun c21 => ?_) (fun c21 => ?_)
    · refine br_aload_n C dX5_letter_27 rfl rfl ?_
      refine br_getR C fdX5_7 dX5_letter_28 rfl rfl ?_
      refine br_aload_n C dX5_letter_31 rfl rfl ?_
      refine br_getI C fdX5_44 dX5_letter_32 rfl rfl (by assumption) ?_
      refine br_iload_n C dX5_letter_35 rfl rfl ?_
      refine br_iastJ C rfl (by decide) (by omega) (by omega) rfl dX5_letter_36 ?_
      refine br_aload_n C dX5_letter_37 rfl rfl ?_
      refine br_dup C dX5_letter_38 rfl ?_
      refine br_getI C fdX5_44 dX5_letter_39 rfl rfl (x := br_J w.1) hw1 ?_
      refine br_iconstJ C dX5_letter_42 ?_
      refine br_iaddJ C dX5_letter_43 ?_
      refine br_putI C fdX5_44 dX5_letter_44 rfl rfl rfl ?_
      refine br_aload_n C dX5_letter_47 rfl rfl ?_
      refine br_getI C fdX5_44 dX5_letter_48 rfl rfl (x := br_J (w.1 + 1)) rfl ?_
      exact br_iret C rfl dX5_letter_51 (by
          rw [show br_sLetter (w, g, r, c, t, n, b, kp, ri, ci, ti) z = ((w.1 : Int) + 1, ((w.1 + 1, fun j => if j = w.1 then z else w.2 j), g, r, c, t, n, b, kp, ri, ci, ti)) from (if_neg (by omega)).trans (if_neg (by omega))]
          exact ⟨rfl, ⟨⟨⟨rfl, fun j hj => by
            have hj2 : j < w.1 + 1 := hj
            show (if j = w.1 then br_J z else σ.1 24 j) = br_J (if j = w.1 then z else w.2 j)
            by_cases q : j = w.1
            · rw [if_pos q, if_pos q]
            · rw [if_neg q, if_neg q]; exact hw.2 j (by omega)⟩, hg.keep rfl rfl, hr.keep rfl, ht.keep rfl⟩, ⟨hr7, ht11, hcc, hnn, hbb⟩, ⟨e, he, heb, hke⟩, fun h => ⟨⟨(him h).1.1.keep rfl, (him h).1.2.keep rfl⟩, (him h).2⟩⟩, (((br_sm.rfl (qs := [23, 24])).up (by simp)).up (by simp)).fm (by decide)⟩)
    · refine br_bipushJ C (by decide) dX5_letter_24 ?_
      exact br_iret C rfl dX5_letter_26 (by
          rw [show br_sLetter (w, g, r, c, t, n, b, kp, ri, ci, ti) z = (-104, (w, g, r, c, t, n, b, kp, ri, ci, ti)) from (if_neg (by omega)).trans (if_pos (by omega))]
          exact ⟨rfl, hm0, br_fm.rfl⟩)
  · refine br_if_ne0 C dX5_letter_9 (tgt := 15) (by decide) ?_
    refine br_bipushJ C (by decide) dX5_letter_12 ?_
    exact br_iret C rfl dX5_letter_14 (by
        rw [show br_sLetter (w, g, r, c, t, n, b, kp, ri, ci, ti) z = (-102, (w, g, r, c, t, n, b, kp, ri, ci, ti)) from if_pos (by omega)]
        exact ⟨rfl, hm0, br_fm.rfl⟩)

set_option maxHeartbeats 4000000 in
set_option maxRecDepth 100000 in
theorem c_X5_blank {σ : br_Wd} {A : br_A} (hm : br_MR σ A) (hA : br_Aok A) : br_Met 0 mX5_blank [br_r 23] σ (br_QM (br_J (br_sBlank A).1) (br_sBlank A).2 σ) := by
  obtain ⟨w, g, r, c, t, n, b, kp, ri, ci, ti⟩ := A
  have hm0 := hm
  have hA0 := hA
  obtain ⟨⟨hw, hg, hr, ht⟩, ⟨hr7, ht11, hcc, hnn, hbb⟩, ⟨e, he, heb, hke⟩, him⟩ := hm
  obtain ⟨⟨hwo, hgo, hro, hto⟩, ⟨hb30, hn512⟩, hio⟩ := hA
  have hw1 := hw.1
  have hg1 := hg.1
  have hK := hg.2.1
  have hWo := hg.2.2.1
  have hS := hg.2.2.2
  have hw30 := hwo.1
  have hg7 := hgo.1
  have h5r := hro.1
  have h8t := hto.1
  have hcb := fun (j : Nat) (hj : j < w.1) => (show -2147483648 ≤ w.2 j ∧ w.2 j < 2147483648 by have := hwo.2 j hj; omega)
  have hrb := fun (j : Nat) (hj : j < r.1) => (show r.2 j < 7 by have := hro.2.1 j hj; omega)
  refine br_ofW (by decide) 1 rfl (fun G C => ?_)
  refine br_aload_n C dX5_blank_0 rfl rfl ?_
  refine br_getI C fdX5_44 dX5_blank_1 rfl rfl (by assumption) ?_
  refine br_istore_n C dX5_blank_4 rfl (by decide) rfl (L' := [_, _]) rfl ?_
  refine br_aload_n C dX5_blank_5 rfl rfl ?_
  refine br_iconstJ C dX5_blank_6 ?_
  refine br_putI C fdX5_44 dX5_blank_7 rfl rfl rfl ?_
  refine br_iload_n C dX5_blank_10 rfl rfl ?_
  exact br_iret C rfl dX5_blank_11 ⟨rfl, ⟨⟨⟨rfl, fun j hj => absurd hj (Nat.not_lt_zero j)⟩, hg.keep rfl rfl, hr.keep rfl, ht.keep rfl⟩, ⟨hr7, ht11, hcc, hnn, hbb⟩, ⟨e, he, heb, hke⟩, fun h => ⟨⟨(him h).1.1.keep rfl, (him h).1.2.keep rfl⟩, (him h).2⟩⟩, ((br_sm.rfl (qs := [23])).up (by simp)).fm (by decide)⟩

set_option maxHeartbeats 4000000 in
set_option maxRecDepth 100000 in
theorem c_X5_tell {σ : br_Wd} {A : br_A} (hm : br_MR σ A) (hA : br_Aok A) (z : Int) (hbz : -2147483648 ≤ z ∧ z < 2147483648) (k : Int) (hbk : -2147483648 ≤ k ∧ k < 2147483648) (hz : 0 ≤ z ∧ z < A.2.1.1) : br_Met 3 mX5_tell [br_r 23, br_i (br_J z), br_i (br_J k)] σ (br_R (br_vPiece A z k) σ) := by
  obtain ⟨w, g, r, c, t, n, b, kp, ri, ci, ti⟩ := A
  have hm0 := hm
  have hA0 := hA
  obtain ⟨⟨hw, hg, hr, ht⟩, ⟨hr7, ht11, hcc, hnn, hbb⟩, ⟨e, he, heb, hke⟩, him⟩ := hm
  obtain ⟨⟨hwo, hgo, hro, hto⟩, ⟨hb30, hn512⟩, hio⟩ := hA
  have hw1 := hw.1
  have hg1 := hg.1
  have hK := hg.2.1
  have hWo := hg.2.2.1
  have hS := hg.2.2.2
  have hw30 := hwo.1
  have hg7 := hgo.1
  have h5r := hro.1
  have h8t := hto.1
  have hcb := fun (j : Nat) (hj : j < w.1) => (show -2147483648 ≤ w.2 j ∧ w.2 j < 2147483648 by have := hwo.2 j hj; omega)
  have hrb := fun (j : Nat) (hj : j < r.1) => (show r.2 j < 7 by have := hro.2.1 j hj; omega)
  have hz2 : 0 ≤ z ∧ z < g.1 := hz
  have hpo : -1 ≤ br_po r z ∧ br_po r z < r.1 := br_lst_bnd _ _
  have ez : ((z.toNat : Nat) : Int) = z := by omega
  have hzn : z.toNat < g.1 := by omega
  have hps := c_X5_sureOf hg hgo ht ht11 hto z.toNat hzn
  have hls := c_X5_likelyOf hg hgo ht ht11 hto z.toNat hzn
  rw [ez] at hps hls
  refine br_ofW (by decide) 0 rfl (fun G C => ?_)
  refine br_iload_n C dX5_tell_0 rfl rfl ?_
  rcases (show (k < 0 ∨ 6 < k) ∨ k = 0 ∨ k = 1 ∨ k = 2 ∨ k = 3 ∨ k = 4 ∨ k = 5 ∨ k = 6 by omega) with c1 | rfl | rfl | rfl | rfl | rfl | rfl | rfl
  · refine br_tableOutJ C c1 (by omega) dX5_tell_1 (tgt := 97) (by decide) ?_
    refine br_bipushJ C (by decide) dX5_tell_97 ?_
    exact br_iret C rfl dX5_tell_99 ⟨congrArg (fun x => some (br_i x)) (show _ = br_vPiece (w, g, r, c, t, n, b, kp, ri, ci, ti) z k from ((if_neg (by omega)).trans ((if_neg (by omega)).trans ((if_neg (by omega)).trans ((if_neg (by omega)).trans ((if_neg (by omega)).trans ((if_neg (by omega)).trans ((if_neg (by omega)).trans (if_neg (by omega))))))))).symm), rfl⟩
  · refine br_tableInJ C (by decide) (by decide) (by decide) dX5_tell_1 (off := 43) rfl (tgt := 44) (by decide) ?_
    refine br_aload_n C dX5_tell_44 rfl rfl ?_
    refine br_getR C fdX5_13 dX5_tell_45 rfl rfl ?_
    refine br_iconstJ C dX5_tell_48 ?_
    refine br_iload_n C dX5_tell_49 rfl rfl ?_
    refine br_imulJ C dX5_tell_50 ?_
    refine br_iload_n C dX5_tell_51 rfl rfl ?_
    refine br_iaddJ C dX5_tell_52 ?_
    refine br_ialdJ C rfl (by decide) (by omega) (by omega) (by first | (rw [show (3 * z + 0).toNat = 3 * z.toNat by omega]; exact hK z.toNat hzn) | (rw [show (3 * z + 1).toNat = 3 * z.toNat + 1 by omega]; exact hWo z.toNat hzn) | (rw [show (3 * z + 2).toNat = 3 * z.toNat + 2 by omega]; exact hS z.toNat hzn)) dX5_tell_53 ?_
    exact br_iret C rfl dX5_tell_54 ⟨congrArg (fun x => some (br_i x)) (by first | exact (show _ = br_vPiece (w, g, r, c, t, n, b, kp, ri, ci, ti) z 0 from ((if_neg (by omega)).trans (if_pos rfl)).symm) | exact (show _ = br_vPiece (w, g, r, c, t, n, b, kp, ri, ci, ti) z 1 from ((if_neg (by omega)).trans ((if_neg (by decide)).trans (if_pos rfl))).symm) | exact (show _ = br_vPiece (w, g, r, c, t, n, b, kp, ri, ci, ti) z 2 from ((if_neg (by omega)).trans ((if_neg (by decide)).trans ((if_neg (by decide)).trans (if_pos rfl)))).symm)), rfl⟩
  · refine br_tableInJ C (by decide) (by decide) (by decide) dX5_tell_1 (off := 43) rfl (tgt := 44) (by decide) ?_
    refine br_aload_n C dX5_tell_44 rfl rfl ?_
    refine br_getR C fdX5_13 dX5_tell_45 rfl rfl ?_
    refine br_iconstJ C dX5_tell_48 ?_
    refine br_iload_n C dX5_tell_49 rfl rfl ?_
    refine br_imulJ C dX5_tell_50 ?_
    refine br_iload_n C dX5_tell_51 rfl rfl ?_
    refine br_iaddJ C dX5_tell_52 ?_
    refine br_ialdJ C rfl (by decide) (by omega) (by omega) (by first | (rw [show (3 * z + 0).toNat = 3 * z.toNat by omega]; exact hK z.toNat hzn) | (rw [show (3 * z + 1).toNat = 3 * z.toNat + 1 by omega]; exact hWo z.toNat hzn) | (rw [show (3 * z + 2).toNat = 3 * z.toNat + 2 by omega]; exact hS z.toNat hzn)) dX5_tell_53 ?_
    exact br_iret C rfl dX5_tell_54 ⟨congrArg (fun x => some (br_i x)) (by first | exact (show _ = br_vPiece (w, g, r, c, t, n, b, kp, ri, ci, ti) z 0 from ((if_neg (by omega)).trans (if_pos rfl)).symm) | exact (show _ = br_vPiece (w, g, r, c, t, n, b, kp, ri, ci, ti) z 1 from ((if_neg (by omega)).trans ((if_neg (by decide)).trans (if_pos rfl))).symm) | exact (show _ = br_vPiece (w, g, r, c, t, n, b, kp, ri, ci, ti) z 2 from ((if_neg (by omega)).trans ((if_neg (by decide)).trans ((if_neg (by decide)).trans (if_pos rfl)))).symm)), rfl⟩
  · refine br_tableInJ C (by decide) (by decide) (by decide) dX5_tell_1 (off := 43) rfl (tgt := 44) (by decide) ?_
    refine br_aload_n C dX5_tell_44 rfl rfl ?_
    refine br_getR C fdX5_13 dX5_tell_45 rfl rfl ?_
    refine br_iconstJ C dX5_tell_48 ?_
    refine br_iload_n C dX5_tell_49 rfl rfl ?_
    refine br_imulJ C dX5_tell_50 ?_
    refine br_iload_n C dX5_tell_51 rfl rfl ?_
    refine br_iaddJ C dX5_tell_52 ?_
    refine br_ialdJ C rfl (by decide) (by omega) (by omega) (by first | (rw [show (3 * z + 0).toNat = 3 * z.toNat by omega]; exact hK z.toNat hzn) | (rw [show (3 * z + 1).toNat = 3 * z.toNat + 1 by omega]; exact hWo z.toNat hzn) | (rw [show (3 * z + 2).toNat = 3 * z.toNat + 2 by omega]; exact hS z.toNat hzn)) dX5_tell_53 ?_
    exact br_iret C rfl dX5_tell_54 ⟨congrArg (fun x => some (br_i x)) (by first | exact (show _ = br_vPiece (w, g, r, c, t, n, b, kp, ri, ci, ti) z 0 from ((if_neg (by omega)).trans (if_pos rfl)).symm) | exact (show _ = br_vPiece (w, g, r, c, t, n, b, kp, ri, ci, ti) z 1 from ((if_neg (by omega)).trans ((if_neg (by decide)).trans (if_pos rfl))).symm) | exact (show _ = br_vPiece (w, g, r, c, t, n, b, kp, ri, ci, ti) z 2 from ((if_neg (by omega)).trans ((if_neg (by decide)).trans ((if_neg (by decide)).trans (if_pos rfl)))).symm)), rfl⟩
  · refine br_tableInJ C (by decide) (by decide) (by decide) dX5_tell_1 (off := 54) rfl (tgt := 55) (by decide) ?_
    refine br_aload_n C dX5_tell_55 rfl rfl ?_
    refine br_iload_n C dX5_tell_56 rfl rfl ?_
    refine br_cv1R C vcX5_82 (c_X5_placeOf hr7 hr h5r hrb z hbz) (by decide) rfl rfl (fun _ => Nat.le_of_ble_eq_true rfl) dX5_tell_57 ?_
    exact br_iret C rfl dX5_tell_60 ⟨congrArg (fun x => some (br_i x)) (show _ = br_vPiece (w, g, r, c, t, n, b, kp, ri, ci, ti) z 3 from ((if_neg (by omega)).trans ((if_neg (by decide)).trans ((if_neg (by decide)).trans ((if_neg (by decide)).trans (if_pos rfl))))).symm), rfl⟩
  · refine br_tableInJ C (by decide) (by decide) (by decide) dX5_tell_1 (off := 60) rfl (tgt := 61) (by decide) ?_
    refine br_aload_n C dX5_tell_61 rfl rfl ?_
    refine br_iload_n C dX5_tell_62 rfl rfl ?_
    refine br_cv1R C vcX5_82 (c_X5_placeOf hr7 hr h5r hrb z hbz) (by decide) rfl rfl (fun _ => Nat.le_of_ble_eq_true rfl) dX5_tell_63 ?_
    refine br_iconstJ C dX5_tell_66 ?_
    refine br_icmp_neJ C (by omega) (by omega) dX5_tell_67 (tgt := 74) (by decide) (fun c67 => ?_) (fun c67 => ?_)
    · refine br_aload_n C dX5_tell_74 rfl rfl ?_
      refine br_iload_n C dX5_tell_75 rfl rfl ?_
      refine br_aload_n C dX5_tell_76 rfl rfl ?_
      refine br_iload_n C dX5_tell_77 rfl rfl ?_
      refine br_cv1R C vcX5_82 (c_X5_placeOf hr7 hr h5r hrb z hbz) (by decide) rfl rfl (fun _ => Nat.le_of_ble_eq_true rfl) dX5_tell_78 ?_
      have epo : (((br_po r z).toNat : Nat) : Int) = br_po r z := by omega
      have hto2 := c_X5_tenthsOf hg hgo z.toNat hzn (br_po r z).toNat (by omega)
      rw [ez, epo] at hto2
      have hcrz : br_cr g r (br_po r z).toNat = br_ch (br_gK g z.toNat) (br_gS g z.toNat) (br_po r z) := by
        have h9 := br_lst_some _ _ (show ¬ br_lst (fun j => decide (((r.2 j : Nat) : Int) = z)) r.1 = -1 from by unfold br_po at c67; omega)
        have h10 : ((r.2 (br_po r z).toNat : Nat) : Int) = z := of_decide_eq_true h9.2
        unfold br_cr
        rw [if_pos (by omega), epo, show r.2 (br_po r z).toNat = z.toNat by omega]
      refine br_cv2R C vcX5_85 (hto2) (by decide) rfl rfl (fun _ => Nat.le_of_ble_eq_true rfl) dX5_tell_81 ?_
      exact br_iret C rfl dX5_tell_84 ⟨congrArg (fun x => some (br_i x)) (show _ = br_vPiece (w, g, r, c, t, n, b, kp, ri, ci, ti) z 4 from ((if_neg (by omega)).trans ((if_neg (by decide)).trans ((if_neg (by decide)).trans ((if_neg (by decide)).trans ((if_neg (by decide)).trans ((if_pos rfl).trans (by first | rw [if_pos (by omega)] | (rw [if_neg (by omega), hcrz])))))))).symm), rfl⟩
    · refine br_iconstJ C dX5_tell_70 ?_
      refine br_goto C dX5_tell_71 (tgt := 84) (by decide) ?_
      exact br_iret C rfl dX5_tell_84 ⟨congrArg (fun x => some (br_i x)) (show _ = br_vPiece (w, g, r, c, t, n, b, kp, ri, ci, ti) z 4 from ((if_neg (by omega)).trans ((if_neg (by decide)).trans ((if_neg (by decide)).trans ((if_neg (by decide)).trans ((if_neg (by decide)).trans ((if_pos rfl).trans (by first | rw [if_pos (by omega)] | (rw [if_neg (by omega), hcrz])))))))).symm), rfl⟩
  · refine br_tableInJ C (by decide) (by decide) (by decide) dX5_tell_1 (off := 84) rfl (tgt := 85) (by decide) ?_
    refine br_aload_n C dX5_tell_85 rfl rfl ?_
    refine br_iload_n C dX5_tell_86 rfl rfl ?_
    refine br_cv1R C vcX5_89 (hps) (by decide) rfl rfl (fun _ => Nat.le_of_ble_eq_true rfl) dX5_tell_87 ?_
    exact br_iret C rfl dX5_tell_90 ⟨congrArg (fun x => some (br_i x)) (show _ = br_vPiece (w, g, r, c, t, n, b, kp, ri, ci, ti) z 5 from ((if_neg (by omega)).trans ((if_neg (by decide)).trans ((if_neg (by decide)).trans ((if_neg (by decide)).trans ((if_neg (by decide)).trans ((if_neg (by decide)).trans (if_pos rfl))))))).symm), rfl⟩
  · refine br_tableInJ C (by decide) (by decide) (by decide) dX5_tell_1 (off := 90) rfl (tgt := 91) (by decide) ?_
    refine br_aload_n C dX5_tell_91 rfl rfl ?_
    refine br_iload_n C dX5_tell_92 rfl rfl ?_
    refine br_cv1R C vcX5_92 (hls) (by decide) rfl rfl (fun _ => Nat.le_of_ble_eq_true rfl) dX5_tell_93 ?_
    exact br_iret C rfl dX5_tell_96 ⟨congrArg (fun x => some (br_i x)) (show _ = br_vPiece (w, g, r, c, t, n, b, kp, ri, ci, ti) z 6 from ((if_neg (by omega)).trans ((if_neg (by decide)).trans ((if_neg (by decide)).trans ((if_neg (by decide)).trans ((if_neg (by decide)).trans ((if_neg (by decide)).trans ((if_neg (by decide)).trans (if_pos rfl)))))))).symm), rfl⟩

set_option maxHeartbeats 4000000 in
set_option maxRecDepth 100000 in
theorem c_X5_piece {σ : br_Wd} {A : br_A} (hm : br_MR σ A) (hA : br_Aok A) (z : Int) (hbz : -2147483648 ≤ z ∧ z < 2147483648) (k : Int) (hbk : -2147483648 ≤ k ∧ k < 2147483648) : br_Met 4 mX5_piece [br_r 23, br_i (br_J z), br_i (br_J k)] σ (br_R (br_vPiece A z k) σ) := by
  obtain ⟨w, g, r, c, t, n, b, kp, ri, ci, ti⟩ := A
  have hm0 := hm
  have hA0 := hA
  obtain ⟨⟨hw, hg, hr, ht⟩, ⟨hr7, ht11, hcc, hnn, hbb⟩, ⟨e, he, heb, hke⟩, him⟩ := hm
  obtain ⟨⟨hwo, hgo, hro, hto⟩, ⟨hb30, hn512⟩, hio⟩ := hA
  have hw1 := hw.1
  have hg1 := hg.1
  have hK := hg.2.1
  have hWo := hg.2.2.1
  have hS := hg.2.2.2
  have hw30 := hwo.1
  have hg7 := hgo.1
  have h5r := hro.1
  have h8t := hto.1
  have hcb := fun (j : Nat) (hj : j < w.1) => (show -2147483648 ≤ w.2 j ∧ w.2 j < 2147483648 by have := hwo.2 j hj; omega)
  have hrb := fun (j : Nat) (hj : j < r.1) => (show r.2 j < 7 by have := hro.2.1 j hj; omega)
  refine br_ofW (by decide) 0 rfl (fun G C => ?_)
  refine br_aload_n C dX5_piece_0 rfl rfl ?_
  refine br_iload_n C dX5_piece_1 rfl rfl ?_
  refine br_cv1B C vcX5_95 (c_X5_isPiece hg1 hg7 z hbz) (by decide) rfl rfl (fun _ => Nat.le_of_ble_eq_true rfl) dX5_piece_2 (fun h2 => ?_) (fun h2 => ?_)
  · refine br_if_eq1 C dX5_piece_5 (tgt := 17) (by decide) ?_
    refine br_aload_n C dX5_piece_8 rfl rfl ?_
    refine br_iload_n C dX5_piece_9 rfl rfl ?_
    refine br_iload_n C dX5_piece_10 rfl rfl ?_
    refine br_cv2R C vcX5_99 (c_X5_tell (A := (w, g, r, c, t, n, b, kp, ri, ci, ti)) hm0 hA0 z hbz k hbk h2) (by decide) rfl rfl (fun _ => Nat.le_of_ble_eq_true rfl) dX5_piece_11 ?_
    refine br_goto C dX5_piece_14 (tgt := 19) (by decide) ?_
    exact br_iret C rfl dX5_piece_19 ⟨by first | rfl | exact congrArg (fun x => some (br_i x)) (show br_J (-101) = br_vPiece (w, g, r, c, t, n, b, kp, ri, ci, ti) z k from (if_pos h2).symm), rfl⟩
  · refine br_if_eq0 C dX5_piece_5 (tgt := 17) (by decide) ?_
    refine br_bipushJ C (by decide) dX5_piece_17 ?_
    exact br_iret C rfl dX5_piece_19 ⟨by first | rfl | exact congrArg (fun x => some (br_i x)) (show br_J (-101) = br_vPiece (w, g, r, c, t, n, b, kp, ri, ci, ti) z k from (if_pos h2).symm), rfl⟩

set_option maxHeartbeats 4000000 in
set_option maxRecDepth 100000 in
theorem c_X5_as {σ : br_Wd} {A : br_A} (hm : br_MR σ A) (hA : br_Aok A) (z : Int) (hbz : -2147483648 ≤ z ∧ z < 2147483648) (kd : Int) (hbkd : -2147483648 ≤ kd ∧ kd < 2147483648) : br_Met 2 mX5_as [br_r 23, br_i (br_J z), br_i (br_J kd)] σ (br_R (br_J (br_vAs A z kd)) σ) := by
  obtain ⟨w, g, r, c, t, n, b, kp, ri, ci, ti⟩ := A
  have hm0 := hm
  have hA0 := hA
  obtain ⟨⟨hw, hg, hr, ht⟩, ⟨hr7, ht11, hcc, hnn, hbb⟩, ⟨e, he, heb, hke⟩, him⟩ := hm
  obtain ⟨⟨hwo, hgo, hro, hto⟩, ⟨hb30, hn512⟩, hio⟩ := hA
  have hw1 := hw.1
  have hg1 := hg.1
  have hK := hg.2.1
  have hWo := hg.2.2.1
  have hS := hg.2.2.2
  have hw30 := hwo.1
  have hg7 := hgo.1
  have h5r := hro.1
  have h8t := hto.1
  have hcb := fun (j : Nat) (hj : j < w.1) => (show -2147483648 ≤ w.2 j ∧ w.2 j < 2147483648 by have := hwo.2 j hj; omega)
  have hrb := fun (j : Nat) (hj : j < r.1) => (show r.2 j < 7 by have := hro.2.1 j hj; omega)
  refine br_ofW (by decide) 2 rfl (fun G C => ?_)
  refine br_aload_n C dX5_as_0 rfl rfl ?_
  refine br_iload_n C dX5_as_1 rfl rfl ?_
  refine br_cv1B C vcX5_95 (c_X5_isPiece hg1 hg7 z hbz) (by decide) rfl rfl (fun _ => Nat.le_of_ble_eq_true rfl) dX5_as_2 (fun h2 => ?_) (fun h2 => ?_)
  · refine br_if_ne1 C dX5_as_5 (tgt := 11) (by decide) ?_
    refine br_iload_n C dX5_as_11 rfl rfl ?_
    refine br_i2lK C (by omega) dX5_as_12 ?_
    refine br_lconst C dX5_as_13 (v := br_K 0) (by decide) ?_
    refine br_ldc2K C klX5_102 (z := 4) (by decide) dX5_as_14 ?_
    refine br_cs3B C scX5_40 (c_X5_in kd 0 4 (by omega) (by omega) (by omega)) (by decide) (fun _ => Nat.le_of_ble_eq_true rfl) dX5_as_17 (fun h17 => ?_) (fun h17 => ?_)
    · refine br_if_ne1 C dX5_as_20 (tgt := 26) (by decide) ?_
      have hkz := (hgo.2 z.toNat (by omega)).1
      refine br_aload_n C dX5_as_26 rfl rfl ?_
      refine br_getR C fdX5_13 dX5_as_27 rfl rfl ?_
      refine br_iconstJ C dX5_as_30 ?_
      refine br_iload_n C dX5_as_31 rfl rfl ?_
      refine br_imulJ C dX5_as_32 ?_
      refine br_ialdJ C rfl (by decide) (by omega) (by omega) (y := br_gK g z.toNat) (by rw [show (3 * z).toNat = 3 * z.toNat by omega]; exact hK z.toNat (by omega)) dX5_as_33 ?_
      refine br_istore_n C dX5_as_34 rfl (by decide) rfl (L' := [_, _, _, _, _]) rfl ?_
      refine br_iload_n C dX5_as_35 rfl rfl ?_
      refine br_if_eqJ C (by omega) dX5_as_36 (tgt := 54) (by decide) (fun c36 => ?_) (fun c36 => ?_)
      · refine br_iconstJ C dX5_as_54 ?_
        refine br_goto C dX5_as_55 (tgt := 59) (by decide) ?_
        refine br_istore C dX5_as_59 (by decide) rfl (L' := [_, _, _, _, _]) rfl ?_
        refine br_iload C dX5_as_61 rfl ?_
        refine br_if_eqJ C (by omega) dX5_as_63 (tgt := 70) (by decide) (fun c => absurd c (by decide)) (fun _ => ?_)
        refine br_iload_n C dX5_as_66 rfl rfl ?_
        refine br_goto C dX5_as_67 (tgt := 71) (by decide) ?_
        exact br_iret C rfl dX5_as_71 ⟨congrArg (fun x => some (br_i (br_J x))) (show _ = br_vAs (w, g, r, c, t, n, b, kp, ri, ci, ti) z kd from ((if_neg (by omega)).trans ((if_neg (by omega)).trans (by first | rw [if_pos (show br_isP g z kd from ⟨h2, by omega⟩)] | rw [if_neg (show ¬ br_isP g z kd from fun q => by have := q.2; omega)]))).symm), rfl⟩
      · refine br_iload_n C dX5_as_39 rfl rfl ?_
        refine br_iload_n C dX5_as_40 rfl rfl ?_
        refine br_icmp_eqJ C (by omega) (by omega) dX5_as_41 (tgt := 54) (by decide) (fun c41 => ?_) (fun c41 => ?_)
        · refine br_iconstJ C dX5_as_54 ?_
          refine br_goto C dX5_as_55 (tgt := 59) (by decide) ?_
          refine br_istore C dX5_as_59 (by decide) rfl (L' := [_, _, _, _, _]) rfl ?_
          refine br_iload C dX5_as_61 rfl ?_
          refine br_if_eqJ C (by omega) dX5_as_63 (tgt := 70) (by decide) (fun c => absurd c (by decide)) (fun _ => ?_)
          refine br_iload_n C dX5_as_66 rfl rfl ?_
          refine br_goto C dX5_as_67 (tgt := 71) (by decide) ?_
          exact br_iret C rfl dX5_as_71 ⟨congrArg (fun x => some (br_i (br_J x))) (show _ = br_vAs (w, g, r, c, t, n, b, kp, ri, ci, ti) z kd from ((if_neg (by omega)).trans ((if_neg (by omega)).trans (by first | rw [if_pos (show br_isP g z kd from ⟨h2, by omega⟩)] | rw [if_neg (show ¬ br_isP g z kd from fun q => by have := q.2; omega)]))).symm), rfl⟩
        · refine br_iload_n C dX5_as_44 rfl rfl ?_
          refine br_iconstJ C dX5_as_45 ?_
          refine br_icmp_neJ C (by omega) (by omega) dX5_as_46 (tgt := 58) (by decide) (fun c46 => ?_) (fun c46 => ?_)
          · refine br_iconstJ C dX5_as_58 ?_
            refine br_istore C dX5_as_59 (by decide) rfl (L' := [_, _, _, _, _]) rfl ?_
            refine br_iload C dX5_as_61 rfl ?_
            refine br_if_eqJ C (by omega) dX5_as_63 (tgt := 70) (by decide) (fun _ => ?_) (fun c => absurd c (by decide))
            refine br_iconstJ C dX5_as_70 ?_
            exact br_iret C rfl dX5_as_71 ⟨congrArg (fun x => some (br_i (br_J x))) (show _ = br_vAs (w, g, r, c, t, n, b, kp, ri, ci, ti) z kd from ((if_neg (by omega)).trans ((if_neg (by omega)).trans (by first | rw [if_pos (show br_isP g z kd from ⟨h2, by omega⟩)] | rw [if_neg (show ¬ br_isP g z kd from fun q => by have := q.2; omega)]))).symm), rfl⟩
          · refine br_iload_n C dX5_as_49 rfl rfl ?_
            refine br_iconstJ C dX5_as_50 ?_
            refine br_icmp_neJ C (by omega) (by omega) dX5_as_51 (tgt := 58) (by decide) (fun c51 => ?_) (fun c51 => ?_)
            · refine br_iconstJ C dX5_as_58 ?_
              refine br_istore C dX5_as_59 (by decide) rfl (L' := [_, _, _, _, _]) rfl ?_
              refine br_iload C dX5_as_61 rfl ?_
              refine br_if_eqJ C (by omega) dX5_as_63 (tgt := 70) (by decide) (fun _ => ?_) (fun c => absurd c (by decide))
              refine br_iconstJ C dX5_as_70 ?_
              exact br_iret C rfl dX5_as_71 ⟨congrArg (fun x => some (br_i (br_J x))) (show _ = br_vAs (w, g, r, c, t, n, b, kp, ri, ci, ti) z kd from ((if_neg (by omega)).trans ((if_neg (by omega)).trans (by first | rw [if_pos (show br_isP g z kd from ⟨h2, by omega⟩)] | rw [if_neg (show ¬ br_isP g z kd from fun q => by have := q.2; omega)]))).symm), rfl⟩
            · refine br_iconstJ C dX5_as_54 ?_
              refine br_goto C dX5_as_55 (tgt := 59) (by decide) ?_
              refine br_istore C dX5_as_59 (by decide) rfl (L' := [_, _, _, _, _]) rfl ?_
              refine br_iload C dX5_as_61 rfl ?_
              refine br_if_eqJ C (by omega) dX5_as_63 (tgt := 70) (by decide) (fun c => absurd c (by decide)) (fun _ => ?_)
              refine br_iload_n C dX5_as_66 rfl rfl ?_
              refine br_goto C dX5_as_67 (tgt := 71) (by decide) ?_
              exact br_iret C rfl dX5_as_71 ⟨congrArg (fun x => some (br_i (br_J x))) (show _ = br_vAs (w, g, r, c, t, n, b, kp, ri, ci, ti) z kd from ((if_neg (by omega)).trans ((if_neg (by omega)).trans (by first | rw [if_pos (show br_isP g z kd from ⟨h2, by omega⟩)] | rw [if_neg (show ¬ br_isP g z kd from fun q => by have := q.2; omega)]))).symm), rfl⟩
    · refine br_if_ne0 C dX5_as_20 (tgt := 26) (by decide) ?_
      refine br_bipushJ C (by decide) dX5_as_23 ?_
      exact br_iret C rfl dX5_as_25 ⟨congrArg (fun x => some (br_i (br_J x))) (show _ = br_vAs (w, g, r, c, t, n, b, kp, ri, ci, ti) z kd from ((if_neg (by omega)).trans (if_pos (by omega))).symm), rfl⟩
  · refine br_if_ne0 C dX5_as_5 (tgt := 11) (by decide) ?_
    refine br_bipushJ C (by decide) dX5_as_8 ?_
    exact br_iret C rfl dX5_as_10 ⟨congrArg (fun x => some (br_i (br_J x))) (show _ = br_vAs (w, g, r, c, t, n, b, kp, ri, ci, ti) z kd from (if_pos (by omega)).symm), rfl⟩

theorem br_RM_app {a : Nat} {σ : br_Wd} {r : br_Ro} (hr : br_RM a σ r) (p : Nat) : br_RM a (br_up σ a r.1 (br_J p)) (br_app r p) := by
  intro j hj
  have hj' : j < r.1 + 1 := hj
  simp only [br_up, br_app]
  rw [if_pos True.intro]
  by_cases e : j = r.1
  · rw [if_pos e, if_pos e]
  · rw [if_neg e, if_neg e]; exact hr j (by omega)
theorem br_RM_swp {q : Nat} {σ : br_Wd} {r : br_Ro} (hr : br_RM q σ r) (a b : Nat) (ha : a < r.1) (hb : b < r.1) : br_RM q (br_up (br_up σ q a (br_J (r.2 b : Nat))) q b (br_J (r.2 a : Nat))) (br_swp r a b) := by
  intro j hj
  have hj' : j < r.1 := hj
  simp only [br_up, br_swp]
  rw [if_pos True.intro]
  by_cases e : j = b
  · rw [if_pos e, if_pos e]
  · rw [if_neg e, if_neg e]
    by_cases e2 : j = a
    · simp [e2]
    · simp [e2]; exact hr j (by omega)

set_option maxHeartbeats 4000000 in
set_option maxRecDepth 100000 in
theorem c_X5_put {σ : br_Wd} {A : br_A} (hm : br_MR σ A) (hA : br_Aok A) (z : Int) (hbz : -2147483648 ≤ z ∧ z < 2147483648) : br_Met 2 mX5_put [br_r 23, br_i (br_J z)] σ (br_QM (br_J (br_sPut A z).1) (br_sPut A z).2 σ) := by
  obtain ⟨w, g, r, c, t, n, b, kp, ri, ci, ti⟩ := A
  have hm0 := hm
  have hA0 := hA
  obtain ⟨⟨hw, hg, hr, ht⟩, ⟨hr7, ht11, hcc, hnn, hbb⟩, ⟨e, he, heb, hke⟩, him⟩ := hm
  obtain ⟨⟨hwo, hgo, hro, hto⟩, ⟨hb30, hn512⟩, hio⟩ := hA
  have hw1 := hw.1
  have hg1 := hg.1
  have hK := hg.2.1
  have hWo := hg.2.2.1
  have hS := hg.2.2.2
  have hw30 := hwo.1
  have hg7 := hgo.1
  have h5r := hro.1
  have h8t := hto.1
  have hcb := fun (j : Nat) (hj : j < w.1) => (show -2147483648 ≤ w.2 j ∧ w.2 j < 2147483648 by have := hwo.2 j hj; omega)
  have hrb := fun (j : Nat) (hj : j < r.1) => (show r.2 j < 7 by have := hro.2.1 j hj; omega)
  have hpo : -1 ≤ br_po r z ∧ br_po r z < r.1 := br_lst_bnd _ _
  refine br_ofW (by decide) 0 rfl (fun G C => ?_)
  refine br_aload_n C dX5_put_0 rfl rfl ?_
  refine br_iload_n C dX5_put_1 rfl rfl ?_
  refine br_cv1B C vcX5_95 (c_X5_isPiece hg1 hg7 z hbz) (by decide) rfl rfl (fun _ => Nat.le_of_ble_eq_true rfl) dX5_put_2 (fun h2 => ?_) (fun h2 => ?_)
  · refine br_if_ne1 C dX5_put_5 (tgt := 11) (by decide) ?_
    refine br_aload_n C dX5_put_11 rfl rfl ?_
    refine br_iload_n C dX5_put_12 rfl rfl ?_
    refine br_cv1R C vcX5_82 (c_X5_placeOf hr7 hr h5r hrb z hbz) (by decide) rfl rfl (fun _ => Nat.le_of_ble_eq_true rfl) dX5_put_13 ?_
    refine br_iconstJ C dX5_put_16 ?_
    refine br_icmp_eqJ C (by omega) (by omega) dX5_put_17 (tgt := 23) (by decide) (fun c17 => ?_) (fun c17 => ?_)
    · refine br_aload_n C dX5_put_23 rfl rfl ?_
      refine br_getI C fdX5_66 dX5_put_24 rfl rfl (by assumption) ?_
      refine br_iconstJ C dX5_put_27 ?_
      refine br_icmp_neJ C (by omega) (by omega) dX5_put_28 (tgt := 34) (by decide) (fun c28 => ?_) (fun c28 => ?_)
      · have ez : ((z.toNat : Nat) : Int) = z := by omega
        have hra := br_RM_app hr z.toNat
        rw [ez] at hra
        refine br_aload_n C dX5_put_34 rfl rfl ?_
        refine br_getR C fdX5_16 dX5_put_35 rfl rfl ?_
        refine br_aload_n C dX5_put_38 rfl rfl ?_
        refine br_getI C fdX5_66 dX5_put_39 rfl rfl (by assumption) ?_
        refine br_iload_n C dX5_put_42 rfl rfl ?_
        refine br_iastJ C rfl (by decide) (by omega) (by omega) rfl dX5_put_43 ?_
        refine br_aload_n C dX5_put_44 rfl rfl ?_
        refine br_dup C dX5_put_45 rfl ?_
        refine br_getI C fdX5_66 dX5_put_46 rfl rfl (x := br_J r.1) hr7 ?_
        refine br_iconstJ C dX5_put_49 ?_
        refine br_iaddJ C dX5_put_50 ?_
        refine br_putI C fdX5_66 dX5_put_51 rfl rfl rfl ?_
        refine br_aload_n C dX5_put_54 rfl rfl ?_
        refine br_dup C dX5_put_55 rfl ?_
        refine br_getI C fdX5_69 dX5_put_56 rfl rfl (x := br_J c) hcc ?_
        refine br_iconstJ C dX5_put_59 ?_
        refine br_iaddJ C dX5_put_60 ?_
        refine br_putI C fdX5_69 dX5_put_61 rfl rfl rfl ?_
        refine br_aload_n C dX5_put_64 rfl rfl ?_
        refine br_getI C fdX5_66 dX5_put_65 rfl rfl (x := br_J (r.1 + 1)) rfl ?_
        refine br_iconstJ C dX5_put_68 ?_
        refine br_isubJ C dX5_put_69 ?_
        exact br_iret C rfl dX5_put_70 (by
            rw [show br_sPut (w, g, r, c, t, n, b, kp, ri, ci, ti) z = ((r.1 : Int), (w, g, br_app r z.toNat, c + 1, t, n, b, kp, ri, ci, ti)) from (if_neg (by omega)).trans ((if_neg (by omega)).trans (if_neg (by omega)))]
            exact ⟨by rw [show (r.1 : Int) + 1 - 1 = r.1 by omega], ⟨⟨hw.keep rfl rfl, hg.keep rfl rfl, hra.keep rfl, ht.keep rfl⟩, ⟨rfl, ht11, rfl, hnn, hbb⟩, ⟨e, he, heb, hke⟩, fun h => ⟨⟨(him h).1.1.keep rfl, (him h).1.2.keep rfl⟩, (him h).2⟩⟩, ((((br_sm.rfl (qs := [23, 26])).up (by simp)).up (by simp)).up (by simp)).fm (by decide)⟩)
      · refine br_bipushJ C (by decide) dX5_put_31 ?_
        exact br_iret C rfl dX5_put_33 (by
            rw [show br_sPut (w, g, r, c, t, n, b, kp, ri, ci, ti) z = (-104, (w, g, r, c, t, n, b, kp, ri, ci, ti)) from (if_neg (by omega)).trans ((if_neg (by omega)).trans (if_pos (by omega)))]
            exact ⟨rfl, hm0, br_fm.rfl⟩)
    · refine br_bipushJ C (by decide) dX5_put_20 ?_
      exact br_iret C rfl dX5_put_22 (by
          rw [show br_sPut (w, g, r, c, t, n, b, kp, ri, ci, ti) z = (-103, (w, g, r, c, t, n, b, kp, ri, ci, ti)) from (if_neg (by omega)).trans (if_pos (by omega))]
          exact ⟨rfl, hm0, br_fm.rfl⟩)
  · refine br_if_ne0 C dX5_put_5 (tgt := 11) (by decide) ?_
    refine br_bipushJ C (by decide) dX5_put_8 ?_
    exact br_iret C rfl dX5_put_10 (by
        rw [show br_sPut (w, g, r, c, t, n, b, kp, ri, ci, ti) z = (-101, (w, g, r, c, t, n, b, kp, ri, ci, ti)) from if_pos (by omega)]
        exact ⟨rfl, hm0, br_fm.rfl⟩)

set_option maxHeartbeats 4000000 in
set_option maxRecDepth 100000 in
theorem c_X5_take {σ : br_Wd} {A : br_A} (hm : br_MR σ A) (hA : br_Aok A) (z : Int) (hbz : -2147483648 ≤ z ∧ z < 2147483648) : br_Met 2 mX5_take [br_r 23, br_i (br_J z)] σ (br_QM (br_J (br_sTake A z).1) (br_sTake A z).2 σ) := by
  obtain ⟨w, g, r, c, t, n, b, kp, ri, ci, ti⟩ := A
  have hm0 := hm
  have hA0 := hA
  obtain ⟨⟨hw, hg, hr, ht⟩, ⟨hr7, ht11, hcc, hnn, hbb⟩, ⟨e, he, heb, hke⟩, him⟩ := hm
  obtain ⟨⟨hwo, hgo, hro, hto⟩, ⟨hb30, hn512⟩, hio⟩ := hA
  have hw1 := hw.1
  have hg1 := hg.1
  have hK := hg.2.1
  have hWo := hg.2.2.1
  have hS := hg.2.2.2
  have hw30 := hwo.1
  have hg7 := hgo.1
  have h5r := hro.1
  have h8t := hto.1
  have hcb := fun (j : Nat) (hj : j < w.1) => (show -2147483648 ≤ w.2 j ∧ w.2 j < 2147483648 by have := hwo.2 j hj; omega)
  have hrb := fun (j : Nat) (hj : j < r.1) => (show r.2 j < 7 by have := hro.2.1 j hj; omega)
  refine br_ofW (by decide) 2 rfl (fun G C => ?_)
  have loop : ∀ (m i : Nat) (τ : br_Wd), (0 ≤ z ∧ z < r.1) → i + m = r.1 - 1 → z.toNat ≤ i → br_sm [26] σ τ → (∀ j : Nat, j < r.1 → τ.1 26 j = br_J ((if j < z.toNat then r.2 j else if j < i then r.2 (j + 1) else r.2 j : Nat) : Int)) → G 20 [some (br_r 23), some (br_i (br_J z)), some (br_i (br_J (r.2 z.toNat : Nat))), some (br_i (br_J i))] [] τ := by
    intro m
    induction m with
    | zero =>
      intro i τ hz him2 hzi hsm hm2
      have hs1 : τ.1 23 7 = br_J r.1 := (congrFun (hsm.1 23 (by decide)) 7).trans hr7
      refine br_iload_n C dX5_take_20 rfl rfl ?_
      refine br_aload_n C dX5_take_21 rfl rfl ?_
      refine br_getI C fdX5_66 dX5_take_22 rfl rfl (x := br_J r.1) hs1 ?_
      refine br_iconstJ C dX5_take_25 ?_
      refine br_isubJ C dX5_take_26 ?_
      refine br_icmp_geJ C (by omega) (by omega) dX5_take_27 (tgt := 50) (by decide) (fun c27 => ?_) (fun c27 => ?_)
      · refine br_aload_n C dX5_take_50 rfl rfl ?_
        refine br_dup C dX5_take_51 rfl ?_
        refine br_getI C fdX5_66 dX5_take_52 rfl rfl (x := br_J r.1) hs1 ?_
        refine br_iconstJ C dX5_take_55 ?_
        refine br_isubJ C dX5_take_56 ?_
        refine br_putI C fdX5_66 dX5_take_57 rfl rfl rfl ?_
        refine br_aload_n C dX5_take_60 rfl rfl ?_
        refine br_dup C dX5_take_61 rfl ?_
        refine br_getI C fdX5_69 dX5_take_62 rfl rfl (x := br_J c) ((congrFun (hsm.1 23 (by decide)) 3).trans hcc) ?_
        refine br_iconstJ C dX5_take_65 ?_
        refine br_iaddJ C dX5_take_66 ?_
        refine br_putI C fdX5_69 dX5_take_67 rfl rfl rfl ?_
        refine br_iload_n C dX5_take_70 rfl rfl ?_
        exact br_iret C rfl dX5_take_71 (by
            rw [show br_sTake (w, g, r, c, t, n, b, kp, ri, ci, ti) z = (((r.2 z.toNat : Nat) : Int), (w, g, br_rem r z.toNat, c + 1, t, n, b, kp, ri, ci, ti)) from if_neg (by omega)]
            exact ⟨rfl, ⟨⟨hw.keep (congrFun (hsm.1 23 (by decide)) 1) (hsm.1 24 (by decide)), hg.keep (congrFun (hsm.1 23 (by decide)) 2) (hsm.1 25 (by decide)), fun j hj => by
              have hj2 : j < r.1 - 1 := hj
              show τ.1 26 j = br_J ((if j < z.toNat then r.2 j else r.2 (j + 1) : Nat) : Int)
              rw [hm2 j (by omega)]
              by_cases q : j < z.toNat
              · rw [if_pos q, if_pos q]
              · rw [if_neg q, if_neg q, if_pos (by omega)], ht.keep (hsm.1 29 (by decide))⟩, ⟨(by show br_J ((r.1 : Int) - 1) = br_J ((r.1 - 1 : Nat) : Int); congr 1; omega), (congrFun (hsm.1 23 (by decide)) 11).trans ht11, rfl, (congrFun (hsm.1 23 (by decide)) 4).trans hnn, (congrFun (hsm.1 23 (by decide)) 8).trans hbb⟩, ⟨e, (congrFun (hsm.1 23 (by decide)) 14).trans he, heb, hke⟩, fun h => ⟨⟨(him h).1.1.keep (hsm.1 30 (by decide)), (him h).1.2.keep (hsm.1 31 (by decide))⟩, (congrFun (hsm.1 23 (by decide)) 15).trans (him h).2.1, (congrFun (hsm.1 23 (by decide)) 16).trans (him h).2.2.1, (congrFun (hsm.1 23 (by decide)) 17).trans (him h).2.2.2⟩⟩, (((hsm.mono (qs' := [23, 26]) (by decide)).up (by simp)).up (by simp)).fm (by decide)⟩)
      · omega
    | succ m ih =>
      intro i τ hz him2 hzi hsm hm2
      have hs1 : τ.1 23 7 = br_J r.1 := (congrFun (hsm.1 23 (by decide)) 7).trans hr7
      refine br_iload_n C dX5_take_20 rfl rfl ?_
      refine br_aload_n C dX5_take_21 rfl rfl ?_
      refine br_getI C fdX5_66 dX5_take_22 rfl rfl (x := br_J r.1) hs1 ?_
      refine br_iconstJ C dX5_take_25 ?_
      refine br_isubJ C dX5_take_26 ?_
      refine br_icmp_geJ C (by omega) (by omega) dX5_take_27 (tgt := 50) (by decide) (fun c27 => ?_) (fun c27 => ?_)
      · omega
      · refine br_aload_n C dX5_take_30 rfl rfl ?_
        refine br_getR C fdX5_16 dX5_take_31 rfl rfl ?_
        refine br_iload_n C dX5_take_34 rfl rfl ?_
        refine br_aload_n C dX5_take_35 rfl rfl ?_
        refine br_getR C fdX5_16 dX5_take_36 rfl rfl ?_
        refine br_iload_n C dX5_take_39 rfl rfl ?_
        refine br_iconstJ C dX5_take_40 ?_
        refine br_iaddJ C dX5_take_41 ?_
        refine br_ialdJ C rfl (by decide) (by omega) (by omega) (y := (r.2 (i + 1) : Nat)) (by rw [show ((i : Int) + 1).toNat = i + 1 by omega, hm2 (i + 1) (by omega), if_neg (by omega), if_neg (by omega)]) dX5_take_42 ?_
        refine br_iastJ C rfl (by decide) (by omega) (by omega) rfl dX5_take_43 ?_
        refine br_iincJ C dX5_take_44 rfl (by decide) rfl (L' := [_, _, _, _]) rfl ?_
        refine br_goto C dX5_take_47 (tgt := 20) (by decide) ?_
        refine ih (i + 1) _ hz (by omega) (by omega) (hsm.up (by simp)) (fun j hj => ?_)
        simp only [br_up]
        rw [if_pos True.intro]
        by_cases q : j = ((i : Nat) : Int).toNat
        · rw [if_pos q, if_neg (by omega), if_pos (by omega), show j = i by omega]
        · rw [if_neg q, hm2 j hj]
          by_cases q1 : j < z.toNat
          · rw [if_pos q1, if_pos q1]
          · rw [if_neg q1, if_neg q1]
            by_cases q2 : j < i
            · rw [if_pos q2, if_pos (by omega)]
            · rw [if_neg q2, if_neg (by omega)]
  refine br_aload_n C dX5_take_0 rfl rfl ?_
  refine br_iload_n C dX5_take_1 rfl rfl ?_
  refine br_cv1B C vcX5_104 (c_X5_isPlace hr7 (by omega) z hbz) (by decide) rfl rfl (fun _ => Nat.le_of_ble_eq_true rfl) dX5_take_2 (fun h2 => ?_) (fun h2 => ?_)
  · refine br_if_ne1 C dX5_take_5 (tgt := 11) (by decide) ?_
    refine br_aload_n C dX5_take_11 rfl rfl ?_
    refine br_getR C fdX5_16 dX5_take_12 rfl rfl ?_
    refine br_iload_n C dX5_take_15 rfl rfl ?_
    refine br_ialdJ C rfl (by decide) (by omega) (by omega) (y := (r.2 z.toNat : Nat)) (hr z.toNat (by omega)) dX5_take_16 ?_
    refine br_istore_n C dX5_take_17 rfl (by decide) rfl (L' := [_, _, _, _]) rfl ?_
    refine br_iload_n C dX5_take_18 rfl rfl ?_
    refine br_istore_n C dX5_take_19 rfl (by decide) rfl (L' := [_, _, _, _]) rfl ?_
    have ez : ((z.toNat : Nat) : Int) = z := by omega
    have hl := loop (r.1 - 1 - z.toNat) z.toNat σ h2 (by omega) (Nat.le_refl _) br_sm.rfl (fun j hj => by
      rw [hr j hj]
      by_cases q1 : j < z.toNat
      · rw [if_pos q1]
      · rw [if_neg q1, if_neg q1])
    rw [ez] at hl
    exact hl
  · refine br_if_ne0 C dX5_take_5 (tgt := 11) (by decide) ?_
    refine br_bipushJ C (by decide) dX5_take_8 ?_
    exact br_iret C rfl dX5_take_10 (by
        rw [show br_sTake (w, g, r, c, t, n, b, kp, ri, ci, ti) z = (-101, (w, g, r, c, t, n, b, kp, ri, ci, ti)) from if_pos (by omega)]
        exact ⟨rfl, hm0, br_fm.rfl⟩)

set_option maxHeartbeats 4000000 in
set_option maxRecDepth 100000 in
theorem c_X5_swap {σ : br_Wd} {A : br_A} (hm : br_MR σ A) (hA : br_Aok A) (x : Int) (hbx : -2147483648 ≤ x ∧ x < 2147483648) (y : Int) (hby : -2147483648 ≤ y ∧ y < 2147483648) : br_Met 2 mX5_swap [br_r 23, br_i (br_J x), br_i (br_J y)] σ (br_QM (br_J (br_sSwap A x y).1) (br_sSwap A x y).2 σ) := by
  obtain ⟨w, g, r, c, t, n, b, kp, ri, ci, ti⟩ := A
  have hm0 := hm
  have hA0 := hA
  obtain ⟨⟨hw, hg, hr, ht⟩, ⟨hr7, ht11, hcc, hnn, hbb⟩, ⟨e, he, heb, hke⟩, him⟩ := hm
  obtain ⟨⟨hwo, hgo, hro, hto⟩, ⟨hb30, hn512⟩, hio⟩ := hA
  have hw1 := hw.1
  have hg1 := hg.1
  have hK := hg.2.1
  have hWo := hg.2.2.1
  have hS := hg.2.2.2
  have hw30 := hwo.1
  have hg7 := hgo.1
  have h5r := hro.1
  have h8t := hto.1
  have hcb := fun (j : Nat) (hj : j < w.1) => (show -2147483648 ≤ w.2 j ∧ w.2 j < 2147483648 by have := hwo.2 j hj; omega)
  have hrb := fun (j : Nat) (hj : j < r.1) => (show r.2 j < 7 by have := hro.2.1 j hj; omega)
  refine br_ofW (by decide) 1 rfl (fun G C => ?_)
  refine br_aload_n C dX5_swap_0 rfl rfl ?_
  refine br_iload_n C dX5_swap_1 rfl rfl ?_
  refine br_cv1B C vcX5_104 (c_X5_isPlace hr7 (by omega) x hbx) (by decide) rfl rfl (fun _ => Nat.le_of_ble_eq_true rfl) dX5_swap_2 (fun h2 => ?_) (fun h2 => ?_)
  · refine br_if_eq1 C dX5_swap_5 (tgt := 16) (by decide) ?_
    refine br_aload_n C dX5_swap_8 rfl rfl ?_
    refine br_iload_n C dX5_swap_9 rfl rfl ?_
    refine br_cv1B C vcX5_104 (c_X5_isPlace hr7 (by omega) y hby) (by decide) rfl rfl (fun _ => Nat.le_of_ble_eq_true rfl) dX5_swap_10 (fun h10 => ?_) (fun h10 => ?_)
    · refine br_if_ne1 C dX5_swap_13 (tgt := 19) (by decide) ?_
      refine br_aload_n C dX5_swap_19 rfl rfl ?_
      refine br_getR C fdX5_16 dX5_swap_20 rfl rfl ?_
      refine br_iload_n C dX5_swap_23 rfl rfl ?_
      refine br_ialdJ C rfl (by decide) (by omega) (by omega) (y := (r.2 x.toNat : Nat)) (hr x.toNat (by omega)) dX5_swap_24 ?_
      refine br_istore_n C dX5_swap_25 rfl (by decide) rfl (L' := [_, _, _, _]) rfl ?_
      refine br_aload_n C dX5_swap_26 rfl rfl ?_
      refine br_getR C fdX5_16 dX5_swap_27 rfl rfl ?_
      refine br_iload_n C dX5_swap_30 rfl rfl ?_
      refine br_aload_n C dX5_swap_31 rfl rfl ?_
      refine br_getR C fdX5_16 dX5_swap_32 rfl rfl ?_
      refine br_iload_n C dX5_swap_35 rfl rfl ?_
      refine br_ialdJ C rfl (by decide) (by omega) (by omega) (y := (r.2 y.toNat : Nat)) (hr y.toNat (by omega)) dX5_swap_36 ?_
      refine br_iastJ C rfl (by decide) (by omega) (by omega) rfl dX5_swap_37 ?_
      refine br_aload_n C dX5_swap_38 rfl rfl ?_
      refine br_getR C fdX5_16 dX5_swap_39 rfl rfl ?_
      refine br_iload_n C dX5_swap_42 rfl rfl ?_
      refine br_iload_n C dX5_swap_43 rfl rfl ?_
      refine br_iastJ C rfl (by decide) (by omega) (by omega) rfl dX5_swap_44 ?_
      refine br_aload_n C dX5_swap_45 rfl rfl ?_
      refine br_dup C dX5_swap_46 rfl ?_
      refine br_getI C fdX5_69 dX5_swap_47 rfl rfl (x := br_J c) hcc ?_
      refine br_iconstJ C dX5_swap_50 ?_
      refine br_iaddJ C dX5_swap_51 ?_
      refine br_putI C fdX5_69 dX5_swap_52 rfl rfl rfl ?_
      refine br_aload_n C dX5_swap_55 rfl rfl ?_
      refine br_getI C fdX5_69 dX5_swap_56 rfl rfl (x := br_J (c + 1)) rfl ?_
      exact br_iret C rfl dX5_swap_59 (by
          rw [show br_sSwap (w, g, r, c, t, n, b, kp, ri, ci, ti) x y = (c + 1, (w, g, br_swp r x.toNat y.toNat, c + 1, t, n, b, kp, ri, ci, ti)) from if_neg (by omega)]
          exact ⟨rfl, ⟨⟨hw.keep rfl rfl, hg.keep rfl rfl, (br_RM_swp hr x.toNat y.toNat (by omega) (by omega)).keep rfl, ht.keep rfl⟩, ⟨hr7, ht11, rfl, hnn, hbb⟩, ⟨e, he, heb, hke⟩, fun h => ⟨⟨(him h).1.1.keep rfl, (him h).1.2.keep rfl⟩, (him h).2⟩⟩, ((((br_sm.rfl (qs := [23, 26])).up (by simp)).up (by simp)).up (by simp)).fm (by decide)⟩)
    · refine br_if_ne0 C dX5_swap_13 (tgt := 19) (by decide) ?_
      refine br_bipushJ C (by decide) dX5_swap_16 ?_
      exact br_iret C rfl dX5_swap_18 (by
          rw [show br_sSwap (w, g, r, c, t, n, b, kp, ri, ci, ti) x y = (-101, (w, g, r, c, t, n, b, kp, ri, ci, ti)) from if_pos (by omega)]
          exact ⟨rfl, hm0, br_fm.rfl⟩)
  · refine br_if_eq0 C dX5_swap_5 (tgt := 16) (by decide) ?_
    refine br_bipushJ C (by decide) dX5_swap_16 ?_
    exact br_iret C rfl dX5_swap_18 (by
        rw [show br_sSwap (w, g, r, c, t, n, b, kp, ri, ci, ti) x y = (-101, (w, g, r, c, t, n, b, kp, ri, ci, ti)) from if_pos (by omega)]
        exact ⟨rfl, hm0, br_fm.rfl⟩)

set_option maxHeartbeats 4000000 in
set_option maxRecDepth 100000 in
theorem c_X5_at {σ : br_Wd} {A : br_A} (hm : br_MR σ A) (hA : br_Aok A) (z : Int) (hbz : -2147483648 ≤ z ∧ z < 2147483648) : br_Met 2 mX5_at [br_r 23, br_i (br_J z)] σ (br_R (br_J (br_vAt A z)) σ) := by
  obtain ⟨w, g, r, c, t, n, b, kp, ri, ci, ti⟩ := A
  have hm0 := hm
  have hA0 := hA
  obtain ⟨⟨hw, hg, hr, ht⟩, ⟨hr7, ht11, hcc, hnn, hbb⟩, ⟨e, he, heb, hke⟩, him⟩ := hm
  obtain ⟨⟨hwo, hgo, hro, hto⟩, ⟨hb30, hn512⟩, hio⟩ := hA
  have hw1 := hw.1
  have hg1 := hg.1
  have hK := hg.2.1
  have hWo := hg.2.2.1
  have hS := hg.2.2.2
  have hw30 := hwo.1
  have hg7 := hgo.1
  have h5r := hro.1
  have h8t := hto.1
  have hcb := fun (j : Nat) (hj : j < w.1) => (show -2147483648 ≤ w.2 j ∧ w.2 j < 2147483648 by have := hwo.2 j hj; omega)
  have hrb := fun (j : Nat) (hj : j < r.1) => (show r.2 j < 7 by have := hro.2.1 j hj; omega)
  refine br_ofW (by decide) 0 rfl (fun G C => ?_)
  refine br_aload_n C dX5_at_0 rfl rfl ?_
  refine br_iload_n C dX5_at_1 rfl rfl ?_
  refine br_cv1B C vcX5_104 (c_X5_isPlace hr7 (by omega) z hbz) (by decide) rfl rfl (fun _ => Nat.le_of_ble_eq_true rfl) dX5_at_2 (fun h2 => ?_) (fun h2 => ?_)
  · refine br_if_eq1 C dX5_at_5 (tgt := 17) (by decide) ?_
    refine br_aload_n C dX5_at_8 rfl rfl ?_
    refine br_getR C fdX5_16 dX5_at_9 rfl rfl ?_
    refine br_iload_n C dX5_at_12 rfl rfl ?_
    refine br_ialdJ C rfl (by decide) (by omega) (by omega) (y := (r.2 z.toNat : Nat)) (hr z.toNat (by omega)) dX5_at_13 ?_
    refine br_goto C dX5_at_14 (tgt := 19) (by decide) ?_
    exact br_iret C rfl dX5_at_19 ⟨congrArg (fun x => some (br_i (br_J x))) (show _ = br_vAt (w, g, r, c, t, n, b, kp, ri, ci, ti) z from by first | exact (if_neg h2).symm | exact (if_pos h2).symm), rfl⟩
  · refine br_if_eq0 C dX5_at_5 (tgt := 17) (by decide) ?_
    refine br_bipushJ C (by decide) dX5_at_17 ?_
    exact br_iret C rfl dX5_at_19 ⟨congrArg (fun x => some (br_i (br_J x))) (show _ = br_vAt (w, g, r, c, t, n, b, kp, ri, ci, ti) z from by first | exact (if_neg h2).symm | exact (if_pos h2).symm), rfl⟩

set_option maxHeartbeats 4000000 in
set_option maxRecDepth 100000 in
theorem c_X5_score {σ : br_Wd} {A : br_A} (hm : br_MR σ A) (hA : br_Aok A) (z : Int) (hbz : -2147483648 ≤ z ∧ z < 2147483648) : br_Met 3 mX5_score [br_r 23, br_i (br_J z)] σ (br_R (br_J (br_vScore A z)) σ) := by
  obtain ⟨w, g, r, c, t, n, b, kp, ri, ci, ti⟩ := A
  have hm0 := hm
  have hA0 := hA
  obtain ⟨⟨hw, hg, hr, ht⟩, ⟨hr7, ht11, hcc, hnn, hbb⟩, ⟨e, he, heb, hke⟩, him⟩ := hm
  obtain ⟨⟨hwo, hgo, hro, hto⟩, ⟨hb30, hn512⟩, hio⟩ := hA
  have hw1 := hw.1
  have hg1 := hg.1
  have hK := hg.2.1
  have hWo := hg.2.2.1
  have hS := hg.2.2.2
  have hw30 := hwo.1
  have hg7 := hgo.1
  have h5r := hro.1
  have h8t := hto.1
  have hcb := fun (j : Nat) (hj : j < w.1) => (show -2147483648 ≤ w.2 j ∧ w.2 j < 2147483648 by have := hwo.2 j hj; omega)
  have hrb := fun (j : Nat) (hj : j < r.1) => (show r.2 j < 7 by have := hro.2.1 j hj; omega)
  refine br_ofW (by decide) 0 rfl (fun G C => ?_)
  have hp2 := br_pow2 h5r
  refine br_iload_n C dX5_score_0 rfl rfl ?_
  refine br_i2lK C (by omega) dX5_score_1 ?_
  refine br_lconst C dX5_score_2 (v := br_K 0) (by decide) ?_
  refine br_iconstJ C dX5_score_3 ?_
  refine br_aload_n C dX5_score_4 rfl rfl ?_
  refine br_getI C fdX5_66 dX5_score_5 rfl rfl (by assumption) ?_
  refine br_ishlE C (br_shl1 h5r) dX5_score_8 ?_
  refine br_iconstJ C dX5_score_9 ?_
  refine br_isubJ C dX5_score_10 ?_
  refine br_i2lK C (by omega) dX5_score_11 ?_
  refine br_cs3B C scX5_40 (c_X5_in z 0 (((2 ^ r.1 : Nat) : Int) - 1) (by omega) (by omega) (by omega)) (by decide) (fun _ => Nat.le_of_ble_eq_true rfl) dX5_score_12 (fun h12 => ?_) (fun h12 => ?_)
  · refine br_if_ne1 C dX5_score_15 (tgt := 21) (by decide) ?_
    refine br_aload_n C dX5_score_21 rfl rfl ?_
    refine br_cv0B C vcX5_117 (c_X5_lacks hg1 hg7) (by decide) rfl rfl (fun _ => Nat.le_of_ble_eq_true rfl) dX5_score_22 (fun h22 => ?_) (fun h22 => ?_)
    · refine br_if_eq1 C dX5_score_25 (tgt := 33) (by decide) ?_
      refine br_bipushJ C (by decide) dX5_score_28 ?_
      refine br_goto C dX5_score_30 (tgt := 50) (by decide) ?_
      exact br_iret C rfl dX5_score_50 ⟨congrArg (fun x => some (br_i (br_J x))) (show _ = br_vScore (w, g, r, c, t, n, b, kp, ri, ci, ti) z from by first | exact ((if_neg (by omega)).trans (if_pos h22)).symm | exact ((if_neg (by omega)).trans (if_neg h22)).symm), rfl⟩
    · refine br_if_eq0 C dX5_score_25 (tgt := 33) (by decide) ?_
      refine br_aload_n C dX5_score_33 rfl rfl ?_
      refine br_aload_n C dX5_score_34 rfl rfl ?_
      refine br_getR C fdX5_16 dX5_score_35 rfl rfl ?_
      refine br_aload_n C dX5_score_38 rfl rfl ?_
      refine br_getI C fdX5_66 dX5_score_39 rfl rfl (by assumption) ?_
      refine br_iload_n C dX5_score_42 rfl rfl ?_
      have ez : ((z.toNat : Nat) : Int) = z := by omega
      have hsc := c_X5_scoreOf hg hgo (ra := 26) rfl hr hro z.toNat (by omega)
      rw [ez] at hsc
      refine br_cv3R C vcX5_121 (hsc) (by decide) rfl rfl (fun _ => Nat.le_of_ble_eq_true rfl) dX5_score_43 ?_
      refine br_sipushJ C (by decide) dX5_score_46 ?_
      refine br_iaddJ C dX5_score_49 ?_
      exact br_iret C rfl dX5_score_50 ⟨congrArg (fun x => some (br_i (br_J x))) (show _ = br_vScore (w, g, r, c, t, n, b, kp, ri, ci, ti) z from by first | exact ((if_neg (by omega)).trans (if_pos h22)).symm | exact ((if_neg (by omega)).trans (if_neg h22)).symm), rfl⟩
  · refine br_if_ne0 C dX5_score_15 (tgt := 21) (by decide) ?_
    refine br_bipushJ C (by decide) dX5_score_18 ?_
    exact br_iret C rfl dX5_score_20 ⟨congrArg (fun x => some (br_i (br_J x))) (show _ = br_vScore (w, g, r, c, t, n, b, kp, ri, ci, ti) z from (if_pos (by omega)).symm), rfl⟩

set_option maxHeartbeats 4000000 in
set_option maxRecDepth 100000 in
theorem c_X5_mean {σ : br_Wd} {A : br_A} (hm : br_MR σ A) (hA : br_Aok A) (k : Int) (hbk : -2147483648 ≤ k ∧ k < 2147483648) : br_Met 5 mX5_mean [br_r 23, br_i (br_J k)] σ (br_R (br_J (br_vMean A k)) σ) := by
  obtain ⟨w, g, r, c, t, n, b, kp, ri, ci, ti⟩ := A
  have hm0 := hm
  have hA0 := hA
  obtain ⟨⟨hw, hg, hr, ht⟩, ⟨hr7, ht11, hcc, hnn, hbb⟩, ⟨e, he, heb, hke⟩, him⟩ := hm
  obtain ⟨⟨hwo, hgo, hro, hto⟩, ⟨hb30, hn512⟩, hio⟩ := hA
  have hw1 := hw.1
  have hg1 := hg.1
  have hK := hg.2.1
  have hWo := hg.2.2.1
  have hS := hg.2.2.2
  have hw30 := hwo.1
  have hg7 := hgo.1
  have h5r := hro.1
  have h8t := hto.1
  have hcb := fun (j : Nat) (hj : j < w.1) => (show -2147483648 ≤ w.2 j ∧ w.2 j < 2147483648 by have := hwo.2 j hj; omega)
  have hrb := fun (j : Nat) (hj : j < r.1) => (show r.2 j < 7 by have := hro.2.1 j hj; omega)
  refine br_ofW (by decide) 0 rfl (fun G C => ?_)
  refine br_iload_n C dX5_mean_0 rfl rfl ?_
  refine br_i2lK C (by omega) dX5_mean_1 ?_
  refine br_lconst C dX5_mean_2 (v := br_K 0) (by decide) ?_
  refine br_lconst C dX5_mean_3 (v := br_K 1) (by decide) ?_
  refine br_cs3B C scX5_40 (c_X5_in k 0 1 (by omega) (by omega) (by omega)) (by decide) (fun _ => Nat.le_of_ble_eq_true rfl) dX5_mean_4 (fun h4 => ?_) (fun h4 => ?_)
  · refine br_if_ne1 C dX5_mean_7 (tgt := 13) (by decide) ?_
    refine br_aload_n C dX5_mean_13 rfl rfl ?_
    refine br_cv0B C vcX5_117 (c_X5_lacks hg1 hg7) (by decide) rfl rfl (fun _ => Nat.le_of_ble_eq_true rfl) dX5_mean_14 (fun h14 => ?_) (fun h14 => ?_)
    · refine br_if_eq1 C dX5_mean_17 (tgt := 25) (by decide) ?_
      refine br_bipushJ C (by decide) dX5_mean_20 ?_
      refine br_goto C dX5_mean_22 (tgt := 38) (by decide) ?_
      exact br_iret C rfl dX5_mean_38 ⟨congrArg (fun x => some (br_i (br_J x))) (show _ = br_vMean (w, g, r, c, t, n, b, kp, ri, ci, ti) k from by first | exact ((if_neg (by omega)).trans (if_pos h14)).symm | exact ((if_neg (by omega)).trans (if_neg h14)).symm), rfl⟩
    · refine br_if_eq0 C dX5_mean_17 (tgt := 25) (by decide) ?_
      refine br_aload_n C dX5_mean_25 rfl rfl ?_
      refine br_aload_n C dX5_mean_26 rfl rfl ?_
      refine br_getR C fdX5_16 dX5_mean_27 rfl rfl ?_
      refine br_aload_n C dX5_mean_30 rfl rfl ?_
      refine br_getI C fdX5_66 dX5_mean_31 rfl rfl (by assumption) ?_
      refine br_iload_n C dX5_mean_34 rfl rfl ?_
      refine br_cv3R C vcX5_138 (c_X5_meanOf hg hgo (ra := 26) rfl hr hro k hbk) (by decide) rfl rfl (fun _ => Nat.le_of_ble_eq_true rfl) dX5_mean_35 ?_
      exact br_iret C rfl dX5_mean_38 ⟨congrArg (fun x => some (br_i (br_J x))) (show _ = br_vMean (w, g, r, c, t, n, b, kp, ri, ci, ti) k from by first | exact ((if_neg (by omega)).trans (if_pos h14)).symm | exact ((if_neg (by omega)).trans (if_neg h14)).symm), rfl⟩
  · refine br_if_ne0 C dX5_mean_7 (tgt := 13) (by decide) ?_
    refine br_bipushJ C (by decide) dX5_mean_10 ?_
    exact br_iret C rfl dX5_mean_12 ⟨congrArg (fun x => some (br_i (br_J x))) (show _ = br_vMean (w, g, r, c, t, n, b, kp, ri, ci, ti) k from (if_pos (by omega)).symm), rfl⟩

set_option maxHeartbeats 4000000 in
set_option maxRecDepth 100000 in
theorem c_X5_odds {σ : br_Wd} {A : br_A} (hm : br_MR σ A) (hA : br_Aok A) (s : Int) (hbs : -2147483648 ≤ s ∧ s < 2147483648) (k : Int) (hbk : -2147483648 ≤ k ∧ k < 2147483648) : br_Met 5 mX5_odds [br_r 23, br_i (br_J s), br_i (br_J k)] σ (br_R (br_J (br_vOdds A s k)) σ) := by
  obtain ⟨w, g, r, c, t, n, b, kp, ri, ci, ti⟩ := A
  have hm0 := hm
  have hA0 := hA
  obtain ⟨⟨hw, hg, hr, ht⟩, ⟨hr7, ht11, hcc, hnn, hbb⟩, ⟨e, he, heb, hke⟩, him⟩ := hm
  obtain ⟨⟨hwo, hgo, hro, hto⟩, ⟨hb30, hn512⟩, hio⟩ := hA
  have hw1 := hw.1
  have hg1 := hg.1
  have hK := hg.2.1
  have hWo := hg.2.2.1
  have hS := hg.2.2.2
  have hw30 := hwo.1
  have hg7 := hgo.1
  have h5r := hro.1
  have h8t := hto.1
  have hcb := fun (j : Nat) (hj : j < w.1) => (show -2147483648 ≤ w.2 j ∧ w.2 j < 2147483648 by have := hwo.2 j hj; omega)
  have hrb := fun (j : Nat) (hj : j < r.1) => (show r.2 j < 7 by have := hro.2.1 j hj; omega)
  refine br_ofW (by decide) 0 rfl (fun G C => ?_)
  refine br_iload_n C dX5_odds_0 rfl rfl ?_
  refine br_i2lK C (by omega) dX5_odds_1 ?_
  refine br_ldc2K C klX5_144 (z := -100) (by decide) dX5_odds_2 ?_
  refine br_ldc2K C klX5_146 (z := 100) (by decide) dX5_odds_5 ?_
  refine br_cs3B C scX5_40 (c_X5_in s (-100) 100 (by omega) (by omega) (by omega)) (by decide) (fun _ => Nat.le_of_ble_eq_true rfl) dX5_odds_8 (fun h8 => ?_) (fun h8 => ?_)
  · refine br_if_eq1 C dX5_odds_11 (tgt := 24) (by decide) ?_
    refine br_iload_n C dX5_odds_14 rfl rfl ?_
    refine br_i2lK C (by omega) dX5_odds_15 ?_
    refine br_lconst C dX5_odds_16 (v := br_K 0) (by decide) ?_
    refine br_lconst C dX5_odds_17 (v := br_K 1) (by decide) ?_
    refine br_cs3B C scX5_40 (c_X5_in k 0 1 (by omega) (by omega) (by omega)) (by decide) (fun _ => Nat.le_of_ble_eq_true rfl) dX5_odds_18 (fun h18 => ?_) (fun h18 => ?_)
    · refine br_if_ne1 C dX5_odds_21 (tgt := 27) (by decide) ?_
      refine br_aload_n C dX5_odds_27 rfl rfl ?_
      refine br_cv0B C vcX5_117 (c_X5_lacks hg1 hg7) (by decide) rfl rfl (fun _ => Nat.le_of_ble_eq_true rfl) dX5_odds_28 (fun h28 => ?_) (fun h28 => ?_)
      · refine br_if_eq1 C dX5_odds_31 (tgt := 39) (by decide) ?_
        refine br_bipushJ C (by decide) dX5_odds_34 ?_
        refine br_goto C dX5_odds_36 (tgt := 45) (by decide) ?_
        exact br_iret C rfl dX5_odds_45 ⟨congrArg (fun x => some (br_i (br_J x))) (show _ = br_vOdds (w, g, r, c, t, n, b, kp, ri, ci, ti) s k from by first | exact ((if_neg (by omega)).trans (if_pos h28)).symm | exact ((if_neg (by omega)).trans (if_neg h28)).symm), rfl⟩
      · refine br_if_eq0 C dX5_odds_31 (tgt := 39) (by decide) ?_
        refine br_aload_n C dX5_odds_39 rfl rfl ?_
        refine br_iload_n C dX5_odds_40 rfl rfl ?_
        refine br_iload_n C dX5_odds_41 rfl rfl ?_
        refine br_cv2R C vcX5_148 (c_X5_oddsOf hg hgo hr7 hr hro s (by omega) k hbk) (by decide) rfl rfl (fun _ => Nat.le_of_ble_eq_true rfl) dX5_odds_42 ?_
        exact br_iret C rfl dX5_odds_45 ⟨congrArg (fun x => some (br_i (br_J x))) (show _ = br_vOdds (w, g, r, c, t, n, b, kp, ri, ci, ti) s k from by first | exact ((if_neg (by omega)).trans (if_pos h28)).symm | exact ((if_neg (by omega)).trans (if_neg h28)).symm), rfl⟩
    · refine br_if_ne0 C dX5_odds_21 (tgt := 27) (by decide) ?_
      refine br_bipushJ C (by decide) dX5_odds_24 ?_
      exact br_iret C rfl dX5_odds_26 ⟨congrArg (fun x => some (br_i (br_J x))) (show _ = br_vOdds (w, g, r, c, t, n, b, kp, ri, ci, ti) s k from (if_pos (by omega)).symm), rfl⟩
  · refine br_if_eq0 C dX5_odds_11 (tgt := 24) (by decide) ?_
    refine br_bipushJ C (by decide) dX5_odds_24 ?_
    exact br_iret C rfl dX5_odds_26 ⟨congrArg (fun x => some (br_i (br_J x))) (show _ = br_vOdds (w, g, r, c, t, n, b, kp, ri, ci, ti) s k from (if_pos (by omega)).symm), rfl⟩
