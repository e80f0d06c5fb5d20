set_option maxHeartbeats 4000000 in
set_option maxRecDepth 100000 in
theorem c_X4_chanceOf {σ : br_Wd} (kd su pl : Int) (h1 : -10 ≤ kd ∧ kd ≤ 10) (h2 : 0 ≤ su ∧ su ≤ 10) (h3 : 0 ≤ pl ∧ pl ≤ 10) : br_Met 1 mX4_chanceOf [br_i (br_J kd), br_i (br_J su), br_i (br_J pl)] σ (br_R (br_J (br_ch kd su pl)) σ) := by
  refine br_ofW (by decide) 1 rfl (fun G C => ?_)
  refine br_iload_n C dX4_chanceOf_0 rfl rfl ?_
  refine br_iconstJ C dX4_chanceOf_1 ?_
  refine br_icmp_neJ C (by omega) (by omega) dX4_chanceOf_2 (tgt := 9) (by decide) (fun c2 => ?_) (fun c2 => ?_)
  · refine br_iconstJ C dX4_chanceOf_9 ?_
    refine br_iload_n C dX4_chanceOf_10 rfl rfl ?_
    refine br_iconstJ C dX4_chanceOf_11 ?_
    refine br_isubJ C dX4_chanceOf_12 ?_
    refine br_mmax C rfl (by omega) (by omega) (by decide) (fun _ => Nat.le_of_ble_eq_true rfl) dX4_chanceOf_13 ?_
    refine br_istore_n C dX4_chanceOf_16 rfl (by decide) rfl (L' := [_, _, _, _]) rfl ?_
    refine br_iconstJ C dX4_chanceOf_17 ?_
    refine br_iload_n C dX4_chanceOf_18 rfl rfl ?_
    refine br_iload_n C dX4_chanceOf_19 rfl rfl ?_
    refine br_isubJ C dX4_chanceOf_20 ?_
    refine br_mmax C rfl (by omega) (by omega) (by decide) (fun _ => Nat.le_of_ble_eq_true rfl) dX4_chanceOf_21 ?_
    exact br_iret C rfl dX4_chanceOf_24 ⟨by unfold br_ch; first | rw [if_pos c2] | rw [if_neg c2], rfl⟩
  · refine br_iconstJ C dX4_chanceOf_5 ?_
    refine br_goto C dX4_chanceOf_6 (tgt := 16) (by decide) ?_
    refine br_istore_n C dX4_chanceOf_16 rfl (by decide) rfl (L' := [_, _, _, _]) rfl ?_
    refine br_iconstJ C dX4_chanceOf_17 ?_
    refine br_iload_n C dX4_chanceOf_18 rfl rfl ?_
    refine br_iload_n C dX4_chanceOf_19 rfl rfl ?_
    refine br_isubJ C dX4_chanceOf_20 ?_
    refine br_mmax C rfl (by omega) (by omega) (by decide) (fun _ => Nat.le_of_ble_eq_true rfl) dX4_chanceOf_21 ?_
    exact br_iret C rfl dX4_chanceOf_24 ⟨by unfold br_ch; first | rw [if_pos c2] | rw [if_neg c2], rfl⟩

set_option maxHeartbeats 4000000 in
set_option maxRecDepth 100000 in
theorem c_X1_kindByLetter {σ : br_Wd} (z : Int) (hz : -2147483648 ≤ z ∧ z < 2147483648) : br_Met 0 mX1_kindByLetter [br_i (br_J z)] σ (br_R (br_J (br_kd z)) σ) := by
  refine br_ofW (by decide) 0 rfl (fun G C => ?_)
  refine br_iload_n C dX1_kindByLetter_0 rfl rfl ?_
  rcases (show (z < 102 ∨ 116 < z) ∨ z = 102 ∨ z = 103 ∨ z = 104 ∨ z = 105 ∨ z = 106 ∨ z = 107 ∨ z = 108 ∨ z = 109 ∨ z = 110 ∨ z = 111 ∨ z = 112 ∨ z = 113 ∨ z = 114 ∨ z = 115 ∨ z = 116 by omega) with c1 | rfl | rfl | rfl | rfl | rfl | rfl | rfl | rfl | rfl | rfl | rfl | rfl | rfl | rfl | rfl
  · refine br_tableOutJ C c1 (by omega) dX1_kindByLetter_1 (tgt := 86) (by decide) ?_
    refine br_iconstJ C dX1_kindByLetter_86 ?_
    exact br_iret C rfl dX1_kindByLetter_87 ⟨by first | rfl | (unfold br_kd; repeat rw [if_neg (by omega)]), rfl⟩
  · refine br_tableInJ C (by decide) (by decide) (by decide) dX1_kindByLetter_1 (off := 77) rfl (tgt := 78) (by decide) ?_
    refine br_iconstJ C dX1_kindByLetter_78 ?_
    exact br_iret C rfl dX1_kindByLetter_79 ⟨by first | rfl | (unfold br_kd; repeat rw [if_neg (by omega)]), rfl⟩
  · refine br_tableInJ C (by decide) (by decide) (by decide) dX1_kindByLetter_1 (off := 85) rfl (tgt := 86) (by decide) ?_
    refine br_iconstJ C dX1_kindByLetter_86 ?_
    exact br_iret C rfl dX1_kindByLetter_87 ⟨by first | rfl | (unfold br_kd; repeat rw [if_neg (by omega)]), rfl⟩
  · refine br_tableInJ C (by decide) (by decide) (by decide) dX1_kindByLetter_1 (off := 81) rfl (tgt := 82) (by decide) ?_
    refine br_iconstJ C dX1_kindByLetter_82 ?_
    exact br_iret C rfl dX1_kindByLetter_83 ⟨by first | rfl | (unfold br_kd; repeat rw [if_neg (by omega)]), rfl⟩
  · refine br_tableInJ C (by decide) (by decide) (by decide) dX1_kindByLetter_1 (off := 85) rfl (tgt := 86) (by decide) ?_
    refine br_iconstJ C dX1_kindByLetter_86 ?_
    exact br_iret C rfl dX1_kindByLetter_87 ⟨by first | rfl | (unfold br_kd; repeat rw [if_neg (by omega)]), rfl⟩
  · refine br_tableInJ C (by decide) (by decide) (by decide) dX1_kindByLetter_1 (off := 85) rfl (tgt := 86) (by decide) ?_
    refine br_iconstJ C dX1_kindByLetter_86 ?_
    exact br_iret C rfl dX1_kindByLetter_87 ⟨by first | rfl | (unfold br_kd; repeat rw [if_neg (by omega)]), rfl⟩
  · refine br_tableInJ C (by decide) (by decide) (by decide) dX1_kindByLetter_1 (off := 85) rfl (tgt := 86) (by decide) ?_
    refine br_iconstJ C dX1_kindByLetter_86 ?_
    exact br_iret C rfl dX1_kindByLetter_87 ⟨by first | rfl | (unfold br_kd; repeat rw [if_neg (by omega)]), rfl⟩
  · refine br_tableInJ C (by decide) (by decide) (by decide) dX1_kindByLetter_1 (off := 85) rfl (tgt := 86) (by decide) ?_
    refine br_iconstJ C dX1_kindByLetter_86 ?_
    exact br_iret C rfl dX1_kindByLetter_87 ⟨by first | rfl | (unfold br_kd; repeat rw [if_neg (by omega)]), rfl⟩
  · refine br_tableInJ C (by decide) (by decide) (by decide) dX1_kindByLetter_1 (off := 85) rfl (tgt := 86) (by decide) ?_
    refine br_iconstJ C dX1_kindByLetter_86 ?_
    exact br_iret C rfl dX1_kindByLetter_87 ⟨by first | rfl | (unfold br_kd; repeat rw [if_neg (by omega)]), rfl⟩
  · refine br_tableInJ C (by decide) (by decide) (by decide) dX1_kindByLetter_1 (off := 85) rfl (tgt := 86) (by decide) ?_
    refine br_iconstJ C dX1_kindByLetter_86 ?_
    exact br_iret C rfl dX1_kindByLetter_87 ⟨by first | rfl | (unfold br_kd; repeat rw [if_neg (by omega)]), rfl⟩
  · refine br_tableInJ C (by decide) (by decide) (by decide) dX1_kindByLetter_1 (off := 85) rfl (tgt := 86) (by decide) ?_
    refine br_iconstJ C dX1_kindByLetter_86 ?_
    exact br_iret C rfl dX1_kindByLetter_87 ⟨by first | rfl | (unfold br_kd; repeat rw [if_neg (by omega)]), rfl⟩
  · refine br_tableInJ C (by decide) (by decide) (by decide) dX1_kindByLetter_1 (off := 75) rfl (tgt := 76) (by decide) ?_
    refine br_iconstJ C dX1_kindByLetter_76 ?_
    exact br_iret C rfl dX1_kindByLetter_77 ⟨by first | rfl | (unfold br_kd; repeat rw [if_neg (by omega)]), rfl⟩
  · refine br_tableInJ C (by decide) (by decide) (by decide) dX1_kindByLetter_1 (off := 85) rfl (tgt := 86) (by decide) ?_
    refine br_iconstJ C dX1_kindByLetter_86 ?_
    exact br_iret C rfl dX1_kindByLetter_87 ⟨by first | rfl | (unfold br_kd; repeat rw [if_neg (by omega)]), rfl⟩
  · refine br_tableInJ C (by decide) (by decide) (by decide) dX1_kindByLetter_1 (off := 83) rfl (tgt := 84) (by decide) ?_
    refine br_iconstJ C dX1_kindByLetter_84 ?_
    exact br_iret C rfl dX1_kindByLetter_85 ⟨by first | rfl | (unfold br_kd; repeat rw [if_neg (by omega)]), rfl⟩
  · refine br_tableInJ C (by decide) (by decide) (by decide) dX1_kindByLetter_1 (off := 85) rfl (tgt := 86) (by decide) ?_
    refine br_iconstJ C dX1_kindByLetter_86 ?_
    exact br_iret C rfl dX1_kindByLetter_87 ⟨by first | rfl | (unfold br_kd; repeat rw [if_neg (by omega)]), rfl⟩
  · refine br_tableInJ C (by decide) (by decide) (by decide) dX1_kindByLetter_1 (off := 79) rfl (tgt := 80) (by decide) ?_
    refine br_iconstJ C dX1_kindByLetter_80 ?_
    exact br_iret C rfl dX1_kindByLetter_81 ⟨by first | rfl | (unfold br_kd; repeat rw [if_neg (by omega)]), rfl⟩

theorem br_kd_bnd (z : Int) : -1 ≤ br_kd z ∧ br_kd z ≤ 4 := by
  unfold br_kd
  repeat (first | omega | split)

set_option maxHeartbeats 4000000 in
set_option maxRecDepth 100000 in
theorem c_X1_fits {σ : br_Wd} (p : Nat) (z : Int) (hp : p ≤ 30) (hz : -2147483648 ≤ z ∧ z < 2147483648) : br_Met 1 mX1_fits [br_i (br_J p), br_i (br_J z)] σ (br_R (br_J (if br_fit p z then 1 else 0)) σ) := by
  refine br_ofW (by decide) 1 rfl (fun G C => ?_)
  have hk := br_kd_bnd z
  refine br_iload_n C dX1_fits_0 rfl rfl ?_
  refine br_bipushJ C (by decide) dX1_fits_1 ?_
  refine br_icmp_ltJ C (by omega) (by omega) dX1_fits_3 (tgt := 8) (by decide) (fun c3 => ?_) (fun c3 => ?_)
  · refine br_iload_n C dX1_fits_8 rfl rfl ?_
    refine br_iconstJ C dX1_fits_9 ?_
    refine br_iremJ C (by omega) (by omega) dX1_fits_10 ?_
    refine br_istore_n C dX1_fits_11 rfl (by decide) rfl (L' := [_, _, _]) rfl ?_
    refine br_iload_n C dX1_fits_12 rfl rfl ?_
    refine br_if_neJ C (by omega) dX1_fits_13 (tgt := 30) (by decide) (fun c13 => ?_) (fun c13 => ?_)
    · refine br_iload_n C dX1_fits_30 rfl rfl ?_
      refine br_iconstJ C dX1_fits_31 ?_
      refine br_icmp_neJ C (by omega) (by omega) dX1_fits_32 (tgt := 47) (by decide) (fun c32 => ?_) (fun c32 => ?_)
      · refine br_iload_n C dX1_fits_47 rfl rfl ?_
        refine br_bipushJ C (by decide) dX1_fits_48 ?_
        refine br_icmp_ltJ C (by omega) (by omega) dX1_fits_50 (tgt := 63) (by decide) (fun c50 => ?_) (fun c50 => ?_)
        · refine br_iconstJ C dX1_fits_63 ?_
          exact br_zret C (by decide) rfl dX1_fits_64 ⟨by first | rw [if_pos (by omega)] | rw [if_neg (by omega)], rfl⟩
        · refine br_iload_n C dX1_fits_53 rfl rfl ?_
          refine br_bipushJ C (by decide) dX1_fits_54 ?_
          refine br_icmp_gtJ C (by omega) (by omega) dX1_fits_56 (tgt := 63) (by decide) (fun c56 => ?_) (fun c56 => ?_)
          · refine br_iconstJ C dX1_fits_63 ?_
            exact br_zret C (by decide) rfl dX1_fits_64 ⟨by first | rw [if_pos (by omega)] | rw [if_neg (by omega)], rfl⟩
          · refine br_iconstJ C dX1_fits_59 ?_
            refine br_goto C dX1_fits_60 (tgt := 64) (by decide) ?_
            exact br_zret C (by decide) rfl dX1_fits_64 ⟨by first | rw [if_pos (by omega)] | rw [if_neg (by omega)], rfl⟩
      · refine br_iload_n C dX1_fits_35 rfl rfl ?_
        refine br_bipushJ C (by decide) dX1_fits_36 ?_
        refine br_icmp_neJ C (by omega) (by omega) dX1_fits_38 (tgt := 45) (by decide) (fun c38 => ?_) (fun c38 => ?_)
        · refine br_iconstJ C dX1_fits_45 ?_
          exact br_zret C (by decide) rfl dX1_fits_46 ⟨by first | rw [if_pos (by omega)] | rw [if_neg (by omega)], rfl⟩
        · refine br_iconstJ C dX1_fits_41 ?_
          refine br_goto C dX1_fits_42 (tgt := 46) (by decide) ?_
          exact br_zret C (by decide) rfl dX1_fits_46 ⟨by first | rw [if_pos (by omega)] | rw [if_neg (by omega)], rfl⟩
    · refine br_iload_n C dX1_fits_16 rfl rfl ?_
      refine br_cs1R C scX1_27 (c_X1_kindByLetter z hz) (by decide) (fun _ => Nat.le_of_ble_eq_true rfl) dX1_fits_17 ?_
      refine br_iconstJ C dX1_fits_20 ?_
      refine br_icmp_eqJ C (by omega) (by omega) dX1_fits_21 (tgt := 28) (by decide) (fun c21 => ?_) (fun c21 => ?_)
      · refine br_iconstJ C dX1_fits_28 ?_
        exact br_zret C (by decide) rfl dX1_fits_29 ⟨by first | rw [if_pos (by omega)] | rw [if_neg (by omega)], rfl⟩
      · refine br_iconstJ C dX1_fits_24 ?_
        refine br_goto C dX1_fits_25 (tgt := 29) (by decide) ?_
        exact br_zret C (by decide) rfl dX1_fits_29 ⟨by first | rw [if_pos (by omega)] | rw [if_neg (by omega)], rfl⟩
  · refine br_iconstJ C dX1_fits_6 ?_
    exact br_zret C (by decide) rfl dX1_fits_7 ⟨by first | rw [if_pos (by omega)] | rw [if_neg (by omega)], rfl⟩

set_option maxHeartbeats 4000000 in
set_option maxRecDepth 100000 in
theorem c_X1_codeAt {σ : br_Wd} {w : br_Pg} (hw : br_PC σ w) (hn : w.1 ≤ 30) (z : Int) (h0 : 0 ≤ z) (h1 : z < w.1) : br_Met 0 mX1_codeAt [br_r 1, br_i (br_J z)] σ (br_R (br_J (w.2 z.toNat)) σ) := by
  obtain ⟨hl, hc⟩ := hw
  refine br_ofW (by decide) 0 rfl (fun G C => ?_)
  refine br_iload_n C dX1_codeAt_0 rfl rfl ?_
  refine br_if_ltJ C (by omega) dX1_codeAt_1 (tgt := 21) (by decide) (fun c1 => ?_) (fun c1 => ?_)
  · omega
  · refine br_iload_n C dX1_codeAt_4 rfl rfl ?_
    refine br_aload_n C dX1_codeAt_5 rfl rfl ?_
    refine br_getI C fdX1_15 dX1_codeAt_6 rfl rfl (by assumption) ?_
    refine br_icmp_geJ C (by omega) (by omega) dX1_codeAt_9 (tgt := 21) (by decide) (fun c9 => ?_) (fun c9 => ?_)
    · omega
    · refine br_aload_n C dX1_codeAt_12 rfl rfl ?_
      refine br_getR C fdX1_9 dX1_codeAt_13 rfl rfl ?_
      refine br_iload_n C dX1_codeAt_16 rfl rfl ?_
      refine br_ialdJ C rfl (by decide) (by omega) (by omega) (hc z.toNat (by omega)) dX1_codeAt_17 ?_
      refine br_goto C dX1_codeAt_18 (tgt := 22) (by decide) ?_
      exact br_iret C rfl dX1_codeAt_22 ⟨rfl, rfl⟩

set_option maxHeartbeats 4000000 in
set_option maxRecDepth 100000 in
theorem c_X1_add {σ : br_Wd} {w : br_Pg} (hw : br_PC σ w) (hn : w.1 ≤ 30) (z : Int) (hl30 : w.1 < 30) (hz : -2147483648 ≤ z ∧ z < 2147483648) : br_Met 0 mX1_add [br_r 1, br_i (br_J z)] σ (br_RV (br_up (br_up σ 2 w.1 (br_J z)) 1 1 (br_J (w.1 + 1)))) := by
  obtain ⟨hl, hc⟩ := hw
  refine br_ofW (by decide) 0 rfl (fun G C => ?_)
  refine br_aload_n C dX1_add_0 rfl rfl ?_
  refine br_getI C fdX1_15 dX1_add_1 rfl rfl (by assumption) ?_
  refine br_bipushJ C (by decide) dX1_add_4 ?_
  refine br_icmp_geJ C (by omega) (by omega) dX1_add_6 (tgt := 29) (by decide) (fun c6 => ?_) (fun c6 => ?_)
  · omega
  · refine br_aload_n C dX1_add_9 rfl rfl ?_
    refine br_getR C fdX1_9 dX1_add_10 rfl rfl ?_
    refine br_aload_n C dX1_add_13 rfl rfl ?_
    refine br_getI C fdX1_15 dX1_add_14 rfl rfl (by assumption) ?_
    refine br_iload_n C dX1_add_17 rfl rfl ?_
    refine br_iastJ C rfl (by decide) (by omega) (by omega) rfl dX1_add_18 ?_
    refine br_aload_n C dX1_add_19 rfl rfl ?_
    refine br_dup C dX1_add_20 rfl ?_
    refine br_getI C fdX1_15 dX1_add_21 rfl rfl (by assumption) ?_
    refine br_iconstJ C dX1_add_24 ?_
    refine br_iaddJ C dX1_add_25 ?_
    refine br_putI C fdX1_15 dX1_add_26 rfl rfl rfl ?_
    exact br_vret C rfl dX1_add_29 ⟨rfl, rfl⟩

set_option maxHeartbeats 4000000 in
set_option maxRecDepth 100000 in
theorem c_X1_firstFault {σ : br_Wd} {w : br_Pg} (hw : br_PC σ w) (hn : w.1 ≤ 30) (hb : ∀ j : Nat, j < w.1 → -2147483648 ≤ w.2 j ∧ w.2 j < 2147483648) : br_Met 2 mX1_firstFault [br_r 1] σ (br_R (br_J (br_fault w : Nat)) σ) := by
  obtain ⟨hl, hc⟩ := hw
  refine br_ofW (by decide) 1 rfl (fun G C => ?_)
  have loop : ∀ (n i : Nat), i + n = w.1 → br_fault w = br_ff w i n → G 2 [some (br_r 1), some (br_i (br_J i))] [] σ := by
    intro n
    induction n with
    | zero =>
      intro i hin hi
      refine br_iload_n C dX1_firstFault_2 rfl rfl ?_
      refine br_aload_n C dX1_firstFault_3 rfl rfl ?_
      refine br_getI C fdX1_15 dX1_firstFault_4 rfl rfl (by assumption) ?_
      refine br_icmp_geJ C (by omega) (by omega) dX1_firstFault_7 (tgt := 31) (by decide) (fun c7 => ?_) (fun c7 => ?_)
      · refine br_aload_n C dX1_firstFault_31 rfl rfl ?_
        refine br_getI C fdX1_15 dX1_firstFault_32 rfl rfl (by assumption) ?_
        exact br_iret C rfl dX1_firstFault_35 ⟨by first | (exfalso; omega) | (rw [hi]; rfl), rfl⟩
      · omega
    | succ n ih =>
      intro i hin hi
      refine br_iload_n C dX1_firstFault_2 rfl rfl ?_
      refine br_aload_n C dX1_firstFault_3 rfl rfl ?_
      refine br_getI C fdX1_15 dX1_firstFault_4 rfl rfl (by assumption) ?_
      refine br_icmp_geJ C (by omega) (by omega) dX1_firstFault_7 (tgt := 31) (by decide) (fun c7 => ?_) (fun c7 => ?_)
      · refine br_aload_n C dX1_firstFault_31 rfl rfl ?_
        refine br_getI C fdX1_15 dX1_firstFault_32 rfl rfl (by assumption) ?_
        exact br_iret C rfl dX1_firstFault_35 ⟨by first | (exfalso; omega) | (rw [hi]; rfl), rfl⟩
      · refine br_iload_n C dX1_firstFault_10 rfl rfl ?_
        refine br_aload_n C dX1_firstFault_11 rfl rfl ?_
        refine br_getR C fdX1_9 dX1_firstFault_12 rfl rfl ?_
        refine br_iload_n C dX1_firstFault_15 rfl rfl ?_
        refine br_ialdJ C rfl (by decide) (by omega) (by omega) (hc i (by omega)) dX1_firstFault_16 ?_
        refine br_cs2B C scX1_19 (c_X1_fits i (w.2 i) (by omega) (hb i (by omega))) (by decide) (fun _ => Nat.le_of_ble_eq_true rfl) dX1_firstFault_17 (fun h17 => ?_) (fun h17 => ?_)
        · refine br_if_ne1 C dX1_firstFault_20 (tgt := 25) (by decide) ?_
          refine br_iincJ C dX1_firstFault_25 rfl (by decide) rfl (L' := [_, _]) rfl ?_
          refine br_goto C dX1_firstFault_28 (tgt := 2) (by decide) ?_
          exact ih (i + 1) (by omega) (by rw [hi]; show (if _ then _ else _) = _; exact if_pos h17)
        · refine br_if_ne0 C dX1_firstFault_20 (tgt := 25) (by decide) ?_
          refine br_iload_n C dX1_firstFault_23 rfl rfl ?_
          exact br_iret C rfl dX1_firstFault_24 ⟨by rw [hi]; unfold br_ff; rw [if_neg h17], rfl⟩
  refine br_iconstJ C dX1_firstFault_0 ?_
  refine br_istore_n C dX1_firstFault_1 rfl (by decide) rfl (L' := [_, _]) rfl ?_
  exact loop w.1 0 (by omega) rfl

abbrev br_tells (w : br_Pg) : Prop := 7 ≤ w.1 ∧ w.1 % 4 = 3 ∧ br_fault w = w.1

theorem br_ff_le (w : br_Pg) : ∀ (n i : Nat), i + n = w.1 → i ≤ br_ff w i n ∧ br_ff w i n ≤ w.1 := by
  intro n
  induction n with
  | zero => intro i h; exact ⟨by show i ≤ w.1; omega, Nat.le_refl _⟩
  | succ n ih =>
    intro i h
    have := ih (i + 1) (by omega)
    unfold br_ff
    split <;> omega
theorem br_fault_le (w : br_Pg) : br_fault w ≤ w.1 := (br_ff_le w w.1 0 (by omega)).2

set_option maxHeartbeats 4000000 in
set_option maxRecDepth 100000 in
theorem c_X1_tellsGym {σ : br_Wd} {w : br_Pg} (hw : br_PC σ w) (hn : w.1 ≤ 30) (hb : ∀ j : Nat, j < w.1 → -2147483648 ≤ w.2 j ∧ w.2 j < 2147483648) : br_Met 3 mX1_tellsGym [br_r 1] σ (br_R (br_J (if br_tells w then 1 else 0)) σ) := by
  have hw0 := hw
  obtain ⟨hl, hc⟩ := hw
  have hf := br_fault_le w
  refine br_ofW (by decide) 1 rfl (fun G C => ?_)
  refine br_aload_n C dX1_tellsGym_0 rfl rfl ?_
  refine br_getI C fdX1_15 dX1_tellsGym_1 rfl rfl (by assumption) ?_
  refine br_iconstJ C dX1_tellsGym_4 ?_
  refine br_iremJ C (by omega) (by omega) dX1_tellsGym_5 ?_
  refine br_iconstJ C dX1_tellsGym_6 ?_
  refine br_icmp_neJ C (by omega) (by omega) dX1_tellsGym_7 (tgt := 14) (by decide) (fun c7 => ?_) (fun c7 => ?_)
  · refine br_iconstJ C dX1_tellsGym_14 ?_
    refine br_istore_n C dX1_tellsGym_15 rfl (by decide) rfl (L' := [_, _]) rfl ?_
    refine br_aload_n C dX1_tellsGym_16 rfl rfl ?_
    refine br_getI C fdX1_15 dX1_tellsGym_17 rfl rfl (by assumption) ?_
    refine br_bipushJ C (by decide) dX1_tellsGym_20 ?_
    refine br_icmp_ltJ C (by omega) (by omega) dX1_tellsGym_22 (tgt := 44) (by decide) (fun c22 => ?_) (fun c22 => ?_)
    · refine br_iconstJ C dX1_tellsGym_44 ?_
      exact br_zret C (by decide) rfl dX1_tellsGym_45 ⟨by first | rw [if_pos (by omega)] | rw [if_neg (by omega)], rfl⟩
    · refine br_iload_n C dX1_tellsGym_25 rfl rfl ?_
      refine br_if_eqJ C (by omega) dX1_tellsGym_26 (tgt := 44) (by decide) (fun _ => ?_) (fun c => absurd c (by decide))
      refine br_iconstJ C dX1_tellsGym_44 ?_
      exact br_zret C (by decide) rfl dX1_tellsGym_45 ⟨by first | rw [if_pos (by omega)] | rw [if_neg (by omega)], rfl⟩
  · refine br_iconstJ C dX1_tellsGym_10 ?_
    refine br_goto C dX1_tellsGym_11 (tgt := 15) (by decide) ?_
    refine br_istore_n C dX1_tellsGym_15 rfl (by decide) rfl (L' := [_, _]) rfl ?_
    refine br_aload_n C dX1_tellsGym_16 rfl rfl ?_
    refine br_getI C fdX1_15 dX1_tellsGym_17 rfl rfl (by assumption) ?_
    refine br_bipushJ C (by decide) dX1_tellsGym_20 ?_
    refine br_icmp_ltJ C (by omega) (by omega) dX1_tellsGym_22 (tgt := 44) (by decide) (fun c22 => ?_) (fun c22 => ?_)
    · refine br_iconstJ C dX1_tellsGym_44 ?_
      exact br_zret C (by decide) rfl dX1_tellsGym_45 ⟨by first | rw [if_pos (by omega)] | rw [if_neg (by omega)], rfl⟩
    · refine br_iload_n C dX1_tellsGym_25 rfl rfl ?_
      refine br_if_eqJ C (by omega) dX1_tellsGym_26 (tgt := 44) (by decide) (fun c => absurd c (by decide)) (fun _ => ?_)
      refine br_aload_n C dX1_tellsGym_29 rfl rfl ?_
      refine br_cv0R C vcX1_23 (c_X1_firstFault hw0 hn hb) (by decide) rfl rfl (fun _ => Nat.le_of_ble_eq_true rfl) dX1_tellsGym_30 ?_
      refine br_aload_n C dX1_tellsGym_33 rfl rfl ?_
      refine br_getI C fdX1_15 dX1_tellsGym_34 rfl rfl (by assumption) ?_
      refine br_icmp_neJ C (by omega) (by omega) dX1_tellsGym_37 (tgt := 44) (by decide) (fun c37 => ?_) (fun c37 => ?_)
      · refine br_iconstJ C dX1_tellsGym_44 ?_
        exact br_zret C (by decide) rfl dX1_tellsGym_45 ⟨by first | rw [if_pos (by omega)] | rw [if_neg (by omega)], rfl⟩
      · refine br_iconstJ C dX1_tellsGym_40 ?_
        refine br_goto C dX1_tellsGym_41 (tgt := 45) (by decide) ?_
        exact br_zret C (by decide) rfl dX1_tellsGym_45 ⟨by first | rw [if_pos (by omega)] | rw [if_neg (by omega)], rfl⟩

set_option maxHeartbeats 4000000 in
set_option maxRecDepth 100000 in
theorem c_X0_has {σ : br_Wd} {g : br_Gy} (hg : br_GC σ g) (hn : g.1 ≤ 7) (z : Int) (hz : -2147483648 ≤ z ∧ z < 2147483648) : br_Met 0 mX0_has [br_r 3, br_i (br_J z)] σ (br_R (br_J (if 0 ≤ z ∧ z < g.1 then 1 else 0)) σ) := by
  have hg0 := hg
  obtain ⟨hs, h4, h5, h6⟩ := hg
  refine br_ofW (by decide) 0 rfl (fun G C => ?_)
  refine br_iload_n C dX0_has_0 rfl rfl ?_
  refine br_if_ltJ C (by omega) dX0_has_1 (tgt := 16) (by decide) (fun c1 => ?_) (fun c1 => ?_)
  · refine br_iconstJ C dX0_has_16 ?_
    exact br_zret C (by decide) rfl dX0_has_17 ⟨by first | rw [if_pos (by omega)] | rw [if_neg (by omega)], rfl⟩
  · refine br_iload_n C dX0_has_4 rfl rfl ?_
    refine br_aload_n C dX0_has_5 rfl rfl ?_
    refine br_getI C fdX0_21 dX0_has_6 rfl rfl (by assumption) ?_
    refine br_icmp_geJ C (by omega) (by omega) dX0_has_9 (tgt := 16) (by decide) (fun c9 => ?_) (fun c9 => ?_)
    · refine br_iconstJ C dX0_has_16 ?_
      exact br_zret C (by decide) rfl dX0_has_17 ⟨by first | rw [if_pos (by omega)] | rw [if_neg (by omega)], rfl⟩
    · refine br_iconstJ C dX0_has_12 ?_
      refine br_goto C dX0_has_13 (tgt := 17) (by decide) ?_
      exact br_zret C (by decide) rfl dX0_has_17 ⟨by first | rw [if_pos (by omega)] | rw [if_neg (by omega)], rfl⟩

set_option maxHeartbeats 4000000 in
set_option maxRecDepth 100000 in
theorem c_X0_kindOf {σ : br_Wd} {g : br_Gy} (hg : br_GC σ g) (hn : g.1 ≤ 7) (z : Int) (hz : -2147483648 ≤ z ∧ z < 2147483648) : br_Met 1 mX0_kindOf [br_r 3, br_i (br_J z)] σ (br_R (br_J (br_kO g z)) σ) := by
  have hg0 := hg
  obtain ⟨hs, h4, h5, h6⟩ := hg
  refine br_ofW (by decide) 0 rfl (fun G C => ?_)
  refine br_aload_n C dX0_kindOf_0 rfl rfl ?_
  refine br_iload_n C dX0_kindOf_1 rfl rfl ?_
  refine br_cv1B C vcX0_37 (c_X0_has hg0 hn z hz) (by decide) rfl rfl (fun _ => Nat.le_of_ble_eq_true rfl) dX0_kindOf_2 (fun h2 => ?_) (fun h2 => ?_)
  · refine br_if_eq1 C dX0_kindOf_5 (tgt := 17) (by decide) ?_
    refine br_aload_n C dX0_kindOf_8 rfl rfl ?_
    refine br_getR C fdX0_9 dX0_kindOf_9 rfl rfl ?_
    refine br_iload_n C dX0_kindOf_12 rfl rfl ?_
    refine br_ialdJ C rfl (by decide) h2.1 (by omega) (h4 z.toNat (by omega)) dX0_kindOf_13 ?_
    refine br_goto C dX0_kindOf_14 (tgt := 18) (by decide) ?_
    exact br_iret C rfl dX0_kindOf_18 ⟨by unfold br_kO; first | rw [if_pos h2] | rw [if_neg h2], rfl⟩
  · refine br_if_eq0 C dX0_kindOf_5 (tgt := 17) (by decide) ?_
    refine br_iconstJ C dX0_kindOf_17 ?_
    exact br_iret C rfl dX0_kindOf_18 ⟨by unfold br_kO; first | rw [if_pos h2] | rw [if_neg h2], rfl⟩

set_option maxHeartbeats 4000000 in
set_option maxRecDepth 100000 in
theorem c_X0_worthOf {σ : br_Wd} {g : br_Gy} (hg : br_GC σ g) (hn : g.1 ≤ 7) (z : Int) (hz : -2147483648 ≤ z ∧ z < 2147483648) : br_Met 1 mX0_worthOf [br_r 3, br_i (br_J z)] σ (br_R (br_J (br_wO g z)) σ) := by
  have hg0 := hg
  obtain ⟨hs, h4, h5, h6⟩ := hg
  refine br_ofW (by decide) 0 rfl (fun G C => ?_)
  refine br_aload_n C dX0_worthOf_0 rfl rfl ?_
  refine br_iload_n C dX0_worthOf_1 rfl rfl ?_
  refine br_cv1B C vcX0_37 (c_X0_has hg0 hn z hz) (by decide) rfl rfl (fun _ => Nat.le_of_ble_eq_true rfl) dX0_worthOf_2 (fun h2 => ?_) (fun h2 => ?_)
  · refine br_if_eq1 C dX0_worthOf_5 (tgt := 17) (by decide) ?_
    refine br_aload_n C dX0_worthOf_8 rfl rfl ?_
    refine br_getR C fdX0_15 dX0_worthOf_9 rfl rfl ?_
    refine br_iload_n C dX0_worthOf_12 rfl rfl ?_
    refine br_ialdJ C rfl (by decide) h2.1 (by omega) (h5 z.toNat (by omega)) dX0_worthOf_13 ?_
    refine br_goto C dX0_worthOf_14 (tgt := 18) (by decide) ?_
    exact br_iret C rfl dX0_worthOf_18 ⟨by unfold br_wO; first | rw [if_pos h2] | rw [if_neg h2], rfl⟩
  · refine br_if_eq0 C dX0_worthOf_5 (tgt := 17) (by decide) ?_
    refine br_iconstJ C dX0_worthOf_17 ?_
    exact br_iret C rfl dX0_worthOf_18 ⟨by unfold br_wO; first | rw [if_pos h2] | rw [if_neg h2], rfl⟩

set_option maxHeartbeats 4000000 in
set_option maxRecDepth 100000 in
theorem c_X0_sureOf {σ : br_Wd} {g : br_Gy} (hg : br_GC σ g) (hn : g.1 ≤ 7) (z : Int) (hz : -2147483648 ≤ z ∧ z < 2147483648) : br_Met 1 mX0_sureOf [br_r 3, br_i (br_J z)] σ (br_R (br_J (br_sO g z)) σ) := by
  have hg0 := hg
  obtain ⟨hs, h4, h5, h6⟩ := hg
  refine br_ofW (by decide) 0 rfl (fun G C => ?_)
  refine br_aload_n C dX0_sureOf_0 rfl rfl ?_
  refine br_iload_n C dX0_sureOf_1 rfl rfl ?_
  refine br_cv1B C vcX0_37 (c_X0_has hg0 hn z hz) (by decide) rfl rfl (fun _ => Nat.le_of_ble_eq_true rfl) dX0_sureOf_2 (fun h2 => ?_) (fun h2 => ?_)
  · refine br_if_eq1 C dX0_sureOf_5 (tgt := 17) (by decide) ?_
    refine br_aload_n C dX0_sureOf_8 rfl rfl ?_
    refine br_getR C fdX0_18 dX0_sureOf_9 rfl rfl ?_
    refine br_iload_n C dX0_sureOf_12 rfl rfl ?_
    refine br_ialdJ C rfl (by decide) h2.1 (by omega) (h6 z.toNat (by omega)) dX0_sureOf_13 ?_
    refine br_goto C dX0_sureOf_14 (tgt := 18) (by decide) ?_
    exact br_iret C rfl dX0_sureOf_18 ⟨by unfold br_sO; first | rw [if_pos h2] | rw [if_neg h2], rfl⟩
  · refine br_if_eq0 C dX0_sureOf_5 (tgt := 17) (by decide) ?_
    refine br_iconstJ C dX0_sureOf_17 ?_
    exact br_iret C rfl dX0_sureOf_18 ⟨by unfold br_sO; first | rw [if_pos h2] | rw [if_neg h2], rfl⟩

set_option maxHeartbeats 4000000 in
set_option maxRecDepth 100000 in
theorem c_X0_isA {σ : br_Wd} {g : br_Gy} (hg : br_GC σ g) (hn : g.1 ≤ 7) (hk : ∀ j : Nat, j < g.1 → 0 ≤ br_gK g j ∧ br_gK g j ≤ 4) (z kd : Int) (hz : -2147483648 ≤ z ∧ z < 2147483648) (hkd : -2147483648 ≤ kd ∧ kd < 2147483648) : br_Met 1 mX0_isA [br_r 3, br_i (br_J z), br_i (br_J kd)] σ (br_R (br_J (if br_isP g z kd then 1 else 0)) σ) := by
  have hg0 := hg
  obtain ⟨hs, h4, h5, h6⟩ := hg
  refine br_ofW (by decide) 1 rfl (fun G C => ?_)
  refine br_aload_n C dX0_isA_0 rfl rfl ?_
  refine br_iload_n C dX0_isA_1 rfl rfl ?_
  refine br_cv1B C vcX0_37 (c_X0_has hg0 hn z hz) (by decide) rfl rfl (fun _ => Nat.le_of_ble_eq_true rfl) dX0_isA_2 (fun h2 => ?_) (fun h2 => ?_)
  · refine br_if_ne1 C dX0_isA_5 (tgt := 10) (by decide) ?_
    refine br_aload_n C dX0_isA_10 rfl rfl ?_
    refine br_getR C fdX0_9 dX0_isA_11 rfl rfl ?_
    refine br_iload_n C dX0_isA_14 rfl rfl ?_
    refine br_ialdJ C rfl (by decide) h2.1 (by omega) (h4 z.toNat (by omega)) dX0_isA_15 ?_
    have hkz := hk z.toNat (by omega)
    refine br_istore_n C dX0_isA_16 rfl (by decide) rfl (L' := [_, _, _, _]) rfl ?_
    refine br_iload_n C dX0_isA_17 rfl rfl ?_
    refine br_if_eqJ C (by omega) dX0_isA_18 (tgt := 36) (by decide) (fun c18 => ?_) (fun c18 => ?_)
    · refine br_iconstJ C dX0_isA_36 ?_
      refine br_goto C dX0_isA_37 (tgt := 41) (by decide) ?_
      exact br_zret C (by decide) rfl dX0_isA_41 ⟨by first | rw [if_pos (by omega)] | rw [if_neg (by omega)], rfl⟩
    · refine br_iload_n C dX0_isA_21 rfl rfl ?_
      refine br_iload_n C dX0_isA_22 rfl rfl ?_
      refine br_icmp_eqJ C (by omega) (by omega) dX0_isA_23 (tgt := 36) (by decide) (fun c23 => ?_) (fun c23 => ?_)
      · refine br_iconstJ C dX0_isA_36 ?_
        refine br_goto C dX0_isA_37 (tgt := 41) (by decide) ?_
        exact br_zret C (by decide) rfl dX0_isA_41 ⟨by first | rw [if_pos (by omega)] | rw [if_neg (by omega)], rfl⟩
      · refine br_iload_n C dX0_isA_26 rfl rfl ?_
        refine br_iconstJ C dX0_isA_27 ?_
        refine br_icmp_neJ C (by omega) (by omega) dX0_isA_28 (tgt := 40) (by decide) (fun c28 => ?_) (fun c28 => ?_)
        · refine br_iconstJ C dX0_isA_40 ?_
          exact br_zret C (by decide) rfl dX0_isA_41 ⟨by first | rw [if_pos (by omega)] | rw [if_neg (by omega)], rfl⟩
        · refine br_iload_n C dX0_isA_31 rfl rfl ?_
          refine br_iconstJ C dX0_isA_32 ?_
          refine br_icmp_neJ C (by omega) (by omega) dX0_isA_33 (tgt := 40) (by decide) (fun c33 => ?_) (fun c33 => ?_)
          · refine br_iconstJ C dX0_isA_40 ?_
            exact br_zret C (by decide) rfl dX0_isA_41 ⟨by first | rw [if_pos (by omega)] | rw [if_neg (by omega)], rfl⟩
          · refine br_iconstJ C dX0_isA_36 ?_
            refine br_goto C dX0_isA_37 (tgt := 41) (by decide) ?_
            exact br_zret C (by decide) rfl dX0_isA_41 ⟨by first | rw [if_pos (by omega)] | rw [if_neg (by omega)], rfl⟩
  · refine br_if_ne0 C dX0_isA_5 (tgt := 10) (by decide) ?_
    refine br_iconstJ C dX0_isA_8 ?_
    exact br_zret C (by decide) rfl dX0_isA_9 ⟨by first | rw [if_pos (by omega)] | rw [if_neg (by omega)], rfl⟩
