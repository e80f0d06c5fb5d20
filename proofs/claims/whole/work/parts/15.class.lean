theorem br_PC.keep {σ τ : br_Wd} {w : br_Pg} (h : br_PC σ w) (e1 : τ.1 1 = σ.1 1) (e2 : τ.1 2 = σ.1 2) : br_PC τ w := ⟨by rw [e1]; exact h.1, fun j hj => by rw [e2]; exact h.2 j hj⟩
theorem br_GC.keep {σ τ : br_Wd} {g : br_Gy} (h : br_GC σ g) (e3 : τ.1 3 = σ.1 3) (e4 : τ.1 4 = σ.1 4) (e5 : τ.1 5 = σ.1 5) (e6 : τ.1 6 = σ.1 6) : br_GC τ g := ⟨by rw [e3]; exact h.1, fun j hj => by rw [e4]; exact h.2.1 j hj, fun j hj => by rw [e5]; exact h.2.2.1 j hj, fun j hj => by rw [e6]; exact h.2.2.2 j hj⟩
theorem br_RC.keep {q : Nat} {σ τ : br_Wd} {r : br_Ro} (h : br_RC q σ r) (e1 : τ.1 q = σ.1 q) (e2 : τ.1 (q + 1) = σ.1 (q + 1)) : br_RC q τ r := ⟨by rw [e1]; exact h.1, fun j hj => by rw [e2]; exact h.2 j hj⟩
theorem br_TC.keep {q : Nat} {σ τ : br_Wd} {t : br_Tr} (h : br_TC q σ t) (e0 : τ.1 q = σ.1 q) (e1 : τ.1 (q + 1) = σ.1 (q + 1)) (e2 : τ.1 (q + 2) = σ.1 (q + 2)) (e3 : τ.1 (q + 3) = σ.1 (q + 3)) : br_TC q τ t := ⟨by rw [e0]; exact h.1, fun j hj => by rw [e1]; exact h.2.1 j hj, fun j hj => by rw [e2]; exact h.2.2.1 j hj, fun j hj => by rw [e3]; exact h.2.2.2 j hj⟩

set_option maxHeartbeats 4000000 in
set_option maxRecDepth 100000 in
theorem c_X4_noGym {σ : br_Wd} {A : br_A} (hc : br_CR σ A) (hA : br_Aok A) : br_Met 0 mX4_noGym [br_r 0] σ (br_R (br_J (if A.2.1.1 = 0 then 1 else 0)) σ) := by
  obtain ⟨w, g, r, c, t, n, b, kp, ri, ci, ti⟩ := A
  have hc0 := hc
  obtain ⟨⟨hw, hg, hr, ht⟩, ⟨hcc, hnn, hbb, hkp⟩, him⟩ := hc
  obtain ⟨⟨hwo, hgo, hro, hto⟩, ⟨hb30, hn512⟩, hio⟩ := hA
  have hw1 := hw.1
  have hg1 := hg.1
  have hr1 := hr.1
  have ht1 := ht.1
  have hw30 := hwo.1
  have hg7 := hgo.1
  have h5r := hro.1
  have h8t := hto.1
  have hk4 := fun (j : Nat) (hj : j < g.1) => (hgo.2 j hj).1
  have hrb := fun (j : Nat) (hj : j < r.1) => (show r.2 j < 7 by have := hro.2.1 j hj; omega)
  refine br_ofW (by decide) 0 rfl (fun G C => ?_)
  refine br_aload_n C dX4_noGym_0 rfl rfl ?_
  refine br_getR C fdX4_19 dX4_noGym_1 rfl rfl ?_
  refine br_getI C fdX4_91 dX4_noGym_4 rfl rfl (by assumption) ?_
  refine br_if_neJ C (by omega) dX4_noGym_7 (tgt := 14) (by decide) (fun c7 => ?_) (fun c7 => ?_)
  · refine br_iconstJ C dX4_noGym_14 ?_
    exact br_zret C (by decide) rfl dX4_noGym_15 ⟨by show _ = some (br_i (br_J (if g.1 = 0 then 1 else 0))); first | rw [if_pos (by omega)] | rw [if_neg (by omega)], rfl⟩
  · refine br_iconstJ C dX4_noGym_10 ?_
    refine br_goto C dX4_noGym_11 (tgt := 15) (by decide) ?_
    exact br_zret C (by decide) rfl dX4_noGym_15 ⟨by show _ = some (br_i (br_J (if g.1 = 0 then 1 else 0))); first | rw [if_pos (by omega)] | rw [if_neg (by omega)], rfl⟩

set_option maxHeartbeats 4000000 in
set_option maxRecDepth 100000 in
theorem c_X4_isScore {σ : br_Wd} (s : Int) (hbs : -2147483648 ≤ s ∧ s < 2147483648) : br_Met 0 mX4_isScore [br_i (br_J s)] σ (br_R (br_J (if -100 ≤ s ∧ s ≤ 100 then 1 else 0)) σ) := by
  refine br_ofW (by decide) 0 rfl (fun G C => ?_)
  refine br_iload_n C dX4_isScore_0 rfl rfl ?_
  refine br_bipushJ C (by decide) dX4_isScore_1 ?_
  refine br_icmp_ltJ C (by omega) (by omega) dX4_isScore_3 (tgt := 16) (by decide) (fun c3 => ?_) (fun c3 => ?_)
  · refine br_iconstJ C dX4_isScore_16 ?_
    exact br_zret C (by decide) rfl dX4_isScore_17 ⟨by first | rw [if_pos (by omega)] | rw [if_neg (by omega)], rfl⟩
  · refine br_iload_n C dX4_isScore_6 rfl rfl ?_
    refine br_bipushJ C (by decide) dX4_isScore_7 ?_
    refine br_icmp_gtJ C (by omega) (by omega) dX4_isScore_9 (tgt := 16) (by decide) (fun c9 => ?_) (fun c9 => ?_)
    · refine br_iconstJ C dX4_isScore_16 ?_
      exact br_zret C (by decide) rfl dX4_isScore_17 ⟨by first | rw [if_pos (by omega)] | rw [if_neg (by omega)], rfl⟩
    · refine br_iconstJ C dX4_isScore_12 ?_
      refine br_goto C dX4_isScore_13 (tgt := 17) (by decide) ?_
      exact br_zret C (by decide) rfl dX4_isScore_17 ⟨by first | rw [if_pos (by omega)] | rw [if_neg (by omega)], rfl⟩

set_option maxHeartbeats 4000000 in
set_option maxRecDepth 100000 in
theorem c_X4_asksAboveOrBelow {σ : br_Wd} (k : Int) (hbk : -2147483648 ≤ k ∧ k < 2147483648) : br_Met 0 mX4_asksAboveOrBelow [br_i (br_J k)] σ (br_R (br_J (if k = 0 ∨ k = 1 then 1 else 0)) σ) := by
  refine br_ofW (by decide) 0 rfl (fun G C => ?_)
  refine br_iload_n C dX4_asksAboveOrBelow_0 rfl rfl ?_
  refine br_if_eqJ C (by omega) dX4_asksAboveOrBelow_1 (tgt := 9) (by decide) (fun c1 => ?_) (fun c1 => ?_)
  · refine br_iconstJ C dX4_asksAboveOrBelow_9 ?_
    refine br_goto C dX4_asksAboveOrBelow_10 (tgt := 14) (by decide) ?_
    exact br_zret C (by decide) rfl dX4_asksAboveOrBelow_14 ⟨by first | rw [if_pos (by omega)] | rw [if_neg (by omega)], rfl⟩
  · refine br_iload_n C dX4_asksAboveOrBelow_4 rfl rfl ?_
    refine br_iconstJ C dX4_asksAboveOrBelow_5 ?_
    refine br_icmp_neJ C (by omega) (by omega) dX4_asksAboveOrBelow_6 (tgt := 13) (by decide) (fun c6 => ?_) (fun c6 => ?_)
    · refine br_iconstJ C dX4_asksAboveOrBelow_13 ?_
      exact br_zret C (by decide) rfl dX4_asksAboveOrBelow_14 ⟨by first | rw [if_pos (by omega)] | rw [if_neg (by omega)], rfl⟩
    · refine br_iconstJ C dX4_asksAboveOrBelow_9 ?_
      refine br_goto C dX4_asksAboveOrBelow_10 (tgt := 14) (by decide) ?_
      exact br_zret C (by decide) rfl dX4_asksAboveOrBelow_14 ⟨by first | rw [if_pos (by omega)] | rw [if_neg (by omega)], rfl⟩

set_option maxHeartbeats 4000000 in
set_option maxRecDepth 100000 in
theorem c_X4_commonDivisor {σ : br_Wd} (a b : Int) (ha : 0 ≤ a ∧ a < 2147483648) (hb : 0 < b ∧ b < 2147483648) : br_Met 0 mX4_commonDivisor [br_i (br_J a), br_i (br_J b)] σ (br_R (br_J (br_gcd a b)) σ) := by
  refine br_ofW (by decide) 4 rfl (fun G C => ?_)
  have loop : ∀ (m : Nat) (s : Nat) (x y : Int) (u : Option br_V), s + 2 * m ≤ 64 → 0 ≤ y → y ≤ x → x < 2147483648 → x < (2 ^ m : Nat) → br_gcd x y = br_gcd a b → G 7 [some (br_i (br_J a)), some (br_i (br_J b)), some (br_i (br_J x)), some (br_i (br_J y)), some (br_i (br_J s)), u] [] σ := by
    intro m
    induction m with
    | zero =>
      intro s x y u hs hy0 hyx hx31 hx hG
      have hx1 : x < 1 := hx
      have hxy : y = 0 := by omega
      refine br_iload C dX4_commonDivisor_7 rfl ?_
      refine br_bipushJ C (by decide) dX4_commonDivisor_9 ?_
      refine br_icmp_geJ C (by omega) (by omega) dX4_commonDivisor_11 (tgt := 34) (by decide) (fun c11 => ?_) (fun c11 => ?_)
      · refine br_iload_n C dX4_commonDivisor_34 rfl rfl ?_
        exact br_iret C rfl dX4_commonDivisor_35 ⟨by first | (exfalso; omega) | (rw [← hG, hxy, br_gcd_zero (by omega)]), rfl⟩
      · refine br_iload_n C dX4_commonDivisor_14 rfl rfl ?_
        refine br_if_eqJ C (by omega) dX4_commonDivisor_15 (tgt := 34) (by decide) (fun c15 => ?_) (fun c15 => ?_)
        · refine br_iload_n C dX4_commonDivisor_34 rfl rfl ?_
          exact br_iret C rfl dX4_commonDivisor_35 ⟨by first | (exfalso; omega) | (rw [← hG, hxy, br_gcd_zero (by omega)]), rfl⟩
        · omega
    | succ m ih =>
      intro s x y u hs hy0 hyx hx31 hx hG
      have hp : (2 ^ (m + 1) : Nat) = 2 * (2 ^ m : Nat) := by rw [Nat.pow_succ]; omega
      have hpp := Nat.pos_of_ne_zero (show (2 ^ m : Nat) ≠ 0 from by simp)
      refine br_iload C dX4_commonDivisor_7 rfl ?_
      refine br_bipushJ C (by decide) dX4_commonDivisor_9 ?_
      refine br_icmp_geJ C (by omega) (by omega) dX4_commonDivisor_11 (tgt := 34) (by decide) (fun c11 => ?_) (fun c11 => ?_)
      · refine br_iload_n C dX4_commonDivisor_34 rfl rfl ?_
        exact br_iret C rfl dX4_commonDivisor_35 ⟨by first | (exfalso; omega) | (rw [← hG, show y = 0 by omega, br_gcd_zero (by omega)]), rfl⟩
      · refine br_iload_n C dX4_commonDivisor_14 rfl rfl ?_
        refine br_if_eqJ C (by omega) dX4_commonDivisor_15 (tgt := 34) (by decide) (fun c15 => ?_) (fun c15 => ?_)
        · refine br_iload_n C dX4_commonDivisor_34 rfl rfl ?_
          exact br_iret C rfl dX4_commonDivisor_35 ⟨by first | (exfalso; omega) | (rw [← hG, show y = 0 by omega, br_gcd_zero (by omega)]), rfl⟩
        · refine br_iload_n C dX4_commonDivisor_18 rfl rfl ?_
          refine br_iload_n C dX4_commonDivisor_19 rfl rfl ?_
          have hm1 := Int.emod_nonneg x (show y ≠ 0 by omega)
          have hm2 := Int.emod_lt_of_pos x (show 0 < y by omega)
          refine br_iremJ C (by omega) (by omega) dX4_commonDivisor_20 ?_
          refine br_istore C dX4_commonDivisor_21 (by decide) rfl (L' := [_, _, _, _, _, _]) rfl ?_
          refine br_iload_n C dX4_commonDivisor_23 rfl rfl ?_
          refine br_istore_n C dX4_commonDivisor_24 rfl (by decide) rfl (L' := [_, _, _, _, _, _]) rfl ?_
          refine br_iload C dX4_commonDivisor_25 rfl ?_
          refine br_istore_n C dX4_commonDivisor_27 rfl (by decide) rfl (L' := [_, _, _, _, _, _]) rfl ?_
          refine br_iincJ C dX4_commonDivisor_28 rfl (by decide) rfl (L' := [_, _, _, _, _, _]) rfl ?_
          refine br_goto C dX4_commonDivisor_31 (tgt := 7) (by decide) ?_
          refine br_iload C dX4_commonDivisor_7 rfl ?_
          refine br_bipushJ C (by decide) dX4_commonDivisor_9 ?_
          refine br_icmp_geJ C (by omega) (by omega) dX4_commonDivisor_11 (tgt := 34) (by decide) (fun c11 => ?_) (fun c11 => ?_)
          · refine br_iload_n C dX4_commonDivisor_34 rfl rfl ?_
            exact br_iret C rfl dX4_commonDivisor_35 ⟨by first | (exfalso; omega) | (rw [← hG, ← br_gcd_step (by omega) (show 0 < y by omega), show x % y = 0 by omega, br_gcd_zero (by omega)]), rfl⟩
          · refine br_iload_n C dX4_commonDivisor_14 rfl rfl ?_
            refine br_if_eqJ C (by omega) dX4_commonDivisor_15 (tgt := 34) (by decide) (fun c15 => ?_) (fun c15 => ?_)
            · refine br_iload_n C dX4_commonDivisor_34 rfl rfl ?_
              exact br_iret C rfl dX4_commonDivisor_35 ⟨by first | (exfalso; omega) | (rw [← hG, ← br_gcd_step (by omega) (show 0 < y by omega), show x % y = 0 by omega, br_gcd_zero (by omega)]), rfl⟩
            · refine br_iload_n C dX4_commonDivisor_18 rfl rfl ?_
              refine br_iload_n C dX4_commonDivisor_19 rfl rfl ?_
              have hn1 := Int.emod_nonneg y (show x % y ≠ 0 by omega)
              have hn2 := Int.emod_lt_of_pos y (show 0 < x % y by omega)
              refine br_iremJ C (by omega) (by omega) dX4_commonDivisor_20 ?_
              refine br_istore C dX4_commonDivisor_21 (by decide) rfl (L' := [_, _, _, _, _, _]) rfl ?_
              refine br_iload_n C dX4_commonDivisor_23 rfl rfl ?_
              refine br_istore_n C dX4_commonDivisor_24 rfl (by decide) rfl (L' := [_, _, _, _, _, _]) rfl ?_
              refine br_iload C dX4_commonDivisor_25 rfl ?_
              refine br_istore_n C dX4_commonDivisor_27 rfl (by decide) rfl (L' := [_, _, _, _, _, _]) rfl ?_
              refine br_iincJ C dX4_commonDivisor_28 rfl (by decide) rfl (L' := [_, _, _, _, _, _]) rfl ?_
              refine br_goto C dX4_commonDivisor_31 (tgt := 7) (by decide) ?_
              refine ih (s + 2) (x % y) (y % (x % y)) _ (by omega) hn1 (by omega) (by omega) ?_ ?_
              · have hd := Int.mul_ediv_add_emod x y
                have hq : 1 ≤ x / y := by
                  have := Int.ediv_le_ediv (show 0 < y by omega) hyx
                  rw [Int.ediv_self (by omega)] at this
                  exact this
                have hq2 : y * 1 ≤ y * (x / y) := Int.mul_le_mul_of_nonneg_left hq (by omega)
                omega
              · rw [br_gcd_step (show 0 ≤ y by omega) (show 0 < x % y by omega), br_gcd_step (by omega) (show 0 < y by omega)]
                exact hG
  refine br_iload_n C dX4_commonDivisor_0 rfl rfl ?_
  refine br_istore_n C dX4_commonDivisor_1 rfl (by decide) rfl (L' := [_, _, _, _, _, _]) rfl ?_
  refine br_iload_n C dX4_commonDivisor_2 rfl rfl ?_
  refine br_istore_n C dX4_commonDivisor_3 rfl (by decide) rfl (L' := [_, _, _, _, _, _]) rfl ?_
  refine br_iconstJ C dX4_commonDivisor_4 ?_
  refine br_istore C dX4_commonDivisor_5 (by decide) rfl (L' := [_, _, _, _, _, _]) rfl ?_
  by_cases hab : b ≤ a
  · exact loop 31 0 a b none (by omega) (by omega) hab (by omega) (by omega) rfl
  · have hba : a % b = a := Int.emod_eq_of_lt (by omega) (by omega)
    refine br_iload C dX4_commonDivisor_7 rfl ?_
    refine br_bipushJ C (by decide) dX4_commonDivisor_9 ?_
    refine br_icmp_geJ C (by omega) (by omega) dX4_commonDivisor_11 (tgt := 34) (by decide) (fun c => absurd c (by decide)) (fun _ => ?_)
    refine br_iload_n C dX4_commonDivisor_14 rfl rfl ?_
    refine br_if_eqJ C (by omega) dX4_commonDivisor_15 (tgt := 34) (by decide) (fun c15 => ?_) (fun c15 => ?_)
    · omega
    · refine br_iload_n C dX4_commonDivisor_18 rfl rfl ?_
      refine br_iload_n C dX4_commonDivisor_19 rfl rfl ?_
      refine br_iremJ C (by omega) (by omega) dX4_commonDivisor_20 ?_
      refine br_istore C dX4_commonDivisor_21 (by decide) rfl (L' := [_, _, _, _, _, _]) rfl ?_
      refine br_iload_n C dX4_commonDivisor_23 rfl rfl ?_
      refine br_istore_n C dX4_commonDivisor_24 rfl (by decide) rfl (L' := [_, _, _, _, _, _]) rfl ?_
      refine br_iload C dX4_commonDivisor_25 rfl ?_
      refine br_istore_n C dX4_commonDivisor_27 rfl (by decide) rfl (L' := [_, _, _, _, _, _]) rfl ?_
      refine br_iincJ C dX4_commonDivisor_28 rfl (by decide) rfl (L' := [_, _, _, _, _, _]) rfl ?_
      refine br_goto C dX4_commonDivisor_31 (tgt := 7) (by decide) ?_
      rw [hba]
      exact loop 31 1 b a _ (by omega) (by omega) (by omega) (by omega) (by omega) (by unfold br_gcd; rw [Nat.gcd_comm])

set_option maxHeartbeats 4000000 in
set_option maxRecDepth 100000 in
theorem c_X4_inLowestTerms {σ : br_Wd} (a b k : Int) (ha : 0 ≤ a ∧ a < 2147483648) (hb : 0 < b ∧ b < 2147483648) (hk : -2147483648 ≤ k ∧ k < 2147483648) : br_Met 1 mX4_inLowestTerms [br_i (br_J a), br_i (br_J b), br_i (br_J k)] σ (br_R (br_J (br_lo a b k)) σ) := by
  refine br_ofW (by decide) 1 rfl (fun G C => ?_)
  have hgp := br_gcd_pos (a := a) hb.1
  refine br_iload_n C dX4_inLowestTerms_0 rfl rfl ?_
  refine br_iload_n C dX4_inLowestTerms_1 rfl rfl ?_
  refine br_cs2R C scX4_225 (c_X4_commonDivisor a b ha hb) (by decide) (fun _ => Nat.le_of_ble_eq_true rfl) dX4_inLowestTerms_2 ?_
  refine br_istore_n C dX4_inLowestTerms_5 rfl (by decide) rfl (L' := [_, _, _, _]) rfl ?_
  refine br_iload_n C dX4_inLowestTerms_6 rfl rfl ?_
  refine br_if_neJ C (by omega) dX4_inLowestTerms_7 (tgt := 20) (by decide) (fun c7 => ?_) (fun c7 => ?_)
  · refine br_iload_n C dX4_inLowestTerms_20 rfl rfl ?_
    refine br_if_neJ C (by omega) dX4_inLowestTerms_21 (tgt := 28) (by decide) (fun c21 => ?_) (fun c21 => ?_)
    · refine br_iload_n C dX4_inLowestTerms_28 rfl rfl ?_
      refine br_iload_n C dX4_inLowestTerms_29 rfl rfl ?_
      refine br_idivJ C (by omega) (by omega) dX4_inLowestTerms_30 ?_
      exact br_iret C rfl dX4_inLowestTerms_31 ⟨by first | (exfalso; omega) | (unfold br_lo; rw [if_pos (by omega)]) | (unfold br_lo; rw [if_neg (by omega)]), rfl⟩
    · refine br_iload_n C dX4_inLowestTerms_24 rfl rfl ?_
      refine br_goto C dX4_inLowestTerms_25 (tgt := 29) (by decide) ?_
      refine br_iload_n C dX4_inLowestTerms_29 rfl rfl ?_
      refine br_idivJ C (by omega) (by omega) dX4_inLowestTerms_30 ?_
      exact br_iret C rfl dX4_inLowestTerms_31 ⟨by first | (exfalso; omega) | (unfold br_lo; rw [if_pos (by omega)]) | (unfold br_lo; rw [if_neg (by omega)]), rfl⟩
  · refine br_iload_n C dX4_inLowestTerms_10 rfl rfl ?_
    refine br_if_neJ C (by omega) dX4_inLowestTerms_11 (tgt := 18) (by decide) (fun c11 => ?_) (fun c11 => ?_)
    · refine br_iload_n C dX4_inLowestTerms_18 rfl rfl ?_
      exact br_iret C rfl dX4_inLowestTerms_19 ⟨by first | (exfalso; omega) | (unfold br_lo; rw [if_pos (by omega)]) | (unfold br_lo; rw [if_neg (by omega)]), rfl⟩
    · refine br_iload_n C dX4_inLowestTerms_14 rfl rfl ?_
      refine br_goto C dX4_inLowestTerms_15 (tgt := 19) (by decide) ?_
      exact br_iret C rfl dX4_inLowestTerms_19 ⟨by first | (exfalso; omega) | (unfold br_lo; rw [if_pos (by omega)]) | (unfold br_lo; rw [if_neg (by omega)]), rfl⟩

set_option maxHeartbeats 4000000 in
set_option maxRecDepth 100000 in
theorem c_X4_letter {σ : br_Wd} {A : br_A} (hc : br_CR σ A) (hA : br_Aok A) (z : Int) (hbz : -2147483648 ≤ z ∧ z < 2147483648) : br_Met 1 mX4_letter [br_r 0, br_i (br_J z)] σ (br_QC (br_J (br_sLetter A z).1) (br_sLetter A z).2 σ) := by
  obtain ⟨w, g, r, c, t, n, b, kp, ri, ci, ti⟩ := A
  have hc0 := hc
  obtain ⟨⟨hw, hg, hr, ht⟩, ⟨hcc, hnn, hbb, hkp⟩, him⟩ := hc
  obtain ⟨⟨hwo, hgo, hro, hto⟩, ⟨hb30, hn512⟩, hio⟩ := hA
  have hw1 := hw.1
  have hg1 := hg.1
  have hr1 := hr.1
  have ht1 := ht.1
  have hw30 := hwo.1
  have hg7 := hgo.1
  have h5r := hro.1
  have h8t := hto.1
  have hk4 := fun (j : Nat) (hj : j < g.1) => (hgo.2 j hj).1
  have hrb := fun (j : Nat) (hj : j < r.1) => (show r.2 j < 7 by have := hro.2.1 j hj; omega)
  refine br_ofW (by decide) 0 rfl (fun G C => ?_)
  refine br_iload_n C dX4_letter_0 rfl rfl ?_
  refine br_iconstJ C dX4_letter_1 ?_
  refine br_icmp_ltJ C (by omega) (by omega) dX4_letter_2 (tgt := 11) (by decide) (fun c2 => ?_) (fun c2 => ?_)
  · refine br_bipushJ C (by decide) dX4_letter_11 ?_
    exact br_iret C rfl dX4_letter_13 (by
        rw [show br_sLetter (w, g, r, c, t, n, b, kp, ri, ci, ti) z = (-102, (w, g, r, c, t, n, b, kp, ri, ci, ti)) from if_pos (by omega)]
        exact ⟨rfl, hc0, br_fc.rfl⟩)
  · refine br_iload_n C dX4_letter_5 rfl rfl ?_
    refine br_bipushJ C (by decide) dX4_letter_6 ?_
    refine br_icmp_leJ C (by omega) (by omega) dX4_letter_8 (tgt := 14) (by decide) (fun c8 => ?_) (fun c8 => ?_)
    · refine br_aload_n C dX4_letter_14 rfl rfl ?_
      refine br_getR C fdX4_12 dX4_letter_15 rfl rfl ?_
      refine br_getI C fdX4_68 dX4_letter_18 rfl rfl (by assumption) ?_
      refine br_bipushJ C (by decide) dX4_letter_21 ?_
      refine br_icmp_ltJ C (by omega) (by omega) dX4_letter_23 (tgt := 29) (by decide) (fun c23 => ?_) (fun c23 => ?_)
      · refine br_aload_n C dX4_letter_29 rfl rfl ?_
        refine br_getR C fdX4_12 dX4_letter_30 rfl rfl ?_
        refine br_iload_n C dX4_letter_33 rfl rfl ?_
        have hlt : w.1 < 30 := by omega
        refine br_cv1V C vcX4_71 (c_X1_add hw (by omega) z (by omega) (by omega)) (by decide) rfl rfl (fun _ => Nat.le_of_ble_eq_true rfl) dX4_letter_34 ?_
        refine br_aload_n C dX4_letter_37 rfl rfl ?_
        refine br_getR C fdX4_12 dX4_letter_38 rfl rfl ?_
        refine br_getI C fdX4_68 dX4_letter_41 rfl rfl (x := br_J (w.1 + 1)) rfl ?_
        exact br_iret C rfl dX4_letter_44 (by
            rw [show br_sLetter (w, g, r, c, t, n, b, kp, ri, ci, ti) z = ((w.1 : Int) + 1, ((w.1 + 1, fun j => if j = w.1 then z else w.2 j), g, r, c, t, n, b, kp, ri, ci, ti)) from (if_neg (by omega)).trans (if_neg (by omega))]
            exact ⟨rfl, ⟨⟨⟨rfl, fun j hj => by
              have hj2 : j < w.1 + 1 := hj
              show (if j = w.1 then br_J z else σ.1 2 j) = br_J (if j = w.1 then z else w.2 j)
              by_cases e : j = w.1
              · rw [if_pos e, if_pos e]
              · rw [if_neg e, if_neg e]; exact hw.2 j (by omega)⟩, hg.keep rfl rfl rfl rfl, hr.keep rfl rfl, ht.keep rfl rfl rfl rfl⟩, ⟨hcc, hnn, hbb, hkp⟩, fun h => ⟨(him h).1.keep rfl rfl, (him h).2.1.keep rfl rfl rfl rfl, (him h).2.2⟩⟩, ((br_sm.rfl (qs := [1, 2])).up (by simp)).up (by simp) |>.fc (by decide)⟩)
      · refine br_bipushJ C (by decide) dX4_letter_26 ?_
        exact br_iret C rfl dX4_letter_28 (by
            rw [show br_sLetter (w, g, r, c, t, n, b, kp, ri, ci, ti) z = (-104, (w, g, r, c, t, n, b, kp, ri, ci, ti)) from (if_neg (by omega)).trans (if_pos (by omega))]
            exact ⟨rfl, hc0, br_fc.rfl⟩)
    · refine br_bipushJ C (by decide) dX4_letter_11 ?_
      exact br_iret C rfl dX4_letter_13 (by
          rw [show br_sLetter (w, g, r, c, t, n, b, kp, ri, ci, ti) z = (-102, (w, g, r, c, t, n, b, kp, ri, ci, ti)) from if_pos (by omega)]
          exact ⟨rfl, hc0, br_fc.rfl⟩)

set_option maxHeartbeats 4000000 in
set_option maxRecDepth 100000 in
theorem c_X4_blank {σ : br_Wd} {A : br_A} (hc : br_CR σ A) (hA : br_Aok A) : br_Met 0 mX4_blank [br_r 0] σ (br_QC (br_J (br_sBlank A).1) (br_sBlank A).2 σ) := by
  obtain ⟨w, g, r, c, t, n, b, kp, ri, ci, ti⟩ := A
  have hc0 := hc
  obtain ⟨⟨hw, hg, hr, ht⟩, ⟨hcc, hnn, hbb, hkp⟩, him⟩ := hc
  obtain ⟨⟨hwo, hgo, hro, hto⟩, ⟨hb30, hn512⟩, hio⟩ := hA
  have hw1 := hw.1
  have hg1 := hg.1
  have hr1 := hr.1
  have ht1 := ht.1
  have hw30 := hwo.1
  have hg7 := hgo.1
  have h5r := hro.1
  have h8t := hto.1
  have hk4 := fun (j : Nat) (hj : j < g.1) => (hgo.2 j hj).1
  have hrb := fun (j : Nat) (hj : j < r.1) => (show r.2 j < 7 by have := hro.2.1 j hj; omega)
  refine br_ofW (by decide) 1 rfl (fun G C => ?_)
  refine br_aload_n C dX4_blank_0 rfl rfl ?_
  refine br_getR C fdX4_12 dX4_blank_1 rfl rfl ?_
  refine br_getI C fdX4_68 dX4_blank_4 rfl rfl (by assumption) ?_
  refine br_istore_n C dX4_blank_7 rfl (by decide) rfl (L' := [_, _]) rfl ?_
  refine br_aload_n C dX4_blank_8 rfl rfl ?_
  refine br_getR C fdX4_12 dX4_blank_9 rfl rfl ?_
  refine br_iconstJ C dX4_blank_12 ?_
  refine br_putI C fdX4_68 dX4_blank_13 rfl rfl rfl ?_
  refine br_iload_n C dX4_blank_16 rfl rfl ?_
  exact br_iret C rfl dX4_blank_17 ⟨rfl, ⟨⟨⟨rfl, fun j hj => absurd hj (Nat.not_lt_zero j)⟩, hg.keep rfl rfl rfl rfl, hr.keep rfl rfl, ht.keep rfl rfl rfl rfl⟩, ⟨hcc, hnn, hbb, hkp⟩, fun h => ⟨(him h).1.keep rfl rfl, (him h).2.1.keep rfl rfl rfl rfl, (him h).2.2⟩⟩, (br_sm.rfl (qs := [1])).up (by simp) |>.fc (by decide)⟩

set_option maxHeartbeats 4000000 in
set_option maxRecDepth 100000 in
theorem c_X4_fault {σ : br_Wd} {A : br_A} (hc : br_CR σ A) (hA : br_Aok A) : br_Met 3 mX4_fault [br_r 0] σ (br_R (br_J (br_vFault A)) σ) := by
  obtain ⟨w, g, r, c, t, n, b, kp, ri, ci, ti⟩ := A
  have hc0 := hc
  obtain ⟨⟨hw, hg, hr, ht⟩, ⟨hcc, hnn, hbb, hkp⟩, him⟩ := hc
  obtain ⟨⟨hwo, hgo, hro, hto⟩, ⟨hb30, hn512⟩, hio⟩ := hA
  have hw1 := hw.1
  have hg1 := hg.1
  have hr1 := hr.1
  have ht1 := ht.1
  have hw30 := hwo.1
  have hg7 := hgo.1
  have h5r := hro.1
  have h8t := hto.1
  have hk4 := fun (j : Nat) (hj : j < g.1) => (hgo.2 j hj).1
  have hrb := fun (j : Nat) (hj : j < r.1) => (show r.2 j < 7 by have := hro.2.1 j hj; omega)
  have hcb := fun (j : Nat) (hj : j < w.1) => (show -2147483648 ≤ w.2 j ∧ w.2 j < 2147483648 by have := hwo.2 j hj; omega)
  refine br_ofW (by decide) 0 rfl (fun G C => ?_)
  refine br_aload_n C dX4_fault_0 rfl rfl ?_
  refine br_getR C fdX4_12 dX4_fault_1 rfl rfl ?_
  refine br_cv0R C vcX4_75 (c_X1_firstFault hw (by omega) hcb) (by decide) rfl rfl (fun _ => Nat.le_of_ble_eq_true rfl) dX4_fault_4 ?_
  exact br_iret C rfl dX4_fault_7 ⟨rfl, rfl⟩

set_option maxHeartbeats 4000000 in
set_option maxRecDepth 100000 in
theorem c_X4_piece {σ : br_Wd} {A : br_A} (hc : br_CR σ A) (hA : br_Aok A) (z : Int) (hbz : -2147483648 ≤ z ∧ z < 2147483648) (k : Int) (hbk : -2147483648 ≤ k ∧ k < 2147483648) : br_Met 4 mX4_piece [br_r 0, br_i (br_J z), br_i (br_J k)] σ (br_R (br_vPiece A z k) σ) := by
  obtain ⟨w, g, r, c, t, n, b, kp, ri, ci, ti⟩ := A
  have hc0 := hc
  obtain ⟨⟨hw, hg, hr, ht⟩, ⟨hcc, hnn, hbb, hkp⟩, him⟩ := hc
  obtain ⟨⟨hwo, hgo, hro, hto⟩, ⟨hb30, hn512⟩, hio⟩ := hA
  have hw1 := hw.1
  have hg1 := hg.1
  have hr1 := hr.1
  have ht1 := ht.1
  have hw30 := hwo.1
  have hg7 := hgo.1
  have h5r := hro.1
  have h8t := hto.1
  have hk4 := fun (j : Nat) (hj : j < g.1) => (hgo.2 j hj).1
  have hrb := fun (j : Nat) (hj : j < r.1) => (show r.2 j < 7 by have := hro.2.1 j hj; omega)
  have hpo : -1 ≤ br_po r z ∧ br_po r z < r.1 := br_lst_bnd _ _
  refine br_ofW (by decide) 0 rfl (fun G C => ?_)
  refine br_aload_n C dX4_piece_0 rfl rfl ?_
  refine br_getR C fdX4_19 dX4_piece_1 rfl rfl ?_
  refine br_iload_n C dX4_piece_4 rfl rfl ?_
  refine br_cv1B C vcX4_92 (c_X0_has hg (by omega) z hbz) (by decide) rfl rfl (fun _ => Nat.le_of_ble_eq_true rfl) dX4_piece_5 (fun h5_ => ?_) (fun h5_ => ?_)
  · refine br_if_ne1 C dX4_piece_8 (tgt := 14) (by decide) ?_
    refine br_iload_n C dX4_piece_14 rfl rfl ?_
    rcases (show (k < 0 ∨ 6 < k) ∨ k = 0 ∨ k = 1 ∨ k = 2 ∨ k = 3 ∨ k = 4 ∨ k = 5 ∨ k = 6 by omega) with c15 | rfl | rfl | rfl | rfl | rfl | rfl | rfl
    · refine br_tableOutJ C c15 (by omega) dX4_piece_15 (tgt := 141) (by decide) ?_
      refine br_bipushJ C (by decide) dX4_piece_141 ?_
      exact br_iret C rfl dX4_piece_143 ⟨congrArg (fun x => some (br_i x)) (show _ = br_vPiece (w, g, r, c, t, n, b, kp, ri, ci, ti) z k from ((if_neg (by omega)).trans ((if_neg (by omega)).trans ((if_neg (by omega)).trans ((if_neg (by omega)).trans ((if_neg (by omega)).trans ((if_neg (by omega)).trans ((if_neg (by omega)).trans (if_neg (by omega))))))))).symm), rfl⟩
    · refine br_tableInJ C (by decide) (by decide) (by decide) dX4_piece_15 (off := 41) rfl (tgt := 56) (by decide) ?_
      refine br_aload_n C dX4_piece_56 rfl rfl ?_
      refine br_getR C fdX4_19 dX4_piece_57 rfl rfl ?_
      refine br_iload_n C dX4_piece_60 rfl rfl ?_
      refine br_cv1R C vcX4_96 (c_X0_kindOf hg (by omega) z hbz) (by decide) rfl rfl (fun _ => Nat.le_of_ble_eq_true rfl) dX4_piece_61 ?_
      exact br_iret C rfl dX4_piece_64 ⟨by unfold br_kO; rw [if_pos h5_]; exact congrArg (fun x => some (br_i x)) (show _ = br_vPiece (w, g, r, c, t, n, b, kp, ri, ci, ti) z 0 from ((if_neg (by omega)).trans (if_pos rfl)).symm), rfl⟩
    · refine br_tableInJ C (by decide) (by decide) (by decide) dX4_piece_15 (off := 50) rfl (tgt := 65) (by decide) ?_
      refine br_aload_n C dX4_piece_65 rfl rfl ?_
      refine br_getR C fdX4_19 dX4_piece_66 rfl rfl ?_
      refine br_iload_n C dX4_piece_69 rfl rfl ?_
      refine br_cv1R C vcX4_100 (c_X0_worthOf hg (by omega) z hbz) (by decide) rfl rfl (fun _ => Nat.le_of_ble_eq_true rfl) dX4_piece_70 ?_
      exact br_iret C rfl dX4_piece_73 ⟨by unfold br_wO; rw [if_pos h5_]; exact congrArg (fun x => some (br_i x)) (show _ = br_vPiece (w, g, r, c, t, n, b, kp, ri, ci, ti) z 1 from ((if_neg (by omega)).trans ((if_neg (by decide)).trans (if_pos rfl))).symm), rfl⟩
    · refine br_tableInJ C (by decide) (by decide) (by decide) dX4_piece_15 (off := 59) rfl (tgt := 74) (by decide) ?_
      refine br_aload_n C dX4_piece_74 rfl rfl ?_
      refine br_getR C fdX4_19 dX4_piece_75 rfl rfl ?_
      refine br_iload_n C dX4_piece_78 rfl rfl ?_
      refine br_cv1R C vcX4_103 (c_X0_sureOf hg (by omega) z hbz) (by decide) rfl rfl (fun _ => Nat.le_of_ble_eq_true rfl) dX4_piece_79 ?_
      exact br_iret C rfl dX4_piece_82 ⟨by unfold br_sO; rw [if_pos h5_]; exact congrArg (fun x => some (br_i x)) (show _ = br_vPiece (w, g, r, c, t, n, b, kp, ri, ci, ti) z 2 from ((if_neg (by omega)).trans ((if_neg (by decide)).trans ((if_neg (by decide)).trans (if_pos rfl)))).symm), rfl⟩
    · refine br_tableInJ C (by decide) (by decide) (by decide) dX4_piece_15 (off := 68) rfl (tgt := 83) (by decide) ?_
      refine br_aload_n C dX4_piece_83 rfl rfl ?_
      refine br_getR C fdX4_28 dX4_piece_84 rfl rfl ?_
      refine br_iload_n C dX4_piece_87 rfl rfl ?_
      refine br_cv1R C vcX4_106 (c_X2_placeOf (q := 7) rfl rfl hr h5r hro.2.2 hrb z hbz) (by decide) rfl rfl (fun _ => Nat.le_of_ble_eq_true rfl) dX4_piece_88 ?_
      exact br_iret C rfl dX4_piece_91 ⟨congrArg (fun x => some (br_i x)) (show _ = br_vPiece (w, g, r, c, t, n, b, kp, ri, ci, ti) z 3 from ((if_neg (by omega)).trans ((if_neg (by decide)).trans ((if_neg (by decide)).trans ((if_neg (by decide)).trans (if_pos rfl))))).symm), rfl⟩
    · refine br_tableInJ C (by decide) (by decide) (by decide) dX4_piece_15 (off := 77) rfl (tgt := 92) (by decide) ?_
      refine br_aload_n C dX4_piece_92 rfl rfl ?_
      refine br_getR C fdX4_28 dX4_piece_93 rfl rfl ?_
      refine br_iload_n C dX4_piece_96 rfl rfl ?_
      refine br_cv1B C vcX4_109 (c_X2_holds (q := 7) rfl rfl hr h5r hro.2.2 hrb z hbz) (by decide) rfl rfl (fun _ => Nat.le_of_ble_eq_true rfl) dX4_piece_97 (fun h97 => ?_) (fun h97 => ?_)
      · refine br_if_eq1 C dX4_piece_100 (tgt := 121) (by decide) ?_
        refine br_aload_n C dX4_piece_103 rfl rfl ?_
        refine br_getR C fdX4_28 dX4_piece_104 rfl rfl ?_
        refine br_aload_n C dX4_piece_107 rfl rfl ?_
        refine br_getR C fdX4_28 dX4_piece_108 rfl rfl ?_
        refine br_iload_n C dX4_piece_111 rfl rfl ?_
        refine br_cv1R C vcX4_106 (c_X2_placeOf (q := 7) rfl rfl hr h5r hro.2.2 hrb z hbz) (by decide) rfl rfl (fun _ => Nat.le_of_ble_eq_true rfl) dX4_piece_112 ?_
        have epo : (((br_po r z).toNat : Nat) : Int) = br_po r z := by omega
        have hch := c_X2_chanceAt (q := 7) rfl rfl hg hgo hr hro (br_po r z).toNat (by omega)
        rw [epo] at hch
        refine br_cv1R C vcX4_112 (hch) (by decide) rfl rfl (fun _ => Nat.le_of_ble_eq_true rfl) dX4_piece_115 ?_
        refine br_goto C dX4_piece_118 (tgt := 122) (by decide) ?_
        exact br_iret C rfl dX4_piece_122 ⟨congrArg (fun x => some (br_i x)) (show _ = br_vPiece (w, g, r, c, t, n, b, kp, ri, ci, ti) z 4 from ((if_neg (by omega)).trans ((if_neg (by decide)).trans ((if_neg (by decide)).trans ((if_neg (by decide)).trans ((if_neg (by decide)).trans ((if_pos rfl).trans (by first | rw [if_neg h97] | rw [if_pos (Decidable.not_not.mp h97)]))))))).symm), rfl⟩
      · refine br_if_eq0 C dX4_piece_100 (tgt := 121) (by decide) ?_
        refine br_iconstJ C dX4_piece_121 ?_
        exact br_iret C rfl dX4_piece_122 ⟨congrArg (fun x => some (br_i x)) (show _ = br_vPiece (w, g, r, c, t, n, b, kp, ri, ci, ti) z 4 from ((if_neg (by omega)).trans ((if_neg (by decide)).trans ((if_neg (by decide)).trans ((if_neg (by decide)).trans ((if_neg (by decide)).trans ((if_pos rfl).trans (by first | rw [if_neg h97] | rw [if_pos (Decidable.not_not.mp h97)]))))))).symm), rfl⟩
    · refine br_tableInJ C (by decide) (by decide) (by decide) dX4_piece_15 (off := 108) rfl (tgt := 123) (by decide) ?_
      refine br_aload_n C dX4_piece_123 rfl rfl ?_
      refine br_getR C fdX4_35 dX4_piece_124 rfl rfl ?_
      refine br_iload_n C dX4_piece_127 rfl rfl ?_
      have ez : ((z.toNat : Nat) : Int) = z := by omega
      have hps := c_X3_possibleSures (q := 15) rfl rfl rfl rfl hg hgo ht hto z.toNat (by omega)
      rw [ez] at hps
      refine br_cv1R C vcX4_115 (hps) (by decide) rfl rfl (fun _ => Nat.le_of_ble_eq_true rfl) dX4_piece_128 ?_
      exact br_iret C rfl dX4_piece_131 ⟨congrArg (fun x => some (br_i x)) (show _ = br_vPiece (w, g, r, c, t, n, b, kp, ri, ci, ti) z 5 from ((if_neg (by omega)).trans ((if_neg (by decide)).trans ((if_neg (by decide)).trans ((if_neg (by decide)).trans ((if_neg (by decide)).trans ((if_neg (by decide)).trans (if_pos rfl))))))).symm), rfl⟩
    · refine br_tableInJ C (by decide) (by decide) (by decide) dX4_piece_15 (off := 117) rfl (tgt := 132) (by decide) ?_
      refine br_aload_n C dX4_piece_132 rfl rfl ?_
      refine br_getR C fdX4_35 dX4_piece_133 rfl rfl ?_
      refine br_iload_n C dX4_piece_136 rfl rfl ?_
      have ez : ((z.toNat : Nat) : Int) = z := by omega
      have hls := c_X3_likeliestSure (q := 15) rfl rfl rfl rfl hg hgo ht hto z.toNat (by omega)
      rw [ez] at hls
      refine br_cv1R C vcX4_118 (hls) (by decide) rfl rfl (fun _ => Nat.le_of_ble_eq_true rfl) dX4_piece_137 ?_
      exact br_iret C rfl dX4_piece_140 ⟨congrArg (fun x => some (br_i x)) (show _ = br_vPiece (w, g, r, c, t, n, b, kp, ri, ci, ti) z 6 from ((if_neg (by omega)).trans ((if_neg (by decide)).trans ((if_neg (by decide)).trans ((if_neg (by decide)).trans ((if_neg (by decide)).trans ((if_neg (by decide)).trans ((if_neg (by decide)).trans (if_pos rfl)))))))).symm), rfl⟩
  · refine br_if_ne0 C dX4_piece_8 (tgt := 14) (by decide) ?_
    refine br_bipushJ C (by decide) dX4_piece_11 ?_
    exact br_iret C rfl dX4_piece_13 ⟨congrArg (fun x => some (br_i x)) (show br_J (-101) = br_vPiece (w, g, r, c, t, n, b, kp, ri, ci, ti) z k from (if_pos h5_).symm), rfl⟩

set_option maxHeartbeats 4000000 in
set_option maxRecDepth 100000 in
theorem c_X4_as {σ : br_Wd} {A : br_A} (hc : br_CR σ A) (hA : br_Aok A) (z : Int) (hbz : -2147483648 ≤ z ∧ z < 2147483648) (kd : Int) (hbkd : -2147483648 ≤ kd ∧ kd < 2147483648) : br_Met 2 mX4_as [br_r 0, br_i (br_J z), br_i (br_J kd)] σ (br_R (br_J (br_vAs A z kd)) σ) := by
  obtain ⟨w, g, r, c, t, n, b, kp, ri, ci, ti⟩ := A
  have hc0 := hc
  obtain ⟨⟨hw, hg, hr, ht⟩, ⟨hcc, hnn, hbb, hkp⟩, him⟩ := hc
  obtain ⟨⟨hwo, hgo, hro, hto⟩, ⟨hb30, hn512⟩, hio⟩ := hA
  have hw1 := hw.1
  have hg1 := hg.1
  have hr1 := hr.1
  have ht1 := ht.1
  have hw30 := hwo.1
  have hg7 := hgo.1
  have h5r := hro.1
  have h8t := hto.1
  have hk4 := fun (j : Nat) (hj : j < g.1) => (hgo.2 j hj).1
  have hrb := fun (j : Nat) (hj : j < r.1) => (show r.2 j < 7 by have := hro.2.1 j hj; omega)
  refine br_ofW (by decide) 0 rfl (fun G C => ?_)
  refine br_aload_n C dX4_as_0 rfl rfl ?_
  refine br_getR C fdX4_19 dX4_as_1 rfl rfl ?_
  refine br_iload_n C dX4_as_4 rfl rfl ?_
  refine br_cv1B C vcX4_92 (c_X0_has hg (by omega) z hbz) (by decide) rfl rfl (fun _ => Nat.le_of_ble_eq_true rfl) dX4_as_5 (fun h5_ => ?_) (fun h5_ => ?_)
  · refine br_if_ne1 C dX4_as_8 (tgt := 14) (by decide) ?_
    refine br_iload_n C dX4_as_14 rfl rfl ?_
    refine br_if_ltJ C (by omega) dX4_as_15 (tgt := 23) (by decide) (fun c15 => ?_) (fun c15 => ?_)
    · refine br_bipushJ C (by decide) dX4_as_23 ?_
      exact br_iret C rfl dX4_as_25 ⟨congrArg (fun x => some (br_i (br_J x))) (show _ = br_vAs (w, g, r, c, t, n, b, kp, ri, ci, ti) z kd from ((if_neg (by omega)).trans (if_pos (by omega))).symm), rfl⟩
    · refine br_iload_n C dX4_as_18 rfl rfl ?_
      refine br_iconstJ C dX4_as_19 ?_
      refine br_icmp_leJ C (by omega) (by omega) dX4_as_20 (tgt := 26) (by decide) (fun c20 => ?_) (fun c20 => ?_)
      · refine br_aload_n C dX4_as_26 rfl rfl ?_
        refine br_getR C fdX4_19 dX4_as_27 rfl rfl ?_
        refine br_iload_n C dX4_as_30 rfl rfl ?_
        refine br_iload_n C dX4_as_31 rfl rfl ?_
        refine br_cv2B C vcX4_121 (c_X0_isA hg (by omega) hk4 z kd hbz hbkd) (by decide) rfl rfl (fun _ => Nat.le_of_ble_eq_true rfl) dX4_as_32 (fun h32 => ?_) (fun h32 => ?_)
        · refine br_if_eq1 C dX4_as_35 (tgt := 42) (by decide) ?_
          refine br_iload_n C dX4_as_38 rfl rfl ?_
          refine br_goto C dX4_as_39 (tgt := 43) (by decide) ?_
          exact br_iret C rfl dX4_as_43 ⟨congrArg (fun x => some (br_i (br_J x))) (show _ = br_vAs (w, g, r, c, t, n, b, kp, ri, ci, ti) z kd from ((if_neg (by omega)).trans ((if_neg (by omega)).trans (by first | rw [if_pos h32] | rw [if_neg h32]))).symm), rfl⟩
        · refine br_if_eq0 C dX4_as_35 (tgt := 42) (by decide) ?_
          refine br_iconstJ C dX4_as_42 ?_
          exact br_iret C rfl dX4_as_43 ⟨congrArg (fun x => some (br_i (br_J x))) (show _ = br_vAs (w, g, r, c, t, n, b, kp, ri, ci, ti) z kd from ((if_neg (by omega)).trans ((if_neg (by omega)).trans (by first | rw [if_pos h32] | rw [if_neg h32]))).symm), rfl⟩
      · refine br_bipushJ C (by decide) dX4_as_23 ?_
        exact br_iret C rfl dX4_as_25 ⟨congrArg (fun x => some (br_i (br_J x))) (show _ = br_vAs (w, g, r, c, t, n, b, kp, ri, ci, ti) z kd from ((if_neg (by omega)).trans (if_pos (by omega))).symm), rfl⟩
  · refine br_if_ne0 C dX4_as_8 (tgt := 14) (by decide) ?_
    refine br_bipushJ C (by decide) dX4_as_11 ?_
    exact br_iret C rfl dX4_as_13 ⟨congrArg (fun x => some (br_i (br_J x))) (show _ = br_vAs (w, g, r, c, t, n, b, kp, ri, ci, ti) z kd from (if_pos (by omega)).symm), rfl⟩

set_option maxHeartbeats 4000000 in
set_option maxRecDepth 100000 in
theorem c_X4_put {σ : br_Wd} {A : br_A} (hc : br_CR σ A) (hA : br_Aok A) (z : Int) (hbz : -2147483648 ≤ z ∧ z < 2147483648) : br_Met 2 mX4_put [br_r 0, br_i (br_J z)] σ (br_QC (br_J (br_sPut A z).1) (br_sPut A z).2 σ) := by
  obtain ⟨w, g, r, c, t, n, b, kp, ri, ci, ti⟩ := A
  have hc0 := hc
  obtain ⟨⟨hw, hg, hr, ht⟩, ⟨hcc, hnn, hbb, hkp⟩, him⟩ := hc
  obtain ⟨⟨hwo, hgo, hro, hto⟩, ⟨hb30, hn512⟩, hio⟩ := hA
  have hw1 := hw.1
  have hg1 := hg.1
  have hr1 := hr.1
  have ht1 := ht.1
  have hw30 := hwo.1
  have hg7 := hgo.1
  have h5r := hro.1
  have h8t := hto.1
  have hk4 := fun (j : Nat) (hj : j < g.1) => (hgo.2 j hj).1
  have hrb := fun (j : Nat) (hj : j < r.1) => (show r.2 j < 7 by have := hro.2.1 j hj; omega)
  have hpo : -1 ≤ br_po r z ∧ br_po r z < r.1 := br_lst_bnd _ _
  refine br_ofW (by decide) 0 rfl (fun G C => ?_)
  refine br_aload_n C dX4_put_0 rfl rfl ?_
  refine br_getR C fdX4_19 dX4_put_1 rfl rfl ?_
  refine br_iload_n C dX4_put_4 rfl rfl ?_
  refine br_cv1B C vcX4_92 (c_X0_has hg (by omega) z hbz) (by decide) rfl rfl (fun _ => Nat.le_of_ble_eq_true rfl) dX4_put_5 (fun h5_ => ?_) (fun h5_ => ?_)
  · refine br_if_ne1 C dX4_put_8 (tgt := 14) (by decide) ?_
    refine br_aload_n C dX4_put_14 rfl rfl ?_
    refine br_getR C fdX4_28 dX4_put_15 rfl rfl ?_
    refine br_iload_n C dX4_put_18 rfl rfl ?_
    refine br_cv1B C vcX4_109 (c_X2_holds (q := 7) rfl rfl hr h5r hro.2.2 hrb z hbz) (by decide) rfl rfl (fun _ => Nat.le_of_ble_eq_true rfl) dX4_put_19 (fun h19 => ?_) (fun h19 => ?_)
    · refine br_if_eq1 C dX4_put_22 (tgt := 28) (by decide) ?_
      refine br_bipushJ C (by decide) dX4_put_25 ?_
      exact br_iret C rfl dX4_put_27 (by
          rw [show br_sPut (w, g, r, c, t, n, b, kp, ri, ci, ti) z = (-103, (w, g, r, c, t, n, b, kp, ri, ci, ti)) from (if_neg (by omega)).trans (if_pos h19)]
          exact ⟨rfl, hc0, br_fc.rfl⟩)
    · refine br_if_eq0 C dX4_put_22 (tgt := 28) (by decide) ?_
      refine br_aload_n C dX4_put_28 rfl rfl ?_
      refine br_getR C fdX4_28 dX4_put_29 rfl rfl ?_
      refine br_getI C fdX4_87 dX4_put_32 rfl rfl (by assumption) ?_
      refine br_iconstJ C dX4_put_35 ?_
      refine br_icmp_ltJ C (by omega) (by omega) dX4_put_36 (tgt := 42) (by decide) (fun c36 => ?_) (fun c36 => ?_)
      · refine br_aload_n C dX4_put_42 rfl rfl ?_
        refine br_getR C fdX4_28 dX4_put_43 rfl rfl ?_
        refine br_iload_n C dX4_put_46 rfl rfl ?_
        have ez : ((z.toNat : Nat) : Int) = z := by omega
        have hap := c_X2_append (q := 7) rfl rfl hr h5r z.toNat (by omega)
        rw [ez] at hap
        refine br_cv1 C vcX4_125 (hap) (by decide) rfl rfl (fun _ => Nat.le_of_ble_eq_true rfl) dX4_put_47 (fun v47 τ47 hv => ?_)
        obtain ⟨rfl, hr2, hsm⟩ := hv
        refine br_aload_n C dX4_put_50 rfl rfl ?_
        refine br_dup C dX4_put_51 rfl ?_
        refine br_getI C fdX4_39 dX4_put_52 rfl rfl (x := br_J c) ((congrFun (hsm.1 0 (by decide)) 4).trans hcc) ?_
        refine br_iconstJ C dX4_put_55 ?_
        refine br_iaddJ C dX4_put_56 ?_
        refine br_putI C fdX4_39 dX4_put_57 rfl rfl rfl ?_
        refine br_aload_n C dX4_put_60 rfl rfl ?_
        refine br_getR C fdX4_28 dX4_put_61 rfl rfl ?_
        refine br_getI C fdX4_87 dX4_put_64 rfl rfl (x := br_J (r.1 + 1)) (by rw [show ((r.1 : Int) + 1) = ((r.1 + 1 : Nat) : Int) from rfl]; exact hr2.1) ?_
        refine br_iconstJ C dX4_put_67 ?_
        refine br_isubJ C dX4_put_68 ?_
        exact br_iret C rfl dX4_put_69 (by
            rw [show br_sPut (w, g, r, c, t, n, b, kp, ri, ci, ti) z = ((r.1 : Int), (w, g, br_app r z.toNat, c + 1, t, n, b, kp, ri, ci, ti)) from (if_neg (by omega)).trans ((if_neg h19).trans (if_neg (by omega)))]
            exact ⟨by rw [show (r.1 : Int) + 1 - 1 = r.1 by omega], ⟨⟨hw.keep (hsm.1 1 (by decide)) (hsm.1 2 (by decide)), hg.keep (hsm.1 3 (by decide)) (hsm.1 4 (by decide)) (hsm.1 5 (by decide)) (hsm.1 6 (by decide)), hr2.keep rfl rfl, ht.keep (hsm.1 15 (by decide)) (hsm.1 16 (by decide)) (hsm.1 17 (by decide)) (hsm.1 18 (by decide))⟩, ⟨rfl, (congrFun (hsm.1 0 (by decide)) 11).trans hnn, (congrFun (hsm.1 0 (by decide)) 12).trans hbb, (congrFun (hsm.1 0 (by decide)) 5).trans hkp⟩, fun h => ⟨(him h).1.keep (hsm.1 9 (by decide)) (hsm.1 10 (by decide)), (him h).2.1.keep (hsm.1 19 (by decide)) (hsm.1 20 (by decide)) (hsm.1 21 (by decide)) (hsm.1 22 (by decide)), (congrFun (hsm.1 0 (by decide)) 8).trans (him h).2.2⟩⟩, ((hsm.mono (qs' := [0, 7, 8]) (by decide)).up (by simp)).fc (by decide)⟩)
      · refine br_bipushJ C (by decide) dX4_put_39 ?_
        exact br_iret C rfl dX4_put_41 (by
            rw [show br_sPut (w, g, r, c, t, n, b, kp, ri, ci, ti) z = (-104, (w, g, r, c, t, n, b, kp, ri, ci, ti)) from (if_neg (by omega)).trans ((if_neg h19).trans (if_pos (by omega)))]
            exact ⟨rfl, hc0, br_fc.rfl⟩)
  · refine br_if_ne0 C dX4_put_8 (tgt := 14) (by decide) ?_
    refine br_bipushJ C (by decide) dX4_put_11 ?_
    exact br_iret C rfl dX4_put_13 (by
        rw [show br_sPut (w, g, r, c, t, n, b, kp, ri, ci, ti) z = (-101, (w, g, r, c, t, n, b, kp, ri, ci, ti)) from if_pos (by omega)]
        exact ⟨rfl, hc0, br_fc.rfl⟩)

set_option maxHeartbeats 4000000 in
set_option maxRecDepth 100000 in
theorem c_X4_take {σ : br_Wd} {A : br_A} (hc : br_CR σ A) (hA : br_Aok A) (z : Int) (hbz : -2147483648 ≤ z ∧ z < 2147483648) : br_Met 2 mX4_take [br_r 0, br_i (br_J z)] σ (br_QC (br_J (br_sTake A z).1) (br_sTake A z).2 σ) := by
  obtain ⟨w, g, r, c, t, n, b, kp, ri, ci, ti⟩ := A
  have hc0 := hc
  obtain ⟨⟨hw, hg, hr, ht⟩, ⟨hcc, hnn, hbb, hkp⟩, him⟩ := hc
  obtain ⟨⟨hwo, hgo, hro, hto⟩, ⟨hb30, hn512⟩, hio⟩ := hA
  have hw1 := hw.1
  have hg1 := hg.1
  have hr1 := hr.1
  have ht1 := ht.1
  have hw30 := hwo.1
  have hg7 := hgo.1
  have h5r := hro.1
  have h8t := hto.1
  have hk4 := fun (j : Nat) (hj : j < g.1) => (hgo.2 j hj).1
  have hrb := fun (j : Nat) (hj : j < r.1) => (show r.2 j < 7 by have := hro.2.1 j hj; omega)
  have hpo : -1 ≤ br_po r z ∧ br_po r z < r.1 := br_lst_bnd _ _
  refine br_ofW (by decide) 0 rfl (fun G C => ?_)
  refine br_aload_n C dX4_take_0 rfl rfl ?_
  refine br_getR C fdX4_28 dX4_take_1 rfl rfl ?_
  refine br_iload_n C dX4_take_4 rfl rfl ?_
  refine br_cv1B C vcX4_128 (c_X2_reaches (q := 7) rfl rfl hr h5r z hbz) (by decide) rfl rfl (fun _ => Nat.le_of_ble_eq_true rfl) dX4_take_5 (fun h5_ => ?_) (fun h5_ => ?_)
  · refine br_if_ne1 C dX4_take_8 (tgt := 14) (by decide) ?_
    refine br_aload_n C dX4_take_14 rfl rfl ?_
    refine br_dup C dX4_take_15 rfl ?_
    refine br_getI C fdX4_39 dX4_take_16 rfl rfl (by assumption) ?_
    refine br_iconstJ C dX4_take_19 ?_
    refine br_iaddJ C dX4_take_20 ?_
    refine br_putI C fdX4_39 dX4_take_21 rfl rfl rfl ?_
    refine br_aload_n C dX4_take_24 rfl rfl ?_
    refine br_getR C fdX4_28 dX4_take_25 rfl rfl ?_
    refine br_iload_n C dX4_take_28 rfl rfl ?_
    have ez : ((z.toNat : Nat) : Int) = z := by omega
    have hrm := c_X2_removeAt (q := 7) rfl rfl (br_RC.keep (q := 7) (τ := br_up σ 0 4 (br_J (c + 1))) hr rfl rfl) h5r z.toNat (by omega)
    rw [ez] at hrm
    refine br_cv1 C vcX4_131 (hrm) (by decide) rfl rfl (fun _ => Nat.le_of_ble_eq_true rfl) dX4_take_29 (fun v29 τ29 hv => ?_)
    obtain ⟨rfl, hr2, hsm⟩ := hv
    exact br_iret C rfl dX4_take_32 (by
        rw [show br_sTake (w, g, r, c, t, n, b, kp, ri, ci, ti) z = (((r.2 z.toNat : Nat) : Int), (w, g, br_rem r z.toNat, c + 1, t, n, b, kp, ri, ci, ti)) from if_neg (by omega)]
        exact ⟨rfl, ⟨⟨hw.keep (hsm.1 1 (by decide)) (hsm.1 2 (by decide)), hg.keep (hsm.1 3 (by decide)) (hsm.1 4 (by decide)) (hsm.1 5 (by decide)) (hsm.1 6 (by decide)), hr2, ht.keep (hsm.1 15 (by decide)) (hsm.1 16 (by decide)) (hsm.1 17 (by decide)) (hsm.1 18 (by decide))⟩, ⟨(congrFun (hsm.1 0 (by decide)) 4), (congrFun (hsm.1 0 (by decide)) 11).trans hnn, (congrFun (hsm.1 0 (by decide)) 12).trans hbb, (congrFun (hsm.1 0 (by decide)) 5).trans hkp⟩, fun h => ⟨(him h).1.keep (hsm.1 9 (by decide)) (hsm.1 10 (by decide)), (him h).2.1.keep (hsm.1 19 (by decide)) (hsm.1 20 (by decide)) (hsm.1 21 (by decide)) (hsm.1 22 (by decide)), (congrFun (hsm.1 0 (by decide)) 8).trans (him h).2.2⟩⟩, (((br_sm.rfl (qs := [0, 7, 8])).up (by simp)).trans (hsm.mono (by decide))).fc (by decide)⟩)
  · refine br_if_ne0 C dX4_take_8 (tgt := 14) (by decide) ?_
    refine br_bipushJ C (by decide) dX4_take_11 ?_
    exact br_iret C rfl dX4_take_13 (by
        rw [show br_sTake (w, g, r, c, t, n, b, kp, ri, ci, ti) z = (-101, (w, g, r, c, t, n, b, kp, ri, ci, ti)) from if_pos (by omega)]
        exact ⟨rfl, hc0, br_fc.rfl⟩)

set_option maxHeartbeats 4000000 in
set_option maxRecDepth 100000 in
theorem c_X4_swap {σ : br_Wd} {A : br_A} (hc : br_CR σ A) (hA : br_Aok A) (x : Int) (hbx : -2147483648 ≤ x ∧ x < 2147483648) (y : Int) (hby : -2147483648 ≤ y ∧ y < 2147483648) : br_Met 2 mX4_swap [br_r 0, br_i (br_J x), br_i (br_J y)] σ (br_QC (br_J (br_sSwap A x y).1) (br_sSwap A x y).2 σ) := by
  obtain ⟨w, g, r, c, t, n, b, kp, ri, ci, ti⟩ := A
  have hc0 := hc
  obtain ⟨⟨hw, hg, hr, ht⟩, ⟨hcc, hnn, hbb, hkp⟩, him⟩ := hc
  obtain ⟨⟨hwo, hgo, hro, hto⟩, ⟨hb30, hn512⟩, hio⟩ := hA
  have hw1 := hw.1
  have hg1 := hg.1
  have hr1 := hr.1
  have ht1 := ht.1
  have hw30 := hwo.1
  have hg7 := hgo.1
  have h5r := hro.1
  have h8t := hto.1
  have hk4 := fun (j : Nat) (hj : j < g.1) => (hgo.2 j hj).1
  have hrb := fun (j : Nat) (hj : j < r.1) => (show r.2 j < 7 by have := hro.2.1 j hj; omega)
  have hpo : -1 ≤ br_po r x ∧ br_po r x < r.1 := br_lst_bnd _ _
  refine br_ofW (by decide) 0 rfl (fun G C => ?_)
  refine br_aload_n C dX4_swap_0 rfl rfl ?_
  refine br_getR C fdX4_28 dX4_swap_1 rfl rfl ?_
  refine br_iload_n C dX4_swap_4 rfl rfl ?_
  refine br_cv1B C vcX4_128 (c_X2_reaches (q := 7) rfl rfl hr h5r x hbx) (by decide) rfl rfl (fun _ => Nat.le_of_ble_eq_true rfl) dX4_swap_5 (fun h5_ => ?_) (fun h5_ => ?_)
  · refine br_if_eq1 C dX4_swap_8 (tgt := 22) (by decide) ?_
    refine br_aload_n C dX4_swap_11 rfl rfl ?_
    refine br_getR C fdX4_28 dX4_swap_12 rfl rfl ?_
    refine br_iload_n C dX4_swap_15 rfl rfl ?_
    refine br_cv1B C vcX4_128 (c_X2_reaches (q := 7) rfl rfl hr h5r y hby) (by decide) rfl rfl (fun _ => Nat.le_of_ble_eq_true rfl) dX4_swap_16 (fun h16 => ?_) (fun h16 => ?_)
    · refine br_if_ne1 C dX4_swap_19 (tgt := 25) (by decide) ?_
      refine br_aload_n C dX4_swap_25 rfl rfl ?_
      refine br_getR C fdX4_28 dX4_swap_26 rfl rfl ?_
      refine br_iload_n C dX4_swap_29 rfl rfl ?_
      refine br_iload_n C dX4_swap_30 rfl rfl ?_
      have ex : ((x.toNat : Nat) : Int) = x := by omega
      have ey : ((y.toNat : Nat) : Int) = y := by omega
      have hex := c_X2_exchange (q := 7) rfl rfl hr h5r x.toNat y.toNat (by omega) (by omega)
      rw [ex, ey] at hex
      refine br_cv2 C vcX4_134 (hex) (by decide) rfl rfl (fun _ => Nat.le_of_ble_eq_true rfl) dX4_swap_31 (fun v31 τ31 hv => ?_)
      obtain ⟨rfl, hr2, hsm⟩ := hv
      refine br_aload_n C dX4_swap_34 rfl rfl ?_
      refine br_dup C dX4_swap_35 rfl ?_
      refine br_getI C fdX4_39 dX4_swap_36 rfl rfl (x := br_J c) ((congrFun (hsm.1 0 (by decide)) 4).trans hcc) ?_
      refine br_iconstJ C dX4_swap_39 ?_
      refine br_iaddJ C dX4_swap_40 ?_
      refine br_putI C fdX4_39 dX4_swap_41 rfl rfl rfl ?_
      refine br_aload_n C dX4_swap_44 rfl rfl ?_
      refine br_getI C fdX4_39 dX4_swap_45 rfl rfl (x := br_J (c + 1)) rfl ?_
      exact br_iret C rfl dX4_swap_48 (by
          rw [show br_sSwap (w, g, r, c, t, n, b, kp, ri, ci, ti) x y = (c + 1, (w, g, br_swp r x.toNat y.toNat, c + 1, t, n, b, kp, ri, ci, ti)) from if_neg (by omega)]
          exact ⟨rfl, ⟨⟨hw.keep (hsm.1 1 (by decide)) (hsm.1 2 (by decide)), hg.keep (hsm.1 3 (by decide)) (hsm.1 4 (by decide)) (hsm.1 5 (by decide)) (hsm.1 6 (by decide)), hr2.keep rfl rfl, ht.keep (hsm.1 15 (by decide)) (hsm.1 16 (by decide)) (hsm.1 17 (by decide)) (hsm.1 18 (by decide))⟩, ⟨rfl, (congrFun (hsm.1 0 (by decide)) 11).trans hnn, (congrFun (hsm.1 0 (by decide)) 12).trans hbb, (congrFun (hsm.1 0 (by decide)) 5).trans hkp⟩, fun h => ⟨(him h).1.keep (hsm.1 9 (by decide)) (hsm.1 10 (by decide)), (him h).2.1.keep (hsm.1 19 (by decide)) (hsm.1 20 (by decide)) (hsm.1 21 (by decide)) (hsm.1 22 (by decide)), (congrFun (hsm.1 0 (by decide)) 8).trans (him h).2.2⟩⟩, ((hsm.mono (qs' := [0, 7, 8]) (by decide)).up (by simp)).fc (by decide)⟩)
    · refine br_if_ne0 C dX4_swap_19 (tgt := 25) (by decide) ?_
      refine br_bipushJ C (by decide) dX4_swap_22 ?_
      exact br_iret C rfl dX4_swap_24 (by
          rw [show br_sSwap (w, g, r, c, t, n, b, kp, ri, ci, ti) x y = (-101, (w, g, r, c, t, n, b, kp, ri, ci, ti)) from if_pos (by omega)]
          exact ⟨rfl, hc0, br_fc.rfl⟩)
  · refine br_if_eq0 C dX4_swap_8 (tgt := 22) (by decide) ?_
    refine br_bipushJ C (by decide) dX4_swap_22 ?_
    exact br_iret C rfl dX4_swap_24 (by
        rw [show br_sSwap (w, g, r, c, t, n, b, kp, ri, ci, ti) x y = (-101, (w, g, r, c, t, n, b, kp, ri, ci, ti)) from if_pos (by omega)]
        exact ⟨rfl, hc0, br_fc.rfl⟩)

set_option maxHeartbeats 4000000 in
set_option maxRecDepth 100000 in
theorem c_X4_at {σ : br_Wd} {A : br_A} (hc : br_CR σ A) (hA : br_Aok A) (z : Int) (hbz : -2147483648 ≤ z ∧ z < 2147483648) : br_Met 2 mX4_at [br_r 0, br_i (br_J z)] σ (br_R (br_J (br_vAt A z)) σ) := by
  obtain ⟨w, g, r, c, t, n, b, kp, ri, ci, ti⟩ := A
  have hc0 := hc
  obtain ⟨⟨hw, hg, hr, ht⟩, ⟨hcc, hnn, hbb, hkp⟩, him⟩ := hc
  obtain ⟨⟨hwo, hgo, hro, hto⟩, ⟨hb30, hn512⟩, hio⟩ := hA
  have hw1 := hw.1
  have hg1 := hg.1
  have hr1 := hr.1
  have ht1 := ht.1
  have hw30 := hwo.1
  have hg7 := hgo.1
  have h5r := hro.1
  have h8t := hto.1
  have hk4 := fun (j : Nat) (hj : j < g.1) => (hgo.2 j hj).1
  have hrb := fun (j : Nat) (hj : j < r.1) => (show r.2 j < 7 by have := hro.2.1 j hj; omega)
  refine br_ofW (by decide) 0 rfl (fun G C => ?_)
  refine br_aload_n C dX4_at_0 rfl rfl ?_
  refine br_getR C fdX4_28 dX4_at_1 rfl rfl ?_
  refine br_iload_n C dX4_at_4 rfl rfl ?_
  refine br_cv1B C vcX4_128 (c_X2_reaches (q := 7) rfl rfl hr h5r z hbz) (by decide) rfl rfl (fun _ => Nat.le_of_ble_eq_true rfl) dX4_at_5 (fun h5_ => ?_) (fun h5_ => ?_)
  · refine br_if_eq1 C dX4_at_8 (tgt := 22) (by decide) ?_
    refine br_aload_n C dX4_at_11 rfl rfl ?_
    refine br_getR C fdX4_28 dX4_at_12 rfl rfl ?_
    refine br_iload_n C dX4_at_15 rfl rfl ?_
    refine br_cv1R C vcX4_138 (c_X2_pieceAt (q := 7) rfl rfl hr h5r z hbz) (by decide) rfl rfl (fun _ => Nat.le_of_ble_eq_true rfl) dX4_at_16 ?_
    refine br_goto C dX4_at_19 (tgt := 24) (by decide) ?_
    exact br_iret C rfl dX4_at_24 ⟨congrArg (fun x => some (br_i (br_J x))) (show _ = br_vAt (w, g, r, c, t, n, b, kp, ri, ci, ti) z from by first | exact (if_neg h5_).symm | (unfold br_pO; rw [if_pos h5_]; exact (if_pos h5_).symm)), rfl⟩
  · refine br_if_eq0 C dX4_at_8 (tgt := 22) (by decide) ?_
    refine br_bipushJ C (by decide) dX4_at_22 ?_
    exact br_iret C rfl dX4_at_24 ⟨congrArg (fun x => some (br_i (br_J x))) (show _ = br_vAt (w, g, r, c, t, n, b, kp, ri, ci, ti) z from by first | exact (if_neg h5_).symm | (unfold br_pO; rw [if_pos h5_]; exact (if_pos h5_).symm)), rfl⟩

set_option maxHeartbeats 4000000 in
set_option maxRecDepth 100000 in
theorem c_X4_score {σ : br_Wd} {A : br_A} (hc : br_CR σ A) (hA : br_Aok A) (z : Int) (hbz : -2147483648 ≤ z ∧ z < 2147483648) : br_Met 5 mX4_score [br_r 0, br_i (br_J z)] σ (br_R (br_J (br_vScore A z)) σ) := by
  obtain ⟨w, g, r, c, t, n, b, kp, ri, ci, ti⟩ := A
  have hc0 := hc
  have hA0 := hA
  obtain ⟨⟨hw, hg, hr, ht⟩, ⟨hcc, hnn, hbb, hkp⟩, him⟩ := hc
  obtain ⟨⟨hwo, hgo, hro, hto⟩, ⟨hb30, hn512⟩, hio⟩ := hA
  have hw1 := hw.1
  have hg1 := hg.1
  have hr1 := hr.1
  have ht1 := ht.1
  have hw30 := hwo.1
  have hg7 := hgo.1
  have h5r := hro.1
  have h8t := hto.1
  have hk4 := fun (j : Nat) (hj : j < g.1) => (hgo.2 j hj).1
  have hrb := fun (j : Nat) (hj : j < r.1) => (show r.2 j < 7 by have := hro.2.1 j hj; omega)
  refine br_ofW (by decide) 0 rfl (fun G C => ?_)
  have hp2 := br_pow2 h5r
  refine br_iload_n C dX4_score_0 rfl rfl ?_
  refine br_if_ltJ C (by omega) dX4_score_1 (tgt := 17) (by decide) (fun c1 => ?_) (fun c1 => ?_)
  · refine br_bipushJ C (by decide) dX4_score_17 ?_
    exact br_iret C rfl dX4_score_19 ⟨congrArg (fun x => some (br_i (br_J x))) (show _ = br_vScore (w, g, r, c, t, n, b, kp, ri, ci, ti) z from (if_pos (by omega)).symm), rfl⟩
  · refine br_iload_n C dX4_score_4 rfl rfl ?_
    refine br_iconstJ C dX4_score_5 ?_
    refine br_aload_n C dX4_score_6 rfl rfl ?_
    refine br_getR C fdX4_28 dX4_score_7 rfl rfl ?_
    refine br_getI C fdX4_87 dX4_score_10 rfl rfl (by assumption) ?_
    refine br_ishlE C (br_shl1 h5r) dX4_score_13 ?_
    refine br_icmp_ltJ C (by omega) (by omega) dX4_score_14 (tgt := 20) (by decide) (fun c14 => ?_) (fun c14 => ?_)
    · refine br_aload_n C dX4_score_20 rfl rfl ?_
      refine br_cv0B C vcX4_141 (c_X4_noGym (A := (w, g, r, c, t, n, b, kp, ri, ci, ti)) hc0 hA0) (by decide) rfl rfl (fun _ => Nat.le_of_ble_eq_true rfl) dX4_score_21 (fun h21 => ?_) (fun h21 => ?_)
      · refine br_if_eq1 C dX4_score_24 (tgt := 30) (by decide) ?_
        refine br_bipushJ C (by decide) dX4_score_27 ?_
        exact br_iret C rfl dX4_score_29 ⟨congrArg (fun x => some (br_i (br_J x))) (show _ = br_vScore (w, g, r, c, t, n, b, kp, ri, ci, ti) z from ((if_neg (by omega)).trans (if_pos h21)).symm), rfl⟩
      · refine br_if_eq0 C dX4_score_24 (tgt := 30) (by decide) ?_
        refine br_aload_n C dX4_score_30 rfl rfl ?_
        refine br_getR C fdX4_28 dX4_score_31 rfl rfl ?_
        refine br_iload_n C dX4_score_34 rfl rfl ?_
        have ez : ((z.toNat : Nat) : Int) = z := by omega
        have hpt := c_X2_points (q := 7) rfl rfl hg hgo hr hro z.toNat (by omega)
        rw [ez] at hpt
        refine br_cv1R C vcX4_144 (hpt) (by decide) rfl rfl (fun _ => Nat.le_of_ble_eq_true rfl) dX4_score_35 ?_
        refine br_sipushJ C (by decide) dX4_score_38 ?_
        refine br_iaddJ C dX4_score_41 ?_
        exact br_iret C rfl dX4_score_42 ⟨congrArg (fun x => some (br_i (br_J x))) (show _ = br_vScore (w, g, r, c, t, n, b, kp, ri, ci, ti) z from ((if_neg (by omega)).trans (if_neg h21)).symm), rfl⟩
    · refine br_bipushJ C (by decide) dX4_score_17 ?_
      exact br_iret C rfl dX4_score_19 ⟨congrArg (fun x => some (br_i (br_J x))) (show _ = br_vScore (w, g, r, c, t, n, b, kp, ri, ci, ti) z from (if_pos (by omega)).symm), rfl⟩

set_option maxHeartbeats 4000000 in
set_option maxRecDepth 100000 in
theorem c_X4_mean {σ : br_Wd} {A : br_A} (hc : br_CR σ A) (hA : br_Aok A) (k : Int) (hbk : -2147483648 ≤ k ∧ k < 2147483648) : br_Met 5 mX4_mean [br_r 0, br_i (br_J k)] σ (br_R (br_J (br_vMean A k)) σ) := by
  obtain ⟨w, g, r, c, t, n, b, kp, ri, ci, ti⟩ := A
  have hc0 := hc
  have hA0 := hA
  obtain ⟨⟨hw, hg, hr, ht⟩, ⟨hcc, hnn, hbb, hkp⟩, him⟩ := hc
  obtain ⟨⟨hwo, hgo, hro, hto⟩, ⟨hb30, hn512⟩, hio⟩ := hA
  have hw1 := hw.1
  have hg1 := hg.1
  have hr1 := hr.1
  have ht1 := ht.1
  have hw30 := hwo.1
  have hg7 := hgo.1
  have h5r := hro.1
  have h8t := hto.1
  have hk4 := fun (j : Nat) (hj : j < g.1) => (hgo.2 j hj).1
  have hrb := fun (j : Nat) (hj : j < r.1) => (show r.2 j < 7 by have := hro.2.1 j hj; omega)
  refine br_ofW (by decide) 0 rfl (fun G C => ?_)
  have hmb := br_mh_bnd hgo hro
  refine br_iload_n C dX4_mean_0 rfl rfl ?_
  refine br_cs1B C scX4_147 (c_X4_asksAboveOrBelow k hbk) (by decide) (fun _ => Nat.le_of_ble_eq_true rfl) dX4_mean_1 (fun h1 => ?_) (fun h1 => ?_)
  · refine br_if_ne1 C dX4_mean_4 (tgt := 10) (by decide) ?_
    refine br_aload_n C dX4_mean_10 rfl rfl ?_
    refine br_cv0B C vcX4_141 (c_X4_noGym (A := (w, g, r, c, t, n, b, kp, ri, ci, ti)) hc0 hA0) (by decide) rfl rfl (fun _ => Nat.le_of_ble_eq_true rfl) dX4_mean_11 (fun h11 => ?_) (fun h11 => ?_)
    · refine br_if_eq1 C dX4_mean_14 (tgt := 20) (by decide) ?_
      refine br_bipushJ C (by decide) dX4_mean_17 ?_
      exact br_iret C rfl dX4_mean_19 ⟨congrArg (fun x => some (br_i (br_J x))) (show _ = br_vMean (w, g, r, c, t, n, b, kp, ri, ci, ti) k from ((if_neg (fun q => q h1)).trans (if_pos h11)).symm), rfl⟩
    · refine br_if_eq0 C dX4_mean_14 (tgt := 20) (by decide) ?_
      refine br_aload_n C dX4_mean_20 rfl rfl ?_
      refine br_getR C fdX4_28 dX4_mean_21 rfl rfl ?_
      refine br_cv0R C vcX4_150 (c_X2_meanInHundredths (q := 7) rfl rfl hg hgo hr hro) (by decide) rfl rfl (fun _ => Nat.le_of_ble_eq_true rfl) dX4_mean_24 ?_
      refine br_bipushJ C (by decide) dX4_mean_27 ?_
      refine br_iload_n C dX4_mean_29 rfl rfl ?_
      refine br_cs3R C scX4_153 (c_X4_inLowestTerms _ 100 k (by omega) (by omega) hbk) (by decide) (fun _ => Nat.le_of_ble_eq_true rfl) dX4_mean_30 ?_
      exact br_iret C rfl dX4_mean_33 ⟨congrArg (fun x => some (br_i (br_J x))) (show _ = br_vMean (w, g, r, c, t, n, b, kp, ri, ci, ti) k from ((if_neg (fun q => q h1)).trans (if_neg h11)).symm), rfl⟩
  · refine br_if_ne0 C dX4_mean_4 (tgt := 10) (by decide) ?_
    refine br_bipushJ C (by decide) dX4_mean_7 ?_
    exact br_iret C rfl dX4_mean_9 ⟨congrArg (fun x => some (br_i (br_J x))) (show _ = br_vMean (w, g, r, c, t, n, b, kp, ri, ci, ti) k from (if_pos h1).symm), rfl⟩

set_option maxHeartbeats 4000000 in
set_option maxRecDepth 100000 in
theorem c_X4_odds {σ : br_Wd} {A : br_A} (hc : br_CR σ A) (hA : br_Aok A) (s : Int) (hbs : -2147483648 ≤ s ∧ s < 2147483648) (k : Int) (hbk : -2147483648 ≤ k ∧ k < 2147483648) : br_Met 5 mX4_odds [br_r 0, br_i (br_J s), br_i (br_J k)] σ (br_R (br_J (br_vOdds A s k)) σ) := by
  obtain ⟨w, g, r, c, t, n, b, kp, ri, ci, ti⟩ := A
  have hc0 := hc
  have hA0 := hA
  obtain ⟨⟨hw, hg, hr, ht⟩, ⟨hcc, hnn, hbb, hkp⟩, him⟩ := hc
  obtain ⟨⟨hwo, hgo, hro, hto⟩, ⟨hb30, hn512⟩, hio⟩ := hA
  have hw1 := hw.1
  have hg1 := hg.1
  have hr1 := hr.1
  have ht1 := ht.1
  have hw30 := hwo.1
  have hg7 := hgo.1
  have h5r := hro.1
  have h8t := hto.1
  have hk4 := fun (j : Nat) (hj : j < g.1) => (hgo.2 j hj).1
  have hrb := fun (j : Nat) (hj : j < r.1) => (show r.2 j < 7 by have := hro.2.1 j hj; omega)
  refine br_ofW (by decide) 0 rfl (fun G C => ?_)
  have hob := br_od_bnd hgo hro s
  have hpb := br_pow10 h5r
  refine br_iload_n C dX4_odds_0 rfl rfl ?_
  refine br_cs1B C scX4_157 (c_X4_isScore s hbs) (by decide) (fun _ => Nat.le_of_ble_eq_true rfl) dX4_odds_1 (fun h1 => ?_) (fun h1 => ?_)
  · refine br_if_eq1 C dX4_odds_4 (tgt := 14) (by decide) ?_
    refine br_iload_n C dX4_odds_7 rfl rfl ?_
    refine br_cs1B C scX4_147 (c_X4_asksAboveOrBelow k hbk) (by decide) (fun _ => Nat.le_of_ble_eq_true rfl) dX4_odds_8 (fun h8 => ?_) (fun h8 => ?_)
    · refine br_if_ne1 C dX4_odds_11 (tgt := 17) (by decide) ?_
      refine br_aload_n C dX4_odds_17 rfl rfl ?_
      refine br_cv0B C vcX4_141 (c_X4_noGym (A := (w, g, r, c, t, n, b, kp, ri, ci, ti)) hc0 hA0) (by decide) rfl rfl (fun _ => Nat.le_of_ble_eq_true rfl) dX4_odds_18 (fun h18 => ?_) (fun h18 => ?_)
      · refine br_if_eq1 C dX4_odds_21 (tgt := 27) (by decide) ?_
        refine br_bipushJ C (by decide) dX4_odds_24 ?_
        exact br_iret C rfl dX4_odds_26 ⟨congrArg (fun x => some (br_i (br_J x))) (show _ = br_vOdds (w, g, r, c, t, n, b, kp, ri, ci, ti) s k from ((if_neg (fun q => q ⟨h1, h8⟩)).trans (if_pos h18)).symm), rfl⟩
      · refine br_if_eq0 C dX4_odds_21 (tgt := 27) (by decide) ?_
        refine br_aload_n C dX4_odds_27 rfl rfl ?_
        refine br_getR C fdX4_28 dX4_odds_28 rfl rfl ?_
        refine br_iload_n C dX4_odds_31 rfl rfl ?_
        refine br_cv1R C vcX4_160 (c_X2_partsWith (q := 7) rfl rfl hg hgo hr hro s h1) (by decide) rfl rfl (fun _ => Nat.le_of_ble_eq_true rfl) dX4_odds_32 ?_
        refine br_aload_n C dX4_odds_35 rfl rfl ?_
        refine br_getR C fdX4_28 dX4_odds_36 rfl rfl ?_
        refine br_cv0R C vcX4_163 (c_X2_allParts (q := 7) rfl rfl hr h5r) (by decide) rfl rfl (fun _ => Nat.le_of_ble_eq_true rfl) dX4_odds_39 ?_
        refine br_iload_n C dX4_odds_42 rfl rfl ?_
        refine br_cs3R C scX4_153 (c_X4_inLowestTerms _ _ k (by omega) (by omega) hbk) (by decide) (fun _ => Nat.le_of_ble_eq_true rfl) dX4_odds_43 ?_
        exact br_iret C rfl dX4_odds_46 ⟨congrArg (fun x => some (br_i (br_J x))) (show _ = br_vOdds (w, g, r, c, t, n, b, kp, ri, ci, ti) s k from ((if_neg (fun q => q ⟨h1, h8⟩)).trans (if_neg h18)).symm), rfl⟩
    · refine br_if_ne0 C dX4_odds_11 (tgt := 17) (by decide) ?_
      refine br_bipushJ C (by decide) dX4_odds_14 ?_
      exact br_iret C rfl dX4_odds_16 ⟨congrArg (fun x => some (br_i (br_J x))) (show _ = br_vOdds (w, g, r, c, t, n, b, kp, ri, ci, ti) s k from (if_pos (fun q => by first | exact h1 q.1 | exact h8 q.2)).symm), rfl⟩
  · refine br_if_eq0 C dX4_odds_4 (tgt := 14) (by decide) ?_
    refine br_bipushJ C (by decide) dX4_odds_14 ?_
    exact br_iret C rfl dX4_odds_16 ⟨congrArg (fun x => some (br_i (br_J x))) (show _ = br_vOdds (w, g, r, c, t, n, b, kp, ri, ci, ti) s k from (if_pos (fun q => by first | exact h1 q.1 | exact h8 q.2)).symm), rfl⟩
