/-- the start: nothing read, nothing put, no image -/
def br_w0 : br_Wd := ((fun q k => if q = 23 then (if k = 14 then br_J (-1) else 0) else 0), 0)
def br_A0 : br_A := ((0, fun _ => 0), (0, fun _ => 0, fun _ => 0, fun _ => 0), (0, fun _ => 0), 0, (0, fun _ => 0, fun _ => 0, fun _ => 0), 0, 0, false, (0, fun _ => 0), 0, (0, fun _ => 0, fun _ => 0, fun _ => 0))
theorem br_no {p : Nat → Prop} : ∀ j : Nat, j < 0 → p j := fun j hj => absurd hj (Nat.not_lt_zero j)
theorem br_CR0 : br_CR br_w0 br_A0 := ⟨⟨⟨by decide, br_no⟩, ⟨by decide, br_no, br_no, br_no⟩, ⟨by decide, br_no⟩, ⟨by decide, br_no, br_no, br_no⟩⟩, ⟨by decide, by decide, by decide, by decide⟩, fun h => absurd h (by decide)⟩
theorem br_MR0 : br_MR br_w0 br_A0 := ⟨⟨⟨by decide, br_no⟩, ⟨by decide, br_no, br_no, br_no⟩, br_no, ⟨br_no, br_no, br_no⟩⟩, ⟨by decide, by decide, by decide, by decide, by decide⟩, ⟨-1, by decide, ⟨by decide, by decide⟩, by decide⟩, fun h => absurd h (by decide)⟩
theorem br_Aok0 : br_Aok br_A0 := ⟨⟨⟨Nat.zero_le _, br_no⟩, ⟨Nat.zero_le _, br_no⟩, ⟨Nat.zero_le _, br_no, fun i j hi => absurd hi (Nat.not_lt_zero i)⟩, ⟨Nat.zero_le _, br_no⟩⟩, ⟨Nat.zero_le _, Nat.zero_le _⟩, fun h => absurd h (by decide)⟩
set_option maxHeartbeats 4000000 in
set_option maxRecDepth 100000 in
/-- the law, from its entry -/
theorem whole_start {p : Program} {e : Env} {s : State} {m : MethodId} {below : List Frame} {meth : Method} {c : Code} (l : Launch) (hflags : l.flags = flags0) {b L : Nat} {xs : Nat → Int32} (hL : L ≤ 2048) (C0 : lw_At p s m meth c b L xs) : W p l e room_1 s m #[Value.ref b] below meth c s.heap [] 0 0 (lw_Z below #[Value.ref b] s) (entryFrame m ([Value.ref b] : List Value).toArray 4) := by
  obtain ⟨hx, hb, hr, hml, hown, hts0, hX, hbl, hlocks, hgv⟩ := id C0
  have hb : c.code = mL_law.2.1 := hb
  have hml : c.maxLocals = mL_law.2.2.1 := hml
  have hown : s.vm.findClass R_law = some m.cls := hown
  have hts : ∀ w ∈ br_W0, w.before #[Value.ref b] s = true := fun w hw => hts0 w (List.mem_filter.mp hw).1
  have hA : ∀ q : Nat, s.heap.size ≤ q → (fun q : Nat => s.heap.size ≤ q) q := fun _ h => h
  have hbA : ¬ (fun q : Nat => s.heap.size ≤ q) b := Nat.not_le.mpr hbl
  have hRo : 9 ≤ room_1.frames ∧ 29 * 9 ≤ room_1.locals ∧ 32 ≤ room_1.cells ∧ 300 ≤ room_1.slots := by decide
  obtain ⟨hRf, hRl, hRc, hRs⟩ := hRo
  obtain ⟨c0, iS0, hKn0⟩ := u_known (C := RX0) (T := TX0) (N := 4) (n := 4) hts br_cl0.2.1 (hts (.instantiable RX0 4) (br_W0_in (i := 70) (by decide +kernel) (by decide +kernel)))
  obtain ⟨c1, iS1, hKn1⟩ := u_known (C := RX1) (T := TX1) (N := 2) (n := 2) hts br_cl1.2.1 (hts (.instantiable RX1 2) (br_W0_in (i := 54) (by decide +kernel) (by decide +kernel)))
  obtain ⟨c2, iS2, hKn2⟩ := u_known (C := RX2) (T := TX2) (N := 3) (n := 3) hts br_cl2.2.1 (hts (.instantiable RX2 3) (br_W0_in (i := 90) (by decide +kernel) (by decide +kernel)))
  obtain ⟨c3, iS3, hKn3⟩ := u_known (C := RX3) (T := TX3) (N := 5) (n := 5) hts br_cl3.2.1 (hts (.instantiable RX3 5) (br_W0_in (i := 107) (by decide +kernel) (by decide +kernel)))
  obtain ⟨c4, iS4, hKn4⟩ := u_known (C := RX4) (T := TX4) (N := 13) (n := 13) hts br_cl4.2.1 (hts (.instantiable RX4 13) (br_W0_in (i := 46) (by decide +kernel) (by decide +kernel)))
  obtain ⟨c5, iS5, hKn5⟩ := u_known (C := RX5) (T := TX5) (N := 21) (n := 21) hts br_cl5.2.1 (hts (.instantiable RX5 21) (br_W0_in (i := 470) (by decide +kernel) (by decide +kernel)))
  obtain ⟨D, hKc⟩ : ∃ D : va_G, ∀ (k : Nat) (q : vw_C), vwCl[k]? = some q → u_Kn s q.1 q.2.1 q.2.2 (D.1 k) (D.2 k) := by
    refine ⟨(fun k => ([c0, c1, c2, c3, c4, c5] : List ClassId).getD k c0, fun k => ([iS0, iS1, iS2, iS3, iS4, iS5] : List (Nat → Nat)).getD k iS0), ?_⟩
    intro k q hq
    match k, hq with
    | 0, hq => cases hq; exact hKn0
    | 1, hq => cases hq; exact hKn1
    | 2, hq => cases hq; exact hKn2
    | 3, hq => cases hq; exact hKn3
    | 4, hq => cases hq; exact hKn4
    | 5, hq => cases hq; exact hKn5
    | k + 6, hq => simp at hq
  obtain ⟨cI, kI, coI, hI1, hI2, hI3⟩ := Cond.arrayClass_spec (hts (.arrayClass .int) (br_W0_in (i := 68) (by decide +kernel) (by decide +kernel)))
  obtain ⟨cZ, kZ, coZ, hZ1, hZ2, hZ3⟩ := Cond.arrayClass_spec (hts (.arrayClass .boolean) (br_W0_in (i := 129) (by decide +kernel) (by decide +kernel)))
  have hK : va_K D vwCl (br_tys cI cZ) s := by
    refine ⟨hKc, ?_⟩
    intro k q hq
    match k, hq with
    | 0, hq => cases hq; exact ⟨fun n z => ⟨fun k h => (by cases h), kI, hI2, coI, hI3⟩, hI1⟩
    | 1, hq => cases hq; exact ⟨fun n z => ⟨fun k h => (by cases h), kZ, hZ2, coZ, hZ3⟩, hZ1⟩
    | k + 2, hq => simp at hq
  have hN : br_N s := by
    refine ⟨fun w hw => va_Nw.of (A := #[Value.ref b]) rfl (hts0 _ ?_), fun w hw => va_Nw.of (A := #[Value.ref b]) rfl (hts0 _ ?_)⟩
    · exact (by decide +kernel : ∀ w ∈ br_nest, br_nw w ∈ lw_tbl) w hw
    · exact (by decide +kernel : ∀ w ∈ br_nestM, br_nm w ∈ lw_tbl) w hw
  have hS : va_S (fun q : Nat => s.heap.size ≤ q) s.heap s.heap [] := va_S.rf
  have hP : va_P D vwCl [] s.heap := fun k q h => by simp at h
  have hD : va_D (fun q : Nat => s.heap.size ≤ q) [] := ⟨fun i j p q h => by simp at h, fun k q h => by simp at h⟩
  have hl := lv_entry ([.ref b]) (n := 4) (Nat.le_of_ble_eq_true rfl)
  rw [lg_entry_eq]
  generalize (lg_sl ([.ref b]) ++ List.replicate (4 - (lg_sl ([.ref b])).length) Slot.unset).toArray = ls at hl ⊢
  have hl : lv_has ls 4 [(0, .ref b)] := hl
  refine va_new (ci := 4) (fs := [.null, .null, .null, .null, .int 0, .int 0, .null, .null, .int 0, .null, .null, .int 0, .int 0]) (C := RX4) (T := TX4) (N := 13) hx hb hts br_cl4.2.1 tyX4 tyX4_ok hown (hts (.classLink R_law 7 RX4) (br_W0_in (i := 45) (by decide +kernel) (by decide +kernel))) (hts (.instantiable RX4 13) (br_W0_in (i := 46) (by decide +kernel) (by decide +kernel))) (hts (.initialized RX4) (br_W0_in (i := 38) (by decide +kernel) (by decide +kernel))) hK hP hD hS hA rfl (fun j hj => by rcases (show j = 0 ∨ j = 1 ∨ j = 2 ∨ j = 3 ∨ j = 4 ∨ j = 5 ∨ j = 6 ∨ j = 7 ∨ j = 8 ∨ j = 9 ∨ j = 10 ∨ j = 11 ∨ j = 12 by omega) with rfl | rfl | rfl | rfl | rfl | rfl | rfl | rfl | rfl | rfl | rfl | rfl | rfl <;> rfl) (by omega) (by omega) dL_law_0 (fun q1 H hP hD hS => ?_)
  have hP : va_P D vwCl [(q1, .inr (4, [.null, .null, .null, .null, .int 0, .int 0, .null, .null, .int 0, .null, .null, .int 0, .int 0]))] H := hP
  have hD : va_D (fun q : Nat => s.heap.size ≤ q) [(q1, .inr (4, [.null, .null, .null, .null, .int 0, .int 0, .null, .null, .int 0, .null, .null, .int 0, .int 0]))] := hD
  refine lv_dup hx hb dL_law_3 rfl ?_
  refine br_kc (Y := mL_law) (n := 0) (i := 0) (isR := []) (wr := []) (c_X4_init q1) hx hb hml hown hts hK hN rfl rfl rfl (Or.inl (br_W0_in (i := 47) (by decide +kernel) (by decide +kernel))) (br_W0_in (i := 38) (by decide +kernel) (by decide +kernel)) (br_W0_in (i := 49) (by decide +kernel) (by decide +kernel)) (br_W0_in (i := 48) (by decide +kernel) (by decide +kernel)) rfl (by decide +kernel) ⟨Nat.le_of_ble_eq_true rfl, Nat.le_of_ble_eq_true rfl⟩ rfl hl (Nat.le_of_ble_eq_true rfl) dL_law_4 ⟨by omega, by omega⟩ hP hD hS hA rfl rfl (by decide) (by decide) (fun u2 H locs hP hD hS => ?_)
  have hP : va_P D vwCl [(q1, .inr (4, [.ref (u2 0), .ref (u2 2), .ref (u2 6), .ref (u2 8), .int 0, .int 0, .ref (u2 12), .ref (u2 14), .int 0, .ref (u2 18), .ref (u2 20), .int 0, .int 0])), ((u2 0), .inr (1, [.ref (u2 1), .int 0])), ((u2 1), .inl (cI, 30, .inl (fun _ => 0))), ((u2 2), .inr (0, [.ref (u2 3), .ref (u2 4), .ref (u2 5), .int 0])), ((u2 3), .inl (cI, 7, .inl (fun _ => 0))), ((u2 4), .inl (cI, 7, .inl (fun _ => 0))), ((u2 5), .inl (cI, 7, .inl (fun _ => 0))), ((u2 6), .inr (2, [.ref (u2 2), .ref (u2 7), .int 0])), ((u2 7), .inl (cI, 5, .inl (fun _ => 0))), ((u2 8), .inr (3, [.ref (u2 2), .ref (u2 9), .ref (u2 10), .ref (u2 11), .int 0])), ((u2 9), .inl (cI, 8, .inl (fun _ => 0))), ((u2 10), .inl (cI, 8, .inl (fun _ => 0))), ((u2 11), .inl (cZ, 8, .inl (fun _ => 0))), ((u2 12), .inr (2, [.ref (u2 2), .ref (u2 13), .int 0])), ((u2 13), .inl (cI, 5, .inl (fun _ => 0))), ((u2 14), .inr (3, [.ref (u2 2), .ref (u2 15), .ref (u2 16), .ref (u2 17), .int 0])), ((u2 15), .inl (cI, 8, .inl (fun _ => 0))), ((u2 16), .inl (cI, 8, .inl (fun _ => 0))), ((u2 17), .inl (cZ, 8, .inl (fun _ => 0))), ((u2 18), .inr (2, [.ref (u2 2), .ref (u2 19), .int 0])), ((u2 19), .inl (cI, 5, .inl (fun _ => 0))), ((u2 20), .inr (2, [.ref (u2 2), .ref (u2 21), .int 0])), ((u2 21), .inl (cI, 5, .inl (fun _ => 0)))] H := hP
  have hD : va_D (fun q : Nat => s.heap.size ≤ q) [(q1, .inr (4, [.ref (u2 0), .ref (u2 2), .ref (u2 6), .ref (u2 8), .int 0, .int 0, .ref (u2 12), .ref (u2 14), .int 0, .ref (u2 18), .ref (u2 20), .int 0, .int 0])), ((u2 0), .inr (1, [.ref (u2 1), .int 0])), ((u2 1), .inl (cI, 30, .inl (fun _ => 0))), ((u2 2), .inr (0, [.ref (u2 3), .ref (u2 4), .ref (u2 5), .int 0])), ((u2 3), .inl (cI, 7, .inl (fun _ => 0))), ((u2 4), .inl (cI, 7, .inl (fun _ => 0))), ((u2 5), .inl (cI, 7, .inl (fun _ => 0))), ((u2 6), .inr (2, [.ref (u2 2), .ref (u2 7), .int 0])), ((u2 7), .inl (cI, 5, .inl (fun _ => 0))), ((u2 8), .inr (3, [.ref (u2 2), .ref (u2 9), .ref (u2 10), .ref (u2 11), .int 0])), ((u2 9), .inl (cI, 8, .inl (fun _ => 0))), ((u2 10), .inl (cI, 8, .inl (fun _ => 0))), ((u2 11), .inl (cZ, 8, .inl (fun _ => 0))), ((u2 12), .inr (2, [.ref (u2 2), .ref (u2 13), .int 0])), ((u2 13), .inl (cI, 5, .inl (fun _ => 0))), ((u2 14), .inr (3, [.ref (u2 2), .ref (u2 15), .ref (u2 16), .ref (u2 17), .int 0])), ((u2 15), .inl (cI, 8, .inl (fun _ => 0))), ((u2 16), .inl (cI, 8, .inl (fun _ => 0))), ((u2 17), .inl (cZ, 8, .inl (fun _ => 0))), ((u2 18), .inr (2, [.ref (u2 2), .ref (u2 19), .int 0])), ((u2 19), .inl (cI, 5, .inl (fun _ => 0))), ((u2 20), .inr (2, [.ref (u2 2), .ref (u2 21), .int 0])), ((u2 21), .inl (cI, 5, .inl (fun _ => 0)))] := hD
  refine lv_astore_n (lv' := [(1, .ref q1), (0, .ref b)]) hx hb dL_law_7 rfl hl (by decide) rfl (fun ls hl => ?_)
  refine va_new (ci := 5) (fs := [.null, .int 0, .int 0, .int 0, .int 0, .null, .null, .int 0, .int 0, .null, .null, .int 0, .null, .int 0, .int 0, .int 0, .int 0, .int 0, .null, .null, .long 0]) (C := RX5) (T := TX5) (N := 21) hx hb hts br_cl5.2.1 tyX5 tyX5_ok hown (hts (.classLink R_law 10 RX5) (br_W0_in (i := 469) (by decide +kernel) (by decide +kernel))) (hts (.instantiable RX5 21) (br_W0_in (i := 470) (by decide +kernel) (by decide +kernel))) (hts (.initialized RX5) (br_W0_in (i := 43) (by decide +kernel) (by decide +kernel))) hK hP hD hS hA rfl (fun j hj => by rcases (show j = 0 ∨ j = 1 ∨ j = 2 ∨ j = 3 ∨ j = 4 ∨ j = 5 ∨ j = 6 ∨ j = 7 ∨ j = 8 ∨ j = 9 ∨ j = 10 ∨ j = 11 ∨ j = 12 ∨ j = 13 ∨ j = 14 ∨ j = 15 ∨ j = 16 ∨ j = 17 ∨ j = 18 ∨ j = 19 ∨ j = 20 by omega) with rfl | rfl | rfl | rfl | rfl | rfl | rfl | rfl | rfl | rfl | rfl | rfl | rfl | rfl | rfl | rfl | rfl | rfl | rfl | rfl | rfl <;> rfl) (by omega) (by omega) dL_law_8 (fun q3 H hP hD hS => ?_)
  have hP : va_P D vwCl [(q1, .inr (4, [.ref (u2 0), .ref (u2 2), .ref (u2 6), .ref (u2 8), .int 0, .int 0, .ref (u2 12), .ref (u2 14), .int 0, .ref (u2 18), .ref (u2 20), .int 0, .int 0])), ((u2 0), .inr (1, [.ref (u2 1), .int 0])), ((u2 1), .inl (cI, 30, .inl (fun _ => 0))), ((u2 2), .inr (0, [.ref (u2 3), .ref (u2 4), .ref (u2 5), .int 0])), ((u2 3), .inl (cI, 7, .inl (fun _ => 0))), ((u2 4), .inl (cI, 7, .inl (fun _ => 0))), ((u2 5), .inl (cI, 7, .inl (fun _ => 0))), ((u2 6), .inr (2, [.ref (u2 2), .ref (u2 7), .int 0])), ((u2 7), .inl (cI, 5, .inl (fun _ => 0))), ((u2 8), .inr (3, [.ref (u2 2), .ref (u2 9), .ref (u2 10), .ref (u2 11), .int 0])), ((u2 9), .inl (cI, 8, .inl (fun _ => 0))), ((u2 10), .inl (cI, 8, .inl (fun _ => 0))), ((u2 11), .inl (cZ, 8, .inl (fun _ => 0))), ((u2 12), .inr (2, [.ref (u2 2), .ref (u2 13), .int 0])), ((u2 13), .inl (cI, 5, .inl (fun _ => 0))), ((u2 14), .inr (3, [.ref (u2 2), .ref (u2 15), .ref (u2 16), .ref (u2 17), .int 0])), ((u2 15), .inl (cI, 8, .inl (fun _ => 0))), ((u2 16), .inl (cI, 8, .inl (fun _ => 0))), ((u2 17), .inl (cZ, 8, .inl (fun _ => 0))), ((u2 18), .inr (2, [.ref (u2 2), .ref (u2 19), .int 0])), ((u2 19), .inl (cI, 5, .inl (fun _ => 0))), ((u2 20), .inr (2, [.ref (u2 2), .ref (u2 21), .int 0])), ((u2 21), .inl (cI, 5, .inl (fun _ => 0))), (q3, .inr (5, [.null, .int 0, .int 0, .int 0, .int 0, .null, .null, .int 0, .int 0, .null, .null, .int 0, .null, .int 0, .int 0, .int 0, .int 0, .int 0, .null, .null, .long 0]))] H := hP
  have hD : va_D (fun q : Nat => s.heap.size ≤ q) [(q1, .inr (4, [.ref (u2 0), .ref (u2 2), .ref (u2 6), .ref (u2 8), .int 0, .int 0, .ref (u2 12), .ref (u2 14), .int 0, .ref (u2 18), .ref (u2 20), .int 0, .int 0])), ((u2 0), .inr (1, [.ref (u2 1), .int 0])), ((u2 1), .inl (cI, 30, .inl (fun _ => 0))), ((u2 2), .inr (0, [.ref (u2 3), .ref (u2 4), .ref (u2 5), .int 0])), ((u2 3), .inl (cI, 7, .inl (fun _ => 0))), ((u2 4), .inl (cI, 7, .inl (fun _ => 0))), ((u2 5), .inl (cI, 7, .inl (fun _ => 0))), ((u2 6), .inr (2, [.ref (u2 2), .ref (u2 7), .int 0])), ((u2 7), .inl (cI, 5, .inl (fun _ => 0))), ((u2 8), .inr (3, [.ref (u2 2), .ref (u2 9), .ref (u2 10), .ref (u2 11), .int 0])), ((u2 9), .inl (cI, 8, .inl (fun _ => 0))), ((u2 10), .inl (cI, 8, .inl (fun _ => 0))), ((u2 11), .inl (cZ, 8, .inl (fun _ => 0))), ((u2 12), .inr (2, [.ref (u2 2), .ref (u2 13), .int 0])), ((u2 13), .inl (cI, 5, .inl (fun _ => 0))), ((u2 14), .inr (3, [.ref (u2 2), .ref (u2 15), .ref (u2 16), .ref (u2 17), .int 0])), ((u2 15), .inl (cI, 8, .inl (fun _ => 0))), ((u2 16), .inl (cI, 8, .inl (fun _ => 0))), ((u2 17), .inl (cZ, 8, .inl (fun _ => 0))), ((u2 18), .inr (2, [.ref (u2 2), .ref (u2 19), .int 0])), ((u2 19), .inl (cI, 5, .inl (fun _ => 0))), ((u2 20), .inr (2, [.ref (u2 2), .ref (u2 21), .int 0])), ((u2 21), .inl (cI, 5, .inl (fun _ => 0))), (q3, .inr (5, [.null, .int 0, .int 0, .int 0, .int 0, .null, .null, .int 0, .int 0, .null, .null, .int 0, .null, .int 0, .int 0, .int 0, .int 0, .int 0, .null, .null, .long 0]))] := hD
  refine lv_dup hx hb dL_law_11 rfl ?_
  refine br_kc (Y := mL_law) (n := 0) (i := 23) (isR := [0, 1, 2, 3, 4, 5, 6, 7, 8, 9, 10, 11, 12, 13, 14, 15, 16, 17, 18, 19, 20, 21, 22]) (wr := [(q1, .inr (4, [.ref (u2 0), .ref (u2 2), .ref (u2 6), .ref (u2 8), .int 0, .int 0, .ref (u2 12), .ref (u2 14), .int 0, .ref (u2 18), .ref (u2 20), .int 0, .int 0])), ((u2 0), .inr (1, [.ref (u2 1), .int 0])), ((u2 1), .inl (cI, 30, .inl (fun _ => 0))), ((u2 2), .inr (0, [.ref (u2 3), .ref (u2 4), .ref (u2 5), .int 0])), ((u2 3), .inl (cI, 7, .inl (fun _ => 0))), ((u2 4), .inl (cI, 7, .inl (fun _ => 0))), ((u2 5), .inl (cI, 7, .inl (fun _ => 0))), ((u2 6), .inr (2, [.ref (u2 2), .ref (u2 7), .int 0])), ((u2 7), .inl (cI, 5, .inl (fun _ => 0))), ((u2 8), .inr (3, [.ref (u2 2), .ref (u2 9), .ref (u2 10), .ref (u2 11), .int 0])), ((u2 9), .inl (cI, 8, .inl (fun _ => 0))), ((u2 10), .inl (cI, 8, .inl (fun _ => 0))), ((u2 11), .inl (cZ, 8, .inl (fun _ => 0))), ((u2 12), .inr (2, [.ref (u2 2), .ref (u2 13), .int 0])), ((u2 13), .inl (cI, 5, .inl (fun _ => 0))), ((u2 14), .inr (3, [.ref (u2 2), .ref (u2 15), .ref (u2 16), .ref (u2 17), .int 0])), ((u2 15), .inl (cI, 8, .inl (fun _ => 0))), ((u2 16), .inl (cI, 8, .inl (fun _ => 0))), ((u2 17), .inl (cZ, 8, .inl (fun _ => 0))), ((u2 18), .inr (2, [.ref (u2 2), .ref (u2 19), .int 0])), ((u2 19), .inl (cI, 5, .inl (fun _ => 0))), ((u2 20), .inr (2, [.ref (u2 2), .ref (u2 21), .int 0])), ((u2 21), .inl (cI, 5, .inl (fun _ => 0)))]) (c_X5_init q3) hx hb hml hown hts hK hN rfl rfl rfl (Or.inl (br_W0_in (i := 471) (by decide +kernel) (by decide +kernel))) (br_W0_in (i := 43) (by decide +kernel) (by decide +kernel)) (br_W0_in (i := 473) (by decide +kernel) (by decide +kernel)) (br_W0_in (i := 472) (by decide +kernel) (by decide +kernel)) rfl (by decide +kernel) ⟨Nat.le_of_ble_eq_true rfl, Nat.le_of_ble_eq_true rfl⟩ rfl hl (Nat.le_of_ble_eq_true rfl) dL_law_12 ⟨by omega, by omega⟩ hP hD hS hA rfl rfl (by decide) (by decide) (fun u4 H locs hP hD hS => ?_)
  have hP : va_P D vwCl [(q1, .inr (4, [.ref (u2 0), .ref (u2 2), .ref (u2 6), .ref (u2 8), .int 0, .int 0, .ref (u2 12), .ref (u2 14), .int 0, .ref (u2 18), .ref (u2 20), .int 0, .int 0])), ((u2 0), .inr (1, [.ref (u2 1), .int 0])), ((u2 1), .inl (cI, 30, .inl (fun _ => 0))), ((u2 2), .inr (0, [.ref (u2 3), .ref (u2 4), .ref (u2 5), .int 0])), ((u2 3), .inl (cI, 7, .inl (fun _ => 0))), ((u2 4), .inl (cI, 7, .inl (fun _ => 0))), ((u2 5), .inl (cI, 7, .inl (fun _ => 0))), ((u2 6), .inr (2, [.ref (u2 2), .ref (u2 7), .int 0])), ((u2 7), .inl (cI, 5, .inl (fun _ => 0))), ((u2 8), .inr (3, [.ref (u2 2), .ref (u2 9), .ref (u2 10), .ref (u2 11), .int 0])), ((u2 9), .inl (cI, 8, .inl (fun _ => 0))), ((u2 10), .inl (cI, 8, .inl (fun _ => 0))), ((u2 11), .inl (cZ, 8, .inl (fun _ => 0))), ((u2 12), .inr (2, [.ref (u2 2), .ref (u2 13), .int 0])), ((u2 13), .inl (cI, 5, .inl (fun _ => 0))), ((u2 14), .inr (3, [.ref (u2 2), .ref (u2 15), .ref (u2 16), .ref (u2 17), .int 0])), ((u2 15), .inl (cI, 8, .inl (fun _ => 0))), ((u2 16), .inl (cI, 8, .inl (fun _ => 0))), ((u2 17), .inl (cZ, 8, .inl (fun _ => 0))), ((u2 18), .inr (2, [.ref (u2 2), .ref (u2 19), .int 0])), ((u2 19), .inl (cI, 5, .inl (fun _ => 0))), ((u2 20), .inr (2, [.ref (u2 2), .ref (u2 21), .int 0])), ((u2 21), .inl (cI, 5, .inl (fun _ => 0))), (q3, .inr (5, [.ref (u4 0), .int 0, .int 0, .int 0, .int 0, .ref (u4 1), .ref (u4 2), .int 0, .int 0, .ref (u4 3), .ref (u4 4), .int 0, .ref (u4 5), .int 0, .int (-1), .int 0, .int 0, .int 0, .ref (u4 6), .ref (u4 7), .long 0])), ((u4 0), .inl (cI, 30, .inl (fun _ => 0))), ((u4 1), .inl (cI, 21, .inl (fun _ => 0))), ((u4 2), .inl (cI, 5, .inl (fun _ => 0))), ((u4 3), .inl (cI, 5, .inl (fun _ => 0))), ((u4 4), .inl (cI, 5, .inl (fun _ => 0))), ((u4 5), .inl (cI, 24, .inl (fun _ => 0))), ((u4 6), .inl (cI, 5, .inl (fun _ => 0))), ((u4 7), .inl (cI, 24, .inl (fun _ => 0)))] H := hP
  have hD : va_D (fun q : Nat => s.heap.size ≤ q) [(q1, .inr (4, [.ref (u2 0), .ref (u2 2), .ref (u2 6), .ref (u2 8), .int 0, .int 0, .ref (u2 12), .ref (u2 14), .int 0, .ref (u2 18), .ref (u2 20), .int 0, .int 0])), ((u2 0), .inr (1, [.ref (u2 1), .int 0])), ((u2 1), .inl (cI, 30, .inl (fun _ => 0))), ((u2 2), .inr (0, [.ref (u2 3), .ref (u2 4), .ref (u2 5), .int 0])), ((u2 3), .inl (cI, 7, .inl (fun _ => 0))), ((u2 4), .inl (cI, 7, .inl (fun _ => 0))), ((u2 5), .inl (cI, 7, .inl (fun _ => 0))), ((u2 6), .inr (2, [.ref (u2 2), .ref (u2 7), .int 0])), ((u2 7), .inl (cI, 5, .inl (fun _ => 0))), ((u2 8), .inr (3, [.ref (u2 2), .ref (u2 9), .ref (u2 10), .ref (u2 11), .int 0])), ((u2 9), .inl (cI, 8, .inl (fun _ => 0))), ((u2 10), .inl (cI, 8, .inl (fun _ => 0))), ((u2 11), .inl (cZ, 8, .inl (fun _ => 0))), ((u2 12), .inr (2, [.ref (u2 2), .ref (u2 13), .int 0])), ((u2 13), .inl (cI, 5, .inl (fun _ => 0))), ((u2 14), .inr (3, [.ref (u2 2), .ref (u2 15), .ref (u2 16), .ref (u2 17), .int 0])), ((u2 15), .inl (cI, 8, .inl (fun _ => 0))), ((u2 16), .inl (cI, 8, .inl (fun _ => 0))), ((u2 17), .inl (cZ, 8, .inl (fun _ => 0))), ((u2 18), .inr (2, [.ref (u2 2), .ref (u2 19), .int 0])), ((u2 19), .inl (cI, 5, .inl (fun _ => 0))), ((u2 20), .inr (2, [.ref (u2 2), .ref (u2 21), .int 0])), ((u2 21), .inl (cI, 5, .inl (fun _ => 0))), (q3, .inr (5, [.ref (u4 0), .int 0, .int 0, .int 0, .int 0, .ref (u4 1), .ref (u4 2), .int 0, .int 0, .ref (u4 3), .ref (u4 4), .int 0, .ref (u4 5), .int 0, .int (-1), .int 0, .int 0, .int 0, .ref (u4 6), .ref (u4 7), .long 0])), ((u4 0), .inl (cI, 30, .inl (fun _ => 0))), ((u4 1), .inl (cI, 21, .inl (fun _ => 0))), ((u4 2), .inl (cI, 5, .inl (fun _ => 0))), ((u4 3), .inl (cI, 5, .inl (fun _ => 0))), ((u4 4), .inl (cI, 5, .inl (fun _ => 0))), ((u4 5), .inl (cI, 24, .inl (fun _ => 0))), ((u4 6), .inl (cI, 5, .inl (fun _ => 0))), ((u4 7), .inl (cI, 24, .inl (fun _ => 0)))] := hD
  refine lv_astore_n (lv' := [(2, .ref q3), (1, .ref q1), (0, .ref b)]) hx hb dL_law_15 rfl hl (by decide) rfl (fun ls hl => ?_)
  refine lv_iconst (v := 0) hx hb dL_law_16 (by decide) ?_
  refine lv_istore_n (lv' := [(3, .int 0), (2, .ref q3), (1, .ref q1), (0, .ref b)]) hx hb dL_law_17 rfl hl (by decide) rfl (fun ls hl => ?_)
  let ad : Nat → Nat := fun k => ([q1, (u2 0), (u2 1), (u2 2), (u2 3), (u2 4), (u2 5), (u2 6), (u2 7), (u2 12), (u2 13), (u2 18), (u2 19), (u2 20), (u2 21), (u2 8), (u2 9), (u2 10), (u2 11), (u2 14), (u2 15), (u2 16), (u2 17), q3, (u4 0), (u4 1), (u4 2), (u4 3), (u4 4), (u4 5), (u4 6), (u4 7), b] : List Nat).getD k 0
  have hP9 : va_P D vwCl (br_W cI cZ ad br_w0) H := hP.sub (ws' := br_W cI cZ ad br_w0) [0, 1, 2, 3, 4, 5, 6, 7, 8, 13, 14, 19, 20, 21, 22, 9, 10, 11, 12, 15, 16, 17, 18, 23, 24, 25, 26, 27, 28, 29, 30, 31] rfl
  have hD9 : va_D (fun q : Nat => s.heap.size ≤ q) (br_W cI cZ ad br_w0) := hD.sub (ws' := br_W cI cZ ad br_w0) [0, 1, 2, 3, 4, 5, 6, 7, 8, 13, 14, 19, 20, 21, 22, 9, 10, 11, 12, 15, 16, 17, 18, 23, 24, 25, 26, 27, 28, 29, 30, 31] (by decide) rfl
  have hl9 : lv_has ls 4 (br_asc ad 0 [some (br_r 32), some (br_r 0), some (br_r 23), some (br_i (br_J (0 : Nat)))]) := lv_sub hl [3, 2, 1, 0] rfl
  refine ((?_ : (fun (pc : Nat) (Lo : List (Option br_V)) (st : List br_V) (τ : br_Wd) => ∀ (H : Heap) (locs : List Loc) (ls : Array Slot), va_P D vwCl (br_W cI cZ ad τ) H → va_S (fun q : Nat => s.heap.size ≤ q) s.heap H locs → lv_has ls 4 (br_asc ad 0 Lo) → W p l e room_1 s m #[Value.ref b] below meth c H locs 32 300 (lw_Z below #[Value.ref b] s) (F0 m pc ls (st.map (br_av ad)))) 18 [some (br_r 32), some (br_r 0), some (br_r 23), some (br_i (br_J (0 : Nat)))] [] br_w0)) H locs ls hP9 hS hl9
  refine law_loop (P := fun v _ => v = some (br_i (br_J 1))) (Ls := L) (xs := xs) ⟨p, l, e, room_1, s, m, _, below, meth, c, 32, 300, _, D, cI, cZ, ad, _, s.heap, ⟨⟨hx, hb, hml, hown, hts⟩, ⟨hK, fun τ => br_D_all hD9 τ, hA, hN⟩, ⟨by omega, by omega, hRc, hRs⟩, ?_, fun pc Lo st τ => Iff.rfl⟩, hX, hbl, hbA⟩ hL (fun τ => rfl) L 0 br_w0 br_A0 (by omega) (Nat.zero_le _) br_CR0 br_MR0 br_Aok0 (Nat.zero_le _)
  rintro v τ H1 locs1 pc1 ls1 rfl hP1 hS1 hret
  refine va_forget (fun q hq => hS1.2.2 q hq) ?_
  exact lw_ret hx hb hr hlocks hret.2
set_option maxHeartbeats 4000000 in
theorem lw_walk (l : Launch) (hflags : l.flags = flags0) (b : Addr) (xs : List Int32) : MetFree l x (headSpec (Jvm.Cond.code x code maxLocals ret :: tables_1) room_1) (lw_P b xs) (fun _ _ _ _ _ => True) lw_Q := by
  refine MetFree.of_bodyS (code := code) (maxLocals := maxLocals) (ret := ret) (by decide) ?_ ?_
  · intro args s m h hn
    obtain ⟨meth, c, h1, h2, h3, h4, h5, h6, -, -⟩ := Cond.code_spec hn (atoms_spec (ws := Jvm.Cond.code x code maxLocals ret :: tables_1) h _ List.mem_cons_self)
    exact ⟨meth, c, h1, h2, h3, h4, h5, h6⟩
  · intro p e s m args below meth c s₁ B hml0 hP _
    obtain ⟨rfl, hx, hbd, hgv⟩ := hP
    obtain ⟨scr, harrAt, hlist, hof, hsmall⟩ := hx
    obtain ⟨hcb, hkn, -, -⟩ := State.arrayAt?_spec harrAt
    have hown : s.vm.findClass R_law = some m.cls := findClass_of_methodNamed B.named
    have hts0 : ∀ c ∈ (Jvm.Cond.code x code maxLocals ret :: tables_1), c.before #[Value.ref b] s = true := atoms_spec (ws := Jvm.Cond.code x code maxLocals ret :: tables_1) B.pre
    have hts : ∀ w ∈ lw_tbl, w.before #[Value.ref b] s = true := k2_hts_sels lw_privs (fun w hw => hts0 w (List.mem_cons_of_mem _ hw)) lw_privs_ok
    have hml : c.maxLocals = 4 := B.maxLocals_eq (hts0 _ List.mem_cons_self)
    have X₀ : Stand p l e room_1 s m #[Value.ref b] below meth c s₁ [] 0 0 := Stand.of_body B
    have hh0 : s₁.heap = s.heap := by rw [B.state]; rfl
    have hsz : scr.slots.size = xs.length := by rw [← Array.length_toList, hlist, List.length_map]
    have hval : ∀ j : Nat, j < xs.length → scr.slots[j]? = some (.int (xs.getD j 0)) := fun j hj => by
      rw [← Array.getElem?_toList, hlist]
      simp [hj]
    have hbl : b < s.heap.size := (Array.getElem?_eq_some_iff.mp hcb).1
    have hX : va_X b xs.length (fun j => xs.getD j 0) s s.heap := ⟨scr, hcb, hof, hkn, hsz, hval⟩
    have K : W p l e room_1 s m #[Value.ref b] below meth c s₁.heap [] 0 0 (lw_Z below #[Value.ref b] s) (entryFrame m ([Value.ref b] : List Value).toArray 4) := by
      rw [hh0]
      exact whole_start l hflags hbd ⟨B.exec, B.bytes, B.returns, hml, hown, hts, hX, hbl, B.notSynchronized, hgv⟩
    obtain ⟨t, a1, o, b1, b2, b3⟩ := K s₁ rfl X₀
    exact ⟨t, o, a1, b1, b2, b3⟩
theorem lw_pre_spec {args : Array Value} {s : State} (h : (Jvm.Cond.and given_1 narrow_1).before args s = true) (hr : rest_1_c.before args s = true) : ∃ (b : Addr) (xs : List Int32), lw_P b xs args s := by
  have hs := flat_of_before _ h
  have hq := flat_of_before _ hr
  have hc : (Cond.count 1).before args s = true := hs _ (by decide +kernel)
  have harr : (Cond.arrayOf (.arg 0) .int).before args s = true := hs _ (by decide +kernel)
  have hle : (Cond.le (.length (.arg 0)) (.int 2048)).before args s = true := hs _ (by decide +kernel)
  have hlen : (Cond.isInt (.length (.arg 0))).before args s = true := hq _ (by decide +kernel)
  have hall : (Cond.all (.arg 0) (.isInt (.elem (.arg 0) (.index 0)))).before args s = true := hq _ (by decide +kernel)
  obtain ⟨b, xs, hb, hx⟩ := State.ints_of_pre rfl harr hlen hall
  have hsm : xs.length < 2 ^ 31 := hx.choose_spec.2.2.2
  have hev : (Term.length (.arg 0)).eval args s none [] s = some (.int xs.length.toInt32) := hx.length_eval hb
  have hv := Cond.le_ints hev (show (Term.int 2048).eval args s none [] s = some (.int 2048) from rfl)
  have hd : xs.length.toInt32 ≤ 2048 := by
    simpa [Cond.before, Cond.holds, hv] using hle
  have hN : xs.length ≤ 2048 := (Int32.ofNat_le_ofNat hsm (by decide)).mp (show Int32.ofNat xs.length ≤ Int32.ofNat 2048 from hd)
  exact ⟨b, xs, Cond.one_arg hc (show args[0]? = some (.ref b) from hb), hx, hN, h⟩
theorem lw_comes (l : Launch) (hflags : l.flags = flags0) : Comes l x (Jvm.Cond.code x code maxLocals ret :: tables_1) room_1 (fun tb e args s => Calls_1 tb e args s ∧ rest_1 tb e args s ∧ Pre_1 tb e args s)
    (fun _ _ args s o t => lw_Q args s o t) := by
  intro p e ha hc hk s m args below hf hfit hheap happ hpre
  obtain ⟨b, xs, hP⟩ := lw_pre_spec hpre.2.2 hpre.2.1
  obtain ⟨k, o, h1, h2, h3, hQ⟩ := lw_walk l hflags b xs p e ha hc hk s m args below hf ((Spec.applies_iff_loose hf).mp happ).1 hP trivial
  exact ⟨k, o, h1, h2, h3, hQ⟩
theorem lw_frame {s t : State} {o : Outcome} {args : Array Value} (h : Framed s o t [] 32 300) :
    Framed s o t (fieldLocs frame_1_writes args s ++ arrayLocs frame_1_arrays args s ++ staticLocs frame_1_statics s) 32 300 := h
theorem lw_limb (L : Cond) (hL : ∀ (args : Array Value) (s t : State), L.after args s (.returned (some (.int 1))) t = true) :
    ArmFor flags0 classFile x code maxLocals ret World_1 tables_1 room_1 Calls_1 rest_1 Pre_1
      (fun tb e a s o t => postC L tb e a s o t ∧ Framed s o t (fieldLocs frame_1_writes a s ++ arrayLocs frame_1_arrays a s ++ staticLocs frame_1_statics s) 32 300) := by
  intro l hflags _ _ p e ha hc hk s m args below hf hfit hheap happ hpre
  obtain ⟨k, o, h1, h2, h3, rfl, hF⟩ := lw_comes l hflags p e ha hc hk s m args below hf hfit hheap happ hpre
  exact ⟨k, _, h1, h2, h3, hL args s _, lw_frame hF⟩
theorem i_vc : Claimed_1_1 ∧ Claimed_1_2 := ⟨lw_limb limb_1_1 (fun args s t => by simp [limb_1_1, Cond.after, Cond.holds, Cond.value]), lw_limb limb_1_2 (fun args s t => Cond.after_iff.mpr (by
  first | (rw [show limb_1_2 = Cond.eq .result (.int 1) from rfl, Cond.eq_ints (x := 1) (y := 1) rfl rfl]; simp; done) | (simp [limb_1_2, Cond.value, Term.eval]; done)))⟩
