/-! THE CLAIM OUT OF ONE WALK OF THE LAW'S BODY. Your part is whole_start (and what it stands on); all else here is the same for every law, but numbers. -/
def R_law : String := "BarRoutineLaw"
def lw_P (b : Addr) (xs : List Int32) (args : Array Value) (s : State) : Prop := args = #[.ref b] ∧ s.IntsAt b xs ∧ xs.length ≤ 2048 ∧ (Jvm.Cond.and given_1 narrow_1).before args s = true
def lw_Q (_ : Array Value) (s : State) (o : Outcome) (t : State) : Prop := o = .returned (some (.int 1)) ∧ Framed s o t [] 32 300
def lw_Z (below : List Frame) (a : Array Value) (s : State) : State → Prop := fun t => ∃ o, t.status = .running ∧ Ended t below o ∧ lw_Q a s o t
/-- the law's own end, with 1 on the stack, nothing written that was there before, its room as the claim has it -/
theorem lw_ret {p : Program} {l : Launch} {e : Env} {s : State} {m : MethodId} {below : List Frame} {meth : Method} {c : Code} {b : Nat} (hx : p.tables.exec = Jvm.exec) (hb : c.code = code) (hr : meth.sig.returnType = ret) (hlocks : meth.locks = false) {pc : Nat} {H : Heap} {ls : Array Slot} (hdg : decode code pc = .ok (.ireturn, 1)) : W p l e room_1 s m #[Value.ref b] below meth c H [] 32 300 (lw_Z below #[Value.ref b] s) (F0 m pc ls [.int 1]) := by
  intro T hT X
  obtain ⟨fs, hret, hrun, hended, hW, hframe⟩ := X.leave (v := some (.int 1)) (hlocks := hlocks) (fun h => by rw [hr] at h; cases h)
  have hmeth' : T.vm.method? m = some meth := X.method'
  refine ⟨T.setFrames fs, ?_, .returned (some (.int 1)), hrun, hended, rfl, ⟨_, rfl⟩, hW, hframe⟩
  jvm_step X.here [X.here.top, hx, hb, hdg, hmeth', hr, ret, narrow_b1]
  (try refine ⟨rfl, ?_⟩); (try refine ⟨rfl, ?_⟩)
  first | (intro acts; rw [hret _ acts rfl rfl rfl]) | rw [hret _ _ rfl rfl rfl]
  exact Steps.refl _
/-- what holds at the law's entry: the machine, the code, the tables' words (any of lw_tbl by 'hts w (by decide +kernel)'), the script of L ints xs at the cell b, what the Statement gives of the start (any of its parts by flat_of_before) -/
def lw_At (p : Program) (s : State) (m : MethodId) (meth : Method) (c : Code) (b L : Nat) (xs : Nat → Int32) : Prop :=
  p.tables.exec = Jvm.exec ∧ c.code = code ∧ meth.sig.returnType = ret ∧ c.maxLocals = 4 ∧ s.vm.findClass R_law = some m.cls ∧ (∀ w ∈ lw_tbl, w.before #[Value.ref b] s = true) ∧ va_X b L xs s s.heap ∧ b < s.heap.size ∧ meth.locks = false ∧ (Jvm.Cond.and given_1 narrow_1).before #[Value.ref b] s = true
-- the state stays a state
def br_An (A : br_A) : Nat := A.2.2.2.2.2.1
theorem br_good_letter {A : br_A} (h : br_Aok A) (z : Int) : br_Aok (br_sLetter A z).2 ∧ br_An (br_sLetter A z).2 = br_An A := by
  obtain ⟨w, g, r, c, t, n, b, kp, r2, c2, t2⟩ := A
  unfold br_sLetter
  dsimp only
  split
  · exact ⟨h, rfl⟩
  · split
    · exact ⟨h, rfl⟩
    · rename_i h1 h2
      obtain ⟨⟨hw, hg⟩, hh⟩ := h
      refine ⟨⟨⟨⟨by show w.1 + 1 ≤ 30; omega, fun j hj => ?_⟩, hg⟩, hh⟩, rfl⟩
      have hj2 : j < w.1 + 1 := hj
      show 1 ≤ (if j = w.1 then z else w.2 j) ∧ (if j = w.1 then z else w.2 j) ≤ 126
      by_cases q : j = w.1
      · rw [if_pos q]; omega
      · rw [if_neg q]; exact hw.2 j (by omega)
theorem br_good_blank {A : br_A} (h : br_Aok A) : br_Aok (br_sBlank A).2 ∧ br_An (br_sBlank A).2 = br_An A := by
  obtain ⟨w, g, r, c, t, n, b, kp, r2, c2, t2⟩ := A
  obtain ⟨⟨hw, hg⟩, hh⟩ := h
  exact ⟨⟨⟨⟨Nat.zero_le _, fun j hj => absurd hj (Nat.not_lt_zero j)⟩, hg⟩, hh⟩, rfl⟩
theorem br_good_gym {A : br_A} (h : br_Aok A) (hn : br_An A + 1 ≤ 512) : br_Aok (br_sGym A).2 ∧ br_An (br_sGym A).2 ≤ br_An A + 1 := by
  obtain ⟨w, g, r, c, t, n, b, kp, r2, c2, t2⟩ := A
  unfold br_sGym
  dsimp only
  split
  · rename_i ht
    obtain ⟨⟨hw, hg, hr, hto⟩, ⟨hb, _⟩, hi⟩ := h
    have z0 : ∀ j : Nat, j < 0 → False := fun j hj => Nat.not_lt_zero j hj
    exact ⟨⟨⟨⟨Nat.zero_le _, fun j hj => (z0 j hj).elim⟩, br_gy_ok ht, ⟨Nat.zero_le _, fun j hj => (z0 j hj).elim, fun i j hi => (z0 i hi).elim⟩, ⟨Nat.zero_le _, fun j hj => (z0 j hj).elim⟩⟩, ⟨hb, hn⟩, fun q => absurd q (by decide)⟩, Nat.le_refl _⟩
  · exact ⟨h, Nat.le_succ _⟩
theorem br_good_put {A : br_A} (h : br_Aok A) (z : Int) : br_Aok (br_sPut A z).2 ∧ br_An (br_sPut A z).2 = br_An A := by
  obtain ⟨w, g, r, c, t, n, b, kp, r2, c2, t2⟩ := A
  unfold br_sPut
  dsimp only
  split
  · exact ⟨h, rfl⟩
  · split
    · exact ⟨h, rfl⟩
    · split
      · exact ⟨h, rfl⟩
      · rename_i h1 h2 h3
        obtain ⟨⟨hw, hg, hr, ht⟩, hh⟩ := h
        have ez : ((z.toNat : Nat) : Int) = z := by omega
        exact ⟨⟨⟨hw, hg, br_Rok_app hr (by omega) (by rw [ez]; exact Decidable.not_not.mp h2) (by omega), ht⟩, hh⟩, rfl⟩
theorem br_Rok_rem {g : br_Gy} {r : br_Ro} (hr : br_Rok g r) (k : Nat) : br_Rok g (br_rem r k) := by
  refine ⟨by show r.1 - 1 ≤ 5; have := hr.1; omega, fun j hj => ?_, fun i j hi hj e => ?_⟩
  · have hj2 : j < r.1 - 1 := hj
    show (if j < k then r.2 j else r.2 (j + 1)) < g.1
    split
    · exact hr.2.1 j (by omega)
    · exact hr.2.1 (j + 1) (by omega)
  · have hi2 : i < r.1 - 1 := hi
    have hj2 : j < r.1 - 1 := hj
    have e2 : (if i < k then r.2 i else r.2 (i + 1)) = (if j < k then r.2 j else r.2 (j + 1)) := e
    by_cases h1 : i < k <;> by_cases h2 : j < k
    · rw [if_pos h1, if_pos h2] at e2; exact hr.2.2 i j (by omega) (by omega) e2
    · rw [if_pos h1, if_neg h2] at e2; have := hr.2.2 i (j + 1) (by omega) (by omega) e2; omega
    · rw [if_neg h1, if_pos h2] at e2; have := hr.2.2 (i + 1) j (by omega) (by omega) e2; omega
    · rw [if_neg h1, if_neg h2] at e2; have := hr.2.2 (i + 1) (j + 1) (by omega) (by omega) e2; omega
theorem br_good_take {A : br_A} (h : br_Aok A) (z : Int) : br_Aok (br_sTake A z).2 ∧ br_An (br_sTake A z).2 = br_An A := by
  obtain ⟨w, g, r, c, t, n, b, kp, r2, c2, t2⟩ := A
  unfold br_sTake
  dsimp only
  split
  · exact ⟨h, rfl⟩
  · obtain ⟨⟨hw, hg, hr, ht⟩, hh⟩ := h
    exact ⟨⟨⟨hw, hg, br_Rok_rem hr _, ht⟩, hh⟩, rfl⟩
theorem br_Rok_swp {g : br_Gy} {r : br_Ro} (hr : br_Rok g r) {a b : Nat} (ha : a < r.1) (hb : b < r.1) : br_Rok g (br_swp r a b) := by
  have key : ∀ j : Nat, j < r.1 → ∃ k : Nat, k < r.1 ∧ (br_swp r a b).2 j = r.2 k ∧ k = (if j = b then a else if j = a then b else j) := by
    intro j hj
    show ∃ k : Nat, k < r.1 ∧ (if j = b then r.2 a else if j = a then r.2 b else r.2 j) = r.2 k ∧ k = (if j = b then a else if j = a then b else j)
    by_cases q : j = b
    · exact ⟨a, ha, by rw [if_pos q], by rw [if_pos q]⟩
    · by_cases q2 : j = a
      · exact ⟨b, hb, by rw [if_neg q, if_pos q2], by rw [if_neg q, if_pos q2]⟩
      · exact ⟨j, hj, by rw [if_neg q, if_neg q2], by rw [if_neg q, if_neg q2]⟩
  refine ⟨hr.1, fun j hj => ?_, fun i j hi hj e => ?_⟩
  · obtain ⟨k, h1, h2, _⟩ := key j hj
    rw [h2]; exact hr.2.1 k h1
  · obtain ⟨k, h1, h2, h3⟩ := key i hi
    obtain ⟨k', h1', h2', h3'⟩ := key j hj
    rw [h2, h2'] at e
    have := hr.2.2 k k' h1 h1' e
    rw [h3, h3'] at this
    revert this
    split <;> split <;> (try split) <;> (try split) <;> omega
theorem br_good_swap {A : br_A} (h : br_Aok A) (x y : Int) : br_Aok (br_sSwap A x y).2 ∧ br_An (br_sSwap A x y).2 = br_An A := by
  obtain ⟨w, g, r, c, t, n, b, kp, r2, c2, t2⟩ := A
  unfold br_sSwap
  dsimp only
  split
  · exact ⟨h, rfl⟩
  · obtain ⟨⟨hw, hg, hr, ht⟩, hh⟩ := h
    exact ⟨⟨⟨hw, hg, br_Rok_swp hr (by omega) (by omega), ht⟩, hh⟩, rfl⟩
theorem br_good_best {A : br_A} (h : br_Aok A) (m k : Int) : br_Aok (br_sBest A m k).2 ∧ br_An (br_sBest A m k).2 = br_An A := by
  obtain ⟨w, g, r, c, t, n, b, kp, r2, c2, t2⟩ := A
  unfold br_sBest
  dsimp only
  split
  · exact ⟨h, rfl⟩
  · split
    · exact ⟨h, rfl⟩
    · obtain ⟨hh, ⟨hb, hn⟩, hi⟩ := h
      exact ⟨⟨hh, ⟨by omega, hn⟩, hi⟩, rfl⟩
theorem br_good_try {A : br_A} (h : br_Aok A) (z x : Int) {s : Nat} (hs : s ≤ 1) : br_Aok (br_sTry A z x s).2 ∧ br_An (br_sTry A z x s).2 = br_An A := by
  obtain ⟨w, g, r, c, t, n, b, kp, r2, c2, t2⟩ := A
  unfold br_sTry
  dsimp only
  split
  · exact ⟨h, rfl⟩
  · split
    · exact ⟨h, rfl⟩
    · split
      · exact ⟨h, rfl⟩
      · obtain ⟨⟨hw, hg, hr, ht⟩, hh⟩ := h
        refine ⟨⟨⟨hw, hg, hr, ⟨by show t.1 + 1 ≤ 8; omega, fun j hj => ?_⟩⟩, hh⟩, rfl⟩
        have hj2 : j < t.1 + 1 := hj
        show (if j = t.1 then z.toNat else t.2.1 j) < g.1 ∧ (if j = t.1 then x.toNat else t.2.2.1 j) ≤ 4 ∧ (if j = t.1 then s else t.2.2.2 j) ≤ 1
        by_cases q : j = t.1
        · rw [if_pos q, if_pos q, if_pos q]; omega
        · rw [if_neg q, if_neg q, if_neg q]; exact ht.2 j (by omega)
theorem br_good_forget {A : br_A} (h : br_Aok A) : br_Aok (br_sForget A).2 ∧ br_An (br_sForget A).2 = br_An A := by
  obtain ⟨w, g, r, c, t, n, b, kp, r2, c2, t2⟩ := A
  obtain ⟨⟨hw, hg, hr, ht⟩, hh⟩ := h
  exact ⟨⟨⟨hw, hg, hr, ⟨Nat.zero_le _, fun j hj => absurd hj (Nat.not_lt_zero j)⟩⟩, hh⟩, rfl⟩
theorem br_good_image {A : br_A} (h : br_Aok A) : br_Aok (br_sImage A).2 ∧ br_An (br_sImage A).2 = br_An A := by
  obtain ⟨w, g, r, c, t, n, b, kp, r2, c2, t2⟩ := A
  unfold br_sImage
  dsimp only
  split
  · exact ⟨h, rfl⟩
  · obtain ⟨⟨hw, hg, hr, ht⟩, hb, hi⟩ := h
    exact ⟨⟨⟨hw, hg, hr, ht⟩, hb, fun _ => ⟨hr, ht⟩⟩, rfl⟩
theorem br_good_restore {A : br_A} (h : br_Aok A) : br_Aok (br_sRestore A).2 ∧ br_An (br_sRestore A).2 = br_An A := by
  obtain ⟨w, g, r, c, t, n, b, kp, r2, c2, t2⟩ := A
  unfold br_sRestore
  dsimp only
  split
  · rename_i hk
    obtain ⟨⟨hw, hg, hr, ht⟩, hb, hi⟩ := h
    exact ⟨⟨⟨hw, hg, (hi hk).1, (hi hk).2⟩, hb, hi⟩, rfl⟩
  · exact ⟨h, rfl⟩
theorem br_MR.keep {σ τ : br_Wd} {A : br_A} (h : br_MR σ A) (e : ∀ p : Nat, 23 ≤ p → τ.1 p = σ.1 p) : br_MR τ A := by
  obtain ⟨w, g, r, c, t, n, b, kp, r2, c2, t2⟩ := A
  obtain ⟨⟨hw, hg, hr, ht⟩, ⟨h7, h11, h3, h4, h8⟩, ⟨x, hx, hxb, hk⟩, hi⟩ := h
  have e23 := e 23 (by omega)
  refine ⟨⟨hw.keep (by rw [e23]) (e 24 (by omega)), hg.keep (by rw [e23]) (e 25 (by omega)), hr.keep (e 26 (by omega)), ht.keep (e 29 (by omega))⟩, ⟨by rw [e23]; exact h7, by rw [e23]; exact h11, by rw [e23]; exact h3, by rw [e23]; exact h4, by rw [e23]; exact h8⟩, ⟨x, by rw [e23]; exact hx, hxb, hk⟩, fun q => ?_⟩
  obtain ⟨⟨a1, a2⟩, a3, a4, a5⟩ := hi q
  exact ⟨⟨a1.keep (e 30 (by omega)), a2.keep (e 31 (by omega))⟩, by rw [e23]; exact a3, by rw [e23]; exact a4, by rw [e23]; exact a5⟩
-- the law's own walk: the script lies at place 32
def br_OkL (Y : br_Y) (d : Nat) (P : br_post) (Ls : Nat) (xs : Nat → Int32) (G : br_Jg) : Prop :=
  ∃ (p : Program) (l : Launch) (e : Env) (R : Room) (s : State) (m : MethodId) (args : Array Value) (below : List Frame) (meth : Method) (c : Code) (cells slots : Nat) (Q : State → Prop) (D : va_G) (cI cZ : ClassId) (ad : Nat → Nat) (A : Nat → Prop) (H0 : Heap),
    ((p.tables.exec = Jvm.exec ∧ c.code = Y.2.1 ∧ c.maxLocals = Y.2.2.1 ∧ s.vm.findClass Y.1.cls = some m.cls ∧ (∀ w ∈ br_W0, w.before args s = true)) ∧
    (va_K D vwCl (br_tys cI cZ) s ∧ (∀ σ, va_D A (br_W cI cZ ad σ)) ∧ (∀ q, H0.size ≤ q → A q) ∧ br_N s) ∧ (d ≤ R.frames ∧ 29 * d ≤ R.locals ∧ cells ≤ R.cells ∧ slots ≤ R.slots) ∧
    (∀ (v : Option br_V) (τ : br_Wd) (H : Heap) (locs : List Loc) (pc : Nat) (ls : Array Slot), P v τ → va_P D vwCl (br_W cI cZ ad τ) H → va_S A H0 H locs → br_isret Y pc v → W p l e R s m args below meth c H locs cells slots Q (F0 m pc ls (v.map (br_av ad)).toList)) ∧
    ∀ pc L st σ, G pc L st σ ↔ ∀ (H : Heap) (locs : List Loc) (ls : Array Slot), va_P D vwCl (br_W cI cZ ad σ) H → va_S A H0 H locs → lv_has ls Y.2.2.1 (br_asc ad 0 L) → W p l e R s m args below meth c H locs cells slots Q (F0 m pc ls (st.map (br_av ad)))) ∧
    va_X (ad 32) Ls xs s H0 ∧ ad 32 < H0.size ∧ ¬ A (ad 32)
theorem br_OkL.ok {Y : br_Y} {d : Nat} {P : br_post} {Ls : Nat} {xs : Nat → Int32} {G : br_Jg} (C : br_OkL Y d P Ls xs G) : br_Ok Y d P G := by
  obtain ⟨p, l, e, R, s, m, args, below, meth, c, cells, slots, Q, D, cI, cZ, ad, A, H0, h, -⟩ := C
  exact ⟨p, l, e, R, s, m, args, below, meth, c, cells, slots, Q, D, cI, cZ, ad, A, H0, h⟩
theorem br_sldJ {Y : br_Y} {d : Nat} {P : br_post} {Ls : Nat} {xs : Nat → Int32} {G : br_Jg} (C : br_OkL Y d P Ls xs G) {z : Int} {x : Int32} {pc : Nat} {L : List (Option br_V)} {st : List br_V} {σ : br_Wd} (hn : Ls < 2147483648) (h0 : 0 ≤ z) (h1 : z < Ls) (hv : xs z.toNat = x) (hd : decode Y.2.1 pc = .ok (.iaload, 1)) (kk : G (pc + 1) L (br_i x :: st) σ) : G pc L (br_i (br_J z) :: br_r 32 :: st) σ := by
  obtain ⟨p, l, e, R, s, m, args, below, meth, c, cells, slots, Q, D, cI, cZ, ad, A, H0, ⟨⟨hx, hb, hml, hown, hts⟩, ⟨hK, hD, hA, hN⟩, hR, hfin, hG⟩, hX, hbl, hbA⟩ := C
  rw [hG] at kk ⊢
  intro H locs ls hP hS hl'
  refine va_sld hx hb hX hbl hbA hS (br_J_in h0 h1 hn) hd ?_
  rw [br_J_nat ⟨h0, by omega⟩, hv]
  exact kk H locs ls hP hS hl'
theorem br_slen {Y : br_Y} {d : Nat} {P : br_post} {Ls : Nat} {xs : Nat → Int32} {G : br_Jg} (C : br_OkL Y d P Ls xs G) {pc : Nat} {L : List (Option br_V)} {st : List br_V} {σ : br_Wd} (hd : decode Y.2.1 pc = .ok (.arraylength, 1)) (kk : G (pc + 1) L (br_i (br_J (Ls : Int)) :: st) σ) : G pc L (br_r 32 :: st) σ := by
  obtain ⟨p, l, e, R, s, m, args, below, meth, c, cells, slots, Q, D, cI, cZ, ad, A, H0, ⟨⟨hx, hb, hml, hown, hts⟩, ⟨hK, hD, hA, hN⟩, hR, hfin, hG⟩, hX, hbl, hbA⟩ := C
  rw [hG] at kk ⊢
  intro H locs ls hP hS hl'
  refine va_slen hx hb hX hbl hbA hS hd ?_
  rw [← Int32.ofInt_eq_ofNat]
  exact kk H locs ls hP hS hl'
theorem br_and31 (x : Int32) : ∃ z : Int, x &&& br_J 31 = br_J z ∧ 0 ≤ z ∧ z < 32 := by
  refine ⟨(x &&& br_J 31).toInt, br_J_of _, ?_⟩
  have e : (x &&& br_J 31).toBitVec = x.toBitVec &&& 31#32 := by rw [Int32.toBitVec_and]; rfl
  have hlt : ((x &&& br_J 31).toBitVec).toNat < 32 := by
    rw [e, BitVec.toNat_and, show (31#32 : BitVec 32).toNat = 2 ^ 5 - 1 from rfl, Nat.and_two_pow_sub_one_eq_mod]
    exact Nat.mod_lt _ (by decide)
  have e2 : (x &&& br_J 31).toInt = (((x &&& br_J 31).toBitVec).toNat : Int) := by
    show BitVec.toInt _ = _
    rw [BitVec.toInt_eq_toNat_of_lt (by omega)]
  omega
theorem br_cmp_self (h : Int64) : lg_cmp h h = 0 := by
  unfold lg_cmp
  rw [if_neg (by simp), if_pos rfl]
abbrev mL_law : br_Y := (yL_law, cL_law, 4, some .boolean)
theorem c_mfault {σ : br_Wd} {A : br_A} (hm : br_MR σ A) (hA : br_Aok A) : br_Met 3 mX5_fault [br_r 23] σ (br_R (br_J (br_vFault A)) σ) := by
  obtain ⟨w, g, r, c, t, n, b, kp, r2, c2, t2⟩ := A
  obtain ⟨⟨hw, _⟩, _⟩ := hm
  obtain ⟨⟨hwo, _⟩, _⟩ := hA
  exact c_X5_fault hw hwo.1 (fun j hj => by have := hwo.2 j hj; omega)

set_option maxHeartbeats 4000000 in
set_option maxRecDepth 100000 in
/-- THE LAW'S LOOP: class and model hold one state, whatever the script says -/
theorem law_loop {P : br_post} {Ls : Nat} {xs : Nat → Int32} {G : br_Jg} (CL : br_OkL mL_law 8 P Ls xs G) (hLs : Ls ≤ 2048) (hP1 : ∀ τ, P (some (br_i (br_J 1))) τ) : ∀ (m i : Nat) (σ : br_Wd) (A : br_A), Ls ≤ i + 4 * m → i ≤ Ls → br_CR σ A → br_MR σ A → br_Aok A → 4 * br_An A ≤ i → G 18 [some (br_r 32), some (br_r 0), some (br_r 23), some (br_i (br_J i))] [] σ := by
  have C := CL.ok
  intro m
  induction m with
  | zero =>
    intro i σ A him hi hc hm hA hn
    refine br_iload_n C dL_law_18 rfl rfl ?_
    refine br_aload_n C dL_law_19 rfl rfl ?_
    refine br_slen CL dL_law_20 ?_
    refine br_iconstJ C dL_law_21 ?_
    refine br_isubJ C dL_law_22 ?_
    refine br_icmp_gtJ C (by omega) (by omega) dL_law_23 (tgt := 685) (by decide) (fun c23 => ?_) (fun c23 => ?_)
    · refine br_iconstJ C dL_law_685 ?_
      exact br_zret C (by decide) rfl dL_law_686 (hP1 _)
    · omega
  | succ m ih =>
    intro i σ A him hi hc hm hA hn
    obtain ⟨zc, ec, hzc0, hzc1⟩ := br_and31 (xs i)
    refine br_iload_n C dL_law_18 rfl rfl ?_
    refine br_aload_n C dL_law_19 rfl rfl ?_
    refine br_slen CL dL_law_20 ?_
    refine br_iconstJ C dL_law_21 ?_
    refine br_isubJ C dL_law_22 ?_
    refine br_icmp_gtJ C (by omega) (by omega) dL_law_23 (tgt := 685) (by decide) (fun c23 => ?_) (fun c23 => ?_)
    · refine br_iconstJ C dL_law_685 ?_
      exact br_zret C (by decide) rfl dL_law_686 (hP1 _)
    · refine br_aload_n C dL_law_26 rfl rfl ?_
      refine br_iload_n C dL_law_27 rfl rfl ?_
      refine br_sldJ CL (by omega) (by omega) (by omega) (by rw [show ((i : Nat) : Int).toNat = i by omega]) dL_law_28 ?_
      refine br_bipushJ C (by decide) dL_law_29 ?_
      refine br_iandE C ec dL_law_31 ?_
      have h4 : i + 4 ≤ Ls := by omega
      obtain ⟨z1, e1, hz1⟩ := br_J_ex (xs (i + 1))
      obtain ⟨z2, e2, hz2⟩ := br_J_ex (xs (i + 2))
      obtain ⟨z3, e3, hz3⟩ := br_J_ex (xs (i + 3))
      have next : ∀ (σ2 : br_Wd) (A2 : br_A), br_CR σ2 A2 → br_MR σ2 A2 → br_Aok A2 → 4 * br_An A2 ≤ i + 4 → G 679 [some (br_r 32), some (br_r 0), some (br_r 23), some (br_i (br_J i))] [] σ2 := by
        intro σ2 A2 hc2 hm2 hA2 hn2
        refine br_iincJ C dL_law_679 rfl (by decide) rfl (L' := [_, _, _, _]) rfl ?_
        refine br_goto C dL_law_682 (tgt := 18) (by decide) ?_
        exact ih (i + 4) σ2 A2 (by omega) h4 hc2 hm2 hA2 hn2
      rcases (show (zc < 0 ∨ 21 < zc) ∨ zc = 0 ∨ zc = 1 ∨ zc = 2 ∨ zc = 3 ∨ zc = 4 ∨ zc = 5 ∨ zc = 6 ∨ zc = 7 ∨ zc = 8 ∨ zc = 9 ∨ zc = 10 ∨ zc = 11 ∨ zc = 12 ∨ zc = 13 ∨ zc = 14 ∨ zc = 15 ∨ zc = 16 ∨ zc = 17 ∨ zc = 18 ∨ zc = 19 ∨ zc = 20 ∨ zc = 21 by omega) with cs | rfl | rfl | rfl | rfl | rfl | rfl | rfl | rfl | rfl | rfl | rfl | rfl | rfl | rfl | rfl | rfl | rfl | rfl | rfl | rfl | rfl | rfl
      · refine br_tableOutJ C cs (by omega) dL_law_32 (tgt := 679) (by decide) ?_
        exact next _ A hc hm hA (by omega)
      · refine br_tableInJ C (by decide) (by decide) (by decide) dL_law_32 (off := 104) rfl (tgt := 136) (by decide) ?_
        refine br_aload_n C dL_law_136 rfl rfl ?_
        refine br_aload_n C dL_law_137 rfl rfl ?_
        refine br_iload_n C dL_law_138 rfl rfl ?_
        refine br_iconstJ C dL_law_139 ?_
        refine br_iaddJ C dL_law_140 ?_
        refine br_sldJ CL (by omega) (by omega) (by omega) (x := br_J z1) (by rw [show ((i : Int) + 1).toNat = i + 1 by omega]; exact e1) dL_law_141 ?_
        refine br_cv1 C vcL_13 (c_X4_letter hc hA z1 hz1) (by decide) rfl rfl (fun _ => Nat.le_of_ble_eq_true rfl) dL_law_142 (fun v142 τ142 hv => ?_)
        obtain ⟨rfl, hc1, hf1⟩ := hv
        have hm1 := hm.keep hf1.1
        refine br_aload_n C dL_law_145 rfl rfl ?_
        refine br_aload_n C dL_law_146 rfl rfl ?_
        refine br_iload_n C dL_law_147 rfl rfl ?_
        refine br_iconstJ C dL_law_148 ?_
        refine br_iaddJ C dL_law_149 ?_
        refine br_sldJ CL (by omega) (by omega) (by omega) (x := br_J z1) (by rw [show ((i : Int) + 1).toNat = i + 1 by omega]; exact e1) dL_law_150 ?_
        refine br_cv1 C vcL_17 (c_X5_letter hm1 hA z1 hz1) (by decide) rfl rfl (fun _ => Nat.le_of_ble_eq_true rfl) dL_law_151 (fun v151 τ151 hv => ?_)
        obtain ⟨rfl, hm2, hf2⟩ := hv
        have hc2 := hc1.keep (fun p hp _ => hf2 p hp)
        refine br_icmp_eq C dL_law_154 (tgt := 679) (by decide) (fun c154 => ?_) (fun c154 => ?_)
        · exact next _ (br_sLetter A z1).2 hc2 hm2 (br_good_letter hA z1).1 (by have := (br_good_letter hA z1).2; omega)
        · exact absurd rfl c154
      · refine br_tableInJ C (by decide) (by decide) (by decide) dL_law_32 (off := 127) rfl (tgt := 159) (by decide) ?_
        refine br_aload_n C dL_law_159 rfl rfl ?_
        refine br_cv0 C vcL_18 (c_X4_blank hc hA) (by decide) rfl rfl (fun _ => Nat.le_of_ble_eq_true rfl) dL_law_160 (fun v160 τ160 hv => ?_)
        obtain ⟨rfl, hc1, hf1⟩ := hv
        have hm1 := hm.keep hf1.1
        refine br_aload_n C dL_law_163 rfl rfl ?_
        refine br_cv0 C vcL_22 (c_X5_blank hm1 hA) (by decide) rfl rfl (fun _ => Nat.le_of_ble_eq_true rfl) dL_law_164 (fun v164 τ164 hv => ?_)
        obtain ⟨rfl, hm2, hf2⟩ := hv
        have hc2 := hc1.keep (fun p hp _ => hf2 p hp)
        refine br_icmp_eq C dL_law_167 (tgt := 679) (by decide) (fun c167 => ?_) (fun c167 => ?_)
        · exact next _ (br_sBlank A).2 hc2 hm2 (br_good_blank hA).1 (by have := (br_good_blank hA).2; omega)
        · exact absurd rfl c167
      · refine br_tableInJ C (by decide) (by decide) (by decide) dL_law_32 (off := 140) rfl (tgt := 172) (by decide) ?_
        refine br_aload_n C dL_law_172 rfl rfl ?_
        refine br_cv0 C vcL_23 (br_QC.of (c_X4_fault hc hA) hc) (by decide) rfl rfl (fun _ => Nat.le_of_ble_eq_true rfl) dL_law_173 (fun v173 τ173 hv => ?_)
        obtain ⟨rfl, hc1, hf1⟩ := hv
        have hm1 := hm.keep hf1.1
        refine br_aload_n C dL_law_176 rfl rfl ?_
        refine br_cv0 C vcL_26 (br_QM.of (c_mfault hm1 hA) hm1) (by decide) rfl rfl (fun _ => Nat.le_of_ble_eq_true rfl) dL_law_177 (fun v177 τ177 hv => ?_)
        obtain ⟨rfl, hm2, hf2⟩ := hv
        have hc2 := hc1.keep (fun p hp _ => hf2 p hp)
        refine br_icmp_eq C dL_law_180 (tgt := 679) (by decide) (fun c180 => ?_) (fun c180 => ?_)
        · exact next _ A hc2 hm2 hA (by omega)
        · exact absurd rfl c180
      · refine br_tableInJ C (by decide) (by decide) (by decide) dL_law_32 (off := 153) rfl (tgt := 185) (by decide) ?_
        refine br_aload_n C dL_law_185 rfl rfl ?_
        refine br_cv0 C vcL_27 (c_X4_gym hc hA) (by decide) rfl rfl (fun _ => Nat.le_of_ble_eq_true rfl) dL_law_186 (fun v186 τ186 hv => ?_)
        obtain ⟨rfl, hc1, hf1⟩ := hv
        have hm1 := hm.keep hf1.1
        refine br_aload_n C dL_law_189 rfl rfl ?_
        refine br_cv0 C vcL_30 (c_X5_gym hm1 hA) (by decide) rfl rfl (fun _ => Nat.le_of_ble_eq_true rfl) dL_law_190 (fun v190 τ190 hv => ?_)
        obtain ⟨rfl, hm2, hf2⟩ := hv
        have hc2 := hc1.keep (fun p hp _ => hf2 p hp)
        refine br_icmp_eq C dL_law_193 (tgt := 679) (by decide) (fun c193 => ?_) (fun c193 => ?_)
        · exact next _ (br_sGym A).2 hc2 hm2 (br_good_gym hA (by omega)).1 (by have := (br_good_gym hA (by omega)).2; omega)
        · exact absurd rfl c193
      · refine br_tableInJ C (by decide) (by decide) (by decide) dL_law_32 (off := 166) rfl (tgt := 198) (by decide) ?_
        refine br_aload_n C dL_law_198 rfl rfl ?_
        refine br_aload_n C dL_law_199 rfl rfl ?_
        refine br_iload_n C dL_law_200 rfl rfl ?_
        refine br_iconstJ C dL_law_201 ?_
        refine br_iaddJ C dL_law_202 ?_
        refine br_sldJ CL (by omega) (by omega) (by omega) (x := br_J z1) (by rw [show ((i : Int) + 1).toNat = i + 1 by omega]; exact e1) dL_law_203 ?_
        refine br_aload_n C dL_law_204 rfl rfl ?_
        refine br_iload_n C dL_law_205 rfl rfl ?_
        refine br_iconstJ C dL_law_206 ?_
        refine br_iaddJ C dL_law_207 ?_
        refine br_sldJ CL (by omega) (by omega) (by omega) (x := br_J z2) (by rw [show ((i : Int) + 2).toNat = i + 2 by omega]; exact e2) dL_law_208 ?_
        refine br_cv2 C vcL_31 (br_QC.of (c_X4_piece hc hA z1 hz1 z2 hz2) hc) (by decide) rfl rfl (fun _ => Nat.le_of_ble_eq_true rfl) dL_law_209 (fun v209 τ209 hv => ?_)
        obtain ⟨rfl, hc1, hf1⟩ := hv
        have hm1 := hm.keep hf1.1
        refine br_aload_n C dL_law_212 rfl rfl ?_
        refine br_aload_n C dL_law_213 rfl rfl ?_
        refine br_iload_n C dL_law_214 rfl rfl ?_
        refine br_iconstJ C dL_law_215 ?_
        refine br_iaddJ C dL_law_216 ?_
        refine br_sldJ CL (by omega) (by omega) (by omega) (x := br_J z1) (by rw [show ((i : Int) + 1).toNat = i + 1 by omega]; exact e1) dL_law_217 ?_
        refine br_aload_n C dL_law_218 rfl rfl ?_
        refine br_iload_n C dL_law_219 rfl rfl ?_
        refine br_iconstJ C dL_law_220 ?_
        refine br_iaddJ C dL_law_221 ?_
        refine br_sldJ CL (by omega) (by omega) (by omega) (x := br_J z2) (by rw [show ((i : Int) + 2).toNat = i + 2 by omega]; exact e2) dL_law_222 ?_
        refine br_cv2 C vcL_35 (br_QM.of (c_X5_piece hm1 hA z1 hz1 z2 hz2) hm1) (by decide) rfl rfl (fun _ => Nat.le_of_ble_eq_true rfl) dL_law_223 (fun v223 τ223 hv => ?_)
        obtain ⟨rfl, hm2, hf2⟩ := hv
        have hc2 := hc1.keep (fun p hp _ => hf2 p hp)
        refine br_icmp_eq C dL_law_226 (tgt := 679) (by decide) (fun c226 => ?_) (fun c226 => ?_)
        · exact next _ A hc2 hm2 hA (by omega)
        · exact absurd rfl c226
      · refine br_tableInJ C (by decide) (by decide) (by decide) dL_law_32 (off := 199) rfl (tgt := 231) (by decide) ?_
        refine br_aload_n C dL_law_231 rfl rfl ?_
        refine br_aload_n C dL_law_232 rfl rfl ?_
        refine br_iload_n C dL_law_233 rfl rfl ?_
        refine br_iconstJ C dL_law_234 ?_
        refine br_iaddJ C dL_law_235 ?_
        refine br_sldJ CL (by omega) (by omega) (by omega) (x := br_J z1) (by rw [show ((i : Int) + 1).toNat = i + 1 by omega]; exact e1) dL_law_236 ?_
        refine br_aload_n C dL_law_237 rfl rfl ?_
        refine br_iload_n C dL_law_238 rfl rfl ?_
        refine br_iconstJ C dL_law_239 ?_
        refine br_iaddJ C dL_law_240 ?_
        refine br_sldJ CL (by omega) (by omega) (by omega) (x := br_J z2) (by rw [show ((i : Int) + 2).toNat = i + 2 by omega]; exact e2) dL_law_241 ?_
        refine br_cv2 C vcL_36 (br_QC.of (c_X4_as hc hA z1 hz1 z2 hz2) hc) (by decide) rfl rfl (fun _ => Nat.le_of_ble_eq_true rfl) dL_law_242 (fun v242 τ242 hv => ?_)
        obtain ⟨rfl, hc1, hf1⟩ := hv
        have hm1 := hm.keep hf1.1
        refine br_aload_n C dL_law_245 rfl rfl ?_
        refine br_aload_n C dL_law_246 rfl rfl ?_
        refine br_iload_n C dL_law_247 rfl rfl ?_
        refine br_iconstJ C dL_law_248 ?_
        refine br_iaddJ C dL_law_249 ?_
        refine br_sldJ CL (by omega) (by omega) (by omega) (x := br_J z1) (by rw [show ((i : Int) + 1).toNat = i + 1 by omega]; exact e1) dL_law_250 ?_
        refine br_aload_n C dL_law_251 rfl rfl ?_
        refine br_iload_n C dL_law_252 rfl rfl ?_
        refine br_iconstJ C dL_law_253 ?_
        refine br_iaddJ C dL_law_254 ?_
        refine br_sldJ CL (by omega) (by omega) (by omega) (x := br_J z2) (by rw [show ((i : Int) + 2).toNat = i + 2 by omega]; exact e2) dL_law_255 ?_
        refine br_cv2 C vcL_39 (br_QM.of (c_X5_as hm1 hA z1 hz1 z2 hz2) hm1) (by decide) rfl rfl (fun _ => Nat.le_of_ble_eq_true rfl) dL_law_256 (fun v256 τ256 hv => ?_)
        obtain ⟨rfl, hm2, hf2⟩ := hv
        have hc2 := hc1.keep (fun p hp _ => hf2 p hp)
        refine br_icmp_eq C dL_law_259 (tgt := 679) (by decide) (fun c259 => ?_) (fun c259 => ?_)
        · exact next _ A hc2 hm2 hA (by omega)
        · exact absurd rfl c259
      · refine br_tableInJ C (by decide) (by decide) (by decide) dL_law_32 (off := 232) rfl (tgt := 264) (by decide) ?_
        refine br_aload_n C dL_law_264 rfl rfl ?_
        refine br_aload_n C dL_law_265 rfl rfl ?_
        refine br_iload_n C dL_law_266 rfl rfl ?_
        refine br_iconstJ C dL_law_267 ?_
        refine br_iaddJ C dL_law_268 ?_
        refine br_sldJ CL (by omega) (by omega) (by omega) (x := br_J z1) (by rw [show ((i : Int) + 1).toNat = i + 1 by omega]; exact e1) dL_law_269 ?_
        refine br_cv1 C vcL_40 (c_X4_put hc hA z1 hz1) (by decide) rfl rfl (fun _ => Nat.le_of_ble_eq_true rfl) dL_law_270 (fun v270 τ270 hv => ?_)
        obtain ⟨rfl, hc1, hf1⟩ := hv
        have hm1 := hm.keep hf1.1
        refine br_aload_n C dL_law_273 rfl rfl ?_
        refine br_aload_n C dL_law_274 rfl rfl ?_
        refine br_iload_n C dL_law_275 rfl rfl ?_
        refine br_iconstJ C dL_law_276 ?_
        refine br_iaddJ C dL_law_277 ?_
        refine br_sldJ CL (by omega) (by omega) (by omega) (x := br_J z1) (by rw [show ((i : Int) + 1).toNat = i + 1 by omega]; exact e1) dL_law_278 ?_
        refine br_cv1 C vcL_43 (c_X5_put hm1 hA z1 hz1) (by decide) rfl rfl (fun _ => Nat.le_of_ble_eq_true rfl) dL_law_279 (fun v279 τ279 hv => ?_)
        obtain ⟨rfl, hm2, hf2⟩ := hv
        have hc2 := hc1.keep (fun p hp _ => hf2 p hp)
        refine br_icmp_eq C dL_law_282 (tgt := 679) (by decide) (fun c282 => ?_) (fun c282 => ?_)
        · exact next _ (br_sPut A z1).2 hc2 hm2 (br_good_put hA z1).1 (by have := (br_good_put hA z1).2; omega)
        · exact absurd rfl c282
      · refine br_tableInJ C (by decide) (by decide) (by decide) dL_law_32 (off := 255) rfl (tgt := 287) (by decide) ?_
        refine br_aload_n C dL_law_287 rfl rfl ?_
        refine br_aload_n C dL_law_288 rfl rfl ?_
        refine br_iload_n C dL_law_289 rfl rfl ?_
        refine br_iconstJ C dL_law_290 ?_
        refine br_iaddJ C dL_law_291 ?_
        refine br_sldJ CL (by omega) (by omega) (by omega) (x := br_J z1) (by rw [show ((i : Int) + 1).toNat = i + 1 by omega]; exact e1) dL_law_292 ?_
        refine br_cv1 C vcL_44 (c_X4_take hc hA z1 hz1) (by decide) rfl rfl (fun _ => Nat.le_of_ble_eq_true rfl) dL_law_293 (fun v293 τ293 hv => ?_)
        obtain ⟨rfl, hc1, hf1⟩ := hv
        have hm1 := hm.keep hf1.1
        refine br_aload_n C dL_law_296 rfl rfl ?_
        refine br_aload_n C dL_law_297 rfl rfl ?_
        refine br_iload_n C dL_law_298 rfl rfl ?_
        refine br_iconstJ C dL_law_299 ?_
        refine br_iaddJ C dL_law_300 ?_
        refine br_sldJ CL (by omega) (by omega) (by omega) (x := br_J z1) (by rw [show ((i : Int) + 1).toNat = i + 1 by omega]; exact e1) dL_law_301 ?_
        refine br_cv1 C vcL_47 (c_X5_take hm1 hA z1 hz1) (by decide) rfl rfl (fun _ => Nat.le_of_ble_eq_true rfl) dL_law_302 (fun v302 τ302 hv => ?_)
        obtain ⟨rfl, hm2, hf2⟩ := hv
        have hc2 := hc1.keep (fun p hp _ => hf2 p hp)
        refine br_icmp_eq C dL_law_305 (tgt := 679) (by decide) (fun c305 => ?_) (fun c305 => ?_)
        · exact next _ (br_sTake A z1).2 hc2 hm2 (br_good_take hA z1).1 (by have := (br_good_take hA z1).2; omega)
        · exact absurd rfl c305
      · refine br_tableInJ C (by decide) (by decide) (by decide) dL_law_32 (off := 278) rfl (tgt := 310) (by decide) ?_
        refine br_aload_n C dL_law_310 rfl rfl ?_
        refine br_aload_n C dL_law_311 rfl rfl ?_
        refine br_iload_n C dL_law_312 rfl rfl ?_
        refine br_iconstJ C dL_law_313 ?_
        refine br_iaddJ C dL_law_314 ?_
        refine br_sldJ CL (by omega) (by omega) (by omega) (x := br_J z1) (by rw [show ((i : Int) + 1).toNat = i + 1 by omega]; exact e1) dL_law_315 ?_
        refine br_aload_n C dL_law_316 rfl rfl ?_
        refine br_iload_n C dL_law_317 rfl rfl ?_
        refine br_iconstJ C dL_law_318 ?_
        refine br_iaddJ C dL_law_319 ?_
        refine br_sldJ CL (by omega) (by omega) (by omega) (x := br_J z2) (by rw [show ((i : Int) + 2).toNat = i + 2 by omega]; exact e2) dL_law_320 ?_
        refine br_cv2 C vcL_48 (c_X4_swap hc hA z1 hz1 z2 hz2) (by decide) rfl rfl (fun _ => Nat.le_of_ble_eq_true rfl) dL_law_321 (fun v321 τ321 hv => ?_)
        obtain ⟨rfl, hc1, hf1⟩ := hv
        have hm1 := hm.keep hf1.1
        refine br_aload_n C dL_law_324 rfl rfl ?_
        refine br_aload_n C dL_law_325 rfl rfl ?_
        refine br_iload_n C dL_law_326 rfl rfl ?_
        refine br_iconstJ C dL_law_327 ?_
        refine br_iaddJ C dL_law_328 ?_
        refine br_sldJ CL (by omega) (by omega) (by omega) (x := br_J z1) (by rw [show ((i : Int) + 1).toNat = i + 1 by omega]; exact e1) dL_law_329 ?_
        refine br_aload_n C dL_law_330 rfl rfl ?_
        refine br_iload_n C dL_law_331 rfl rfl ?_
        refine br_iconstJ C dL_law_332 ?_
        refine br_iaddJ C dL_law_333 ?_
        refine br_sldJ CL (by omega) (by omega) (by omega) (x := br_J z2) (by rw [show ((i : Int) + 2).toNat = i + 2 by omega]; exact e2) dL_law_334 ?_
        refine br_cv2 C vcL_51 (c_X5_swap hm1 hA z1 hz1 z2 hz2) (by decide) rfl rfl (fun _ => Nat.le_of_ble_eq_true rfl) dL_law_335 (fun v335 τ335 hv => ?_)
        obtain ⟨rfl, hm2, hf2⟩ := hv
        have hc2 := hc1.keep (fun p hp _ => hf2 p hp)
        refine br_icmp_eq C dL_law_338 (tgt := 679) (by decide) (fun c338 => ?_) (fun c338 => ?_)
        · exact next _ (br_sSwap A z1 z2).2 hc2 hm2 (br_good_swap hA z1 z2).1 (by have := (br_good_swap hA z1 z2).2; omega)
        · exact absurd rfl c338
      · refine br_tableInJ C (by decide) (by decide) (by decide) dL_law_32 (off := 311) rfl (tgt := 343) (by decide) ?_
        refine br_aload_n C dL_law_343 rfl rfl ?_
        refine br_aload_n C dL_law_344 rfl rfl ?_
        refine br_iload_n C dL_law_345 rfl rfl ?_
        refine br_iconstJ C dL_law_346 ?_
        refine br_iaddJ C dL_law_347 ?_
        refine br_sldJ CL (by omega) (by omega) (by omega) (x := br_J z1) (by rw [show ((i : Int) + 1).toNat = i + 1 by omega]; exact e1) dL_law_348 ?_
        refine br_cv1 C vcL_52 (br_QC.of (c_X4_at hc hA z1 hz1) hc) (by decide) rfl rfl (fun _ => Nat.le_of_ble_eq_true rfl) dL_law_349 (fun v349 τ349 hv => ?_)
        obtain ⟨rfl, hc1, hf1⟩ := hv
        have hm1 := hm.keep hf1.1
        refine br_aload_n C dL_law_352 rfl rfl ?_
        refine br_aload_n C dL_law_353 rfl rfl ?_
        refine br_iload_n C dL_law_354 rfl rfl ?_
        refine br_iconstJ C dL_law_355 ?_
        refine br_iaddJ C dL_law_356 ?_
        refine br_sldJ CL (by omega) (by omega) (by omega) (x := br_J z1) (by rw [show ((i : Int) + 1).toNat = i + 1 by omega]; exact e1) dL_law_357 ?_
        refine br_cv1 C vcL_55 (br_QM.of (c_X5_at hm1 hA z1 hz1) hm1) (by decide) rfl rfl (fun _ => Nat.le_of_ble_eq_true rfl) dL_law_358 (fun v358 τ358 hv => ?_)
        obtain ⟨rfl, hm2, hf2⟩ := hv
        have hc2 := hc1.keep (fun p hp _ => hf2 p hp)
        refine br_icmp_eq C dL_law_361 (tgt := 679) (by decide) (fun c361 => ?_) (fun c361 => ?_)
        · exact next _ A hc2 hm2 hA (by omega)
        · exact absurd rfl c361
      · refine br_tableInJ C (by decide) (by decide) (by decide) dL_law_32 (off := 334) rfl (tgt := 366) (by decide) ?_
        refine br_aload_n C dL_law_366 rfl rfl ?_
        refine br_aload_n C dL_law_367 rfl rfl ?_
        refine br_iload_n C dL_law_368 rfl rfl ?_
        refine br_iconstJ C dL_law_369 ?_
        refine br_iaddJ C dL_law_370 ?_
        refine br_sldJ CL (by omega) (by omega) (by omega) (x := br_J z1) (by rw [show ((i : Int) + 1).toNat = i + 1 by omega]; exact e1) dL_law_371 ?_
        refine br_cv1 C vcL_56 (br_QC.of (c_X4_score hc hA z1 hz1) hc) (by decide) rfl rfl (fun _ => Nat.le_of_ble_eq_true rfl) dL_law_372 (fun v372 τ372 hv => ?_)
        obtain ⟨rfl, hc1, hf1⟩ := hv
        have hm1 := hm.keep hf1.1
        refine br_aload_n C dL_law_375 rfl rfl ?_
        refine br_aload_n C dL_law_376 rfl rfl ?_
        refine br_iload_n C dL_law_377 rfl rfl ?_
        refine br_iconstJ C dL_law_378 ?_
        refine br_iaddJ C dL_law_379 ?_
        refine br_sldJ CL (by omega) (by omega) (by omega) (x := br_J z1) (by rw [show ((i : Int) + 1).toNat = i + 1 by omega]; exact e1) dL_law_380 ?_
        refine br_cv1 C vcL_59 (br_QM.of (c_X5_score hm1 hA z1 hz1) hm1) (by decide) rfl rfl (fun _ => Nat.le_of_ble_eq_true rfl) dL_law_381 (fun v381 τ381 hv => ?_)
        obtain ⟨rfl, hm2, hf2⟩ := hv
        have hc2 := hc1.keep (fun p hp _ => hf2 p hp)
        refine br_icmp_eq C dL_law_384 (tgt := 679) (by decide) (fun c384 => ?_) (fun c384 => ?_)
        · exact next _ A hc2 hm2 hA (by omega)
        · exact absurd rfl c384
      · refine br_tableInJ C (by decide) (by decide) (by decide) dL_law_32 (off := 357) rfl (tgt := 389) (by decide) ?_
        refine br_aload_n C dL_law_389 rfl rfl ?_
        refine br_aload_n C dL_law_390 rfl rfl ?_
        refine br_iload_n C dL_law_391 rfl rfl ?_
        refine br_iconstJ C dL_law_392 ?_
        refine br_iaddJ C dL_law_393 ?_
        refine br_sldJ CL (by omega) (by omega) (by omega) (x := br_J z1) (by rw [show ((i : Int) + 1).toNat = i + 1 by omega]; exact e1) dL_law_394 ?_
        refine br_cv1 C vcL_60 (br_QC.of (c_X4_mean hc hA z1 hz1) hc) (by decide) rfl rfl (fun _ => Nat.le_of_ble_eq_true rfl) dL_law_395 (fun v395 τ395 hv => ?_)
        obtain ⟨rfl, hc1, hf1⟩ := hv
        have hm1 := hm.keep hf1.1
        refine br_aload_n C dL_law_398 rfl rfl ?_
        refine br_aload_n C dL_law_399 rfl rfl ?_
        refine br_iload_n C dL_law_400 rfl rfl ?_
        refine br_iconstJ C dL_law_401 ?_
        refine br_iaddJ C dL_law_402 ?_
        refine br_sldJ CL (by omega) (by omega) (by omega) (x := br_J z1) (by rw [show ((i : Int) + 1).toNat = i + 1 by omega]; exact e1) dL_law_403 ?_
        refine br_cv1 C vcL_63 (br_QM.of (c_X5_mean hm1 hA z1 hz1) hm1) (by decide) rfl rfl (fun _ => Nat.le_of_ble_eq_true rfl) dL_law_404 (fun v404 τ404 hv => ?_)
        obtain ⟨rfl, hm2, hf2⟩ := hv
        have hc2 := hc1.keep (fun p hp _ => hf2 p hp)
        refine br_icmp_eq C dL_law_407 (tgt := 679) (by decide) (fun c407 => ?_) (fun c407 => ?_)
        · exact next _ A hc2 hm2 hA (by omega)
        · exact absurd rfl c407
      · refine br_tableInJ C (by decide) (by decide) (by decide) dL_law_32 (off := 380) rfl (tgt := 412) (by decide) ?_
        refine br_aload_n C dL_law_412 rfl rfl ?_
        refine br_aload_n C dL_law_413 rfl rfl ?_
        refine br_iload_n C dL_law_414 rfl rfl ?_
        refine br_iconstJ C dL_law_415 ?_
        refine br_iaddJ C dL_law_416 ?_
        refine br_sldJ CL (by omega) (by omega) (by omega) (x := br_J z1) (by rw [show ((i : Int) + 1).toNat = i + 1 by omega]; exact e1) dL_law_417 ?_
        refine br_aload_n C dL_law_418 rfl rfl ?_
        refine br_iload_n C dL_law_419 rfl rfl ?_
        refine br_iconstJ C dL_law_420 ?_
        refine br_iaddJ C dL_law_421 ?_
        refine br_sldJ CL (by omega) (by omega) (by omega) (x := br_J z2) (by rw [show ((i : Int) + 2).toNat = i + 2 by omega]; exact e2) dL_law_422 ?_
        refine br_cv2 C vcL_64 (br_QC.of (c_X4_odds hc hA z1 hz1 z2 hz2) hc) (by decide) rfl rfl (fun _ => Nat.le_of_ble_eq_true rfl) dL_law_423 (fun v423 τ423 hv => ?_)
        obtain ⟨rfl, hc1, hf1⟩ := hv
        have hm1 := hm.keep hf1.1
        refine br_aload_n C dL_law_426 rfl rfl ?_
        refine br_aload_n C dL_law_427 rfl rfl ?_
        refine br_iload_n C dL_law_428 rfl rfl ?_
        refine br_iconstJ C dL_law_429 ?_
        refine br_iaddJ C dL_law_430 ?_
        refine br_sldJ CL (by omega) (by omega) (by omega) (x := br_J z1) (by rw [show ((i : Int) + 1).toNat = i + 1 by omega]; exact e1) dL_law_431 ?_
        refine br_aload_n C dL_law_432 rfl rfl ?_
        refine br_iload_n C dL_law_433 rfl rfl ?_
        refine br_iconstJ C dL_law_434 ?_
        refine br_iaddJ C dL_law_435 ?_
        refine br_sldJ CL (by omega) (by omega) (by omega) (x := br_J z2) (by rw [show ((i : Int) + 2).toNat = i + 2 by omega]; exact e2) dL_law_436 ?_
        refine br_cv2 C vcL_67 (br_QM.of (c_X5_odds hm1 hA z1 hz1 z2 hz2) hm1) (by decide) rfl rfl (fun _ => Nat.le_of_ble_eq_true rfl) dL_law_437 (fun v437 τ437 hv => ?_)
        obtain ⟨rfl, hm2, hf2⟩ := hv
        have hc2 := hc1.keep (fun p hp _ => hf2 p hp)
        refine br_icmp_eq C dL_law_440 (tgt := 679) (by decide) (fun c440 => ?_) (fun c440 => ?_)
        · exact next _ A hc2 hm2 hA (by omega)
        · exact absurd rfl c440
      · refine br_tableInJ C (by decide) (by decide) (by decide) dL_law_32 (off := 413) rfl (tgt := 445) (by decide) ?_
        refine br_aload_n C dL_law_445 rfl rfl ?_
        refine br_aload_n C dL_law_446 rfl rfl ?_
        refine br_iload_n C dL_law_447 rfl rfl ?_
        refine br_iconstJ C dL_law_448 ?_
        refine br_iaddJ C dL_law_449 ?_
        refine br_sldJ CL (by omega) (by omega) (by omega) (x := br_J z1) (by rw [show ((i : Int) + 1).toNat = i + 1 by omega]; exact e1) dL_law_450 ?_
        refine br_aload_n C dL_law_451 rfl rfl ?_
        refine br_iload_n C dL_law_452 rfl rfl ?_
        refine br_iconstJ C dL_law_453 ?_
        refine br_iaddJ C dL_law_454 ?_
        refine br_sldJ CL (by omega) (by omega) (by omega) (x := br_J z2) (by rw [show ((i : Int) + 2).toNat = i + 2 by omega]; exact e2) dL_law_455 ?_
        refine br_cv2 C vcL_68 (c_X4_best hc hA z1 hz1 z2 hz2) (by decide) rfl rfl (fun _ => Nat.le_of_ble_eq_true rfl) dL_law_456 (fun v456 τ456 hv => ?_)
        obtain ⟨rfl, hc1, hf1⟩ := hv
        have hm1 := hm.keep hf1.1
        refine br_aload_n C dL_law_459 rfl rfl ?_
        refine br_aload_n C dL_law_460 rfl rfl ?_
        refine br_iload_n C dL_law_461 rfl rfl ?_
        refine br_iconstJ C dL_law_462 ?_
        refine br_iaddJ C dL_law_463 ?_
        refine br_sldJ CL (by omega) (by omega) (by omega) (x := br_J z1) (by rw [show ((i : Int) + 1).toNat = i + 1 by omega]; exact e1) dL_law_464 ?_
        refine br_aload_n C dL_law_465 rfl rfl ?_
        refine br_iload_n C dL_law_466 rfl rfl ?_
        refine br_iconstJ C dL_law_467 ?_
        refine br_iaddJ C dL_law_468 ?_
        refine br_sldJ CL (by omega) (by omega) (by omega) (x := br_J z2) (by rw [show ((i : Int) + 2).toNat = i + 2 by omega]; exact e2) dL_law_469 ?_
        refine br_cv2 C vcL_71 (c_X5_best hm1 hA z1 hz1 z2 hz2) (by decide) rfl rfl (fun _ => Nat.le_of_ble_eq_true rfl) dL_law_470 (fun v470 τ470 hv => ?_)
        obtain ⟨rfl, hm2, hf2⟩ := hv
        have hc2 := hc1.keep (fun p hp _ => hf2 p hp)
        refine br_icmp_eq C dL_law_473 (tgt := 679) (by decide) (fun c473 => ?_) (fun c473 => ?_)
        · exact next _ (br_sBest A z1 z2).2 hc2 hm2 (br_good_best hA z1 z2).1 (by have := (br_good_best hA z1 z2).2; omega)
        · exact absurd rfl c473
      · refine br_tableInJ C (by decide) (by decide) (by decide) dL_law_32 (off := 446) rfl (tgt := 478) (by decide) ?_
        refine br_aload_n C dL_law_478 rfl rfl ?_
        refine br_aload_n C dL_law_479 rfl rfl ?_
        refine br_iload_n C dL_law_480 rfl rfl ?_
        refine br_iconstJ C dL_law_481 ?_
        refine br_iaddJ C dL_law_482 ?_
        refine br_sldJ CL (by omega) (by omega) (by omega) (x := br_J z1) (by rw [show ((i : Int) + 1).toNat = i + 1 by omega]; exact e1) dL_law_483 ?_
        refine br_cv1 C vcL_72 (c_X4_more hc hA z1 hz1) (by decide) rfl rfl (fun _ => Nat.le_of_ble_eq_true rfl) dL_law_484 (fun v484 τ484 hv => ?_)
        obtain ⟨rfl, hc1, hf1⟩ := hv
        have hm1 := hm.keep hf1.1
        refine br_aload_n C dL_law_487 rfl rfl ?_
        refine br_aload_n C dL_law_488 rfl rfl ?_
        refine br_iload_n C dL_law_489 rfl rfl ?_
        refine br_iconstJ C dL_law_490 ?_
        refine br_iaddJ C dL_law_491 ?_
        refine br_sldJ CL (by omega) (by omega) (by omega) (x := br_J z1) (by rw [show ((i : Int) + 1).toNat = i + 1 by omega]; exact e1) dL_law_492 ?_
        refine br_cv1 C vcL_75 (c_X5_more hm1 hA z1 hz1) (by decide) rfl rfl (fun _ => Nat.le_of_ble_eq_true rfl) dL_law_493 (fun v493 τ493 hv => ?_)
        obtain ⟨rfl, hm2, hf2⟩ := hv
        have hc2 := hc1.keep (fun p hp _ => hf2 p hp)
        refine br_icmp_eq C dL_law_496 (tgt := 679) (by decide) (fun c496 => ?_) (fun c496 => ?_)
        · exact next _ A hc2 hm2 hA (by omega)
        · exact absurd rfl c496
      · refine br_tableInJ C (by decide) (by decide) (by decide) dL_law_32 (off := 469) rfl (tgt := 501) (by decide) ?_
        refine br_aload_n C dL_law_501 rfl rfl ?_
        refine br_aload_n C dL_law_502 rfl rfl ?_
        refine br_iload_n C dL_law_503 rfl rfl ?_
        refine br_iconstJ C dL_law_504 ?_
        refine br_iaddJ C dL_law_505 ?_
        refine br_sldJ CL (by omega) (by omega) (by omega) (x := br_J z1) (by rw [show ((i : Int) + 1).toNat = i + 1 by omega]; exact e1) dL_law_506 ?_
        refine br_aload_n C dL_law_507 rfl rfl ?_
        refine br_iload_n C dL_law_508 rfl rfl ?_
        refine br_iconstJ C dL_law_509 ?_
        refine br_iaddJ C dL_law_510 ?_
        refine br_sldJ CL (by omega) (by omega) (by omega) (x := br_J z2) (by rw [show ((i : Int) + 2).toNat = i + 2 by omega]; exact e2) dL_law_511 ?_
        refine br_aload_n C dL_law_512 rfl rfl ?_
        refine br_iload_n C dL_law_513 rfl rfl ?_
        refine br_iconstJ C dL_law_514 ?_
        refine br_iaddJ C dL_law_515 ?_
        refine br_sldJ CL (by omega) (by omega) (by omega) (x := br_J z3) (by rw [show ((i : Int) + 3).toNat = i + 3 by omega]; exact e3) dL_law_516 ?_
        refine br_if_eqJ C (by omega) dL_law_517 (tgt := 524) (by decide) (fun c517 => ?_) (fun c517 => ?_)
        · refine br_iconstJ C dL_law_524 ?_
          refine br_cv3 C vcL_76 (c_X4_tryIt hc hA z1 hz1 z2 hz2 0 (by omega)) (by decide) rfl rfl (fun _ => Nat.le_of_ble_eq_true rfl) dL_law_525 (fun v525 τ525 hv => ?_)
          obtain ⟨rfl, hc1, hf1⟩ := hv
          have hm1 := hm.keep hf1.1
          refine br_aload_n C dL_law_528 rfl rfl ?_
          refine br_aload_n C dL_law_529 rfl rfl ?_
          refine br_iload_n C dL_law_530 rfl rfl ?_
          refine br_iconstJ C dL_law_531 ?_
          refine br_iaddJ C dL_law_532 ?_
          refine br_sldJ CL (by omega) (by omega) (by omega) (x := br_J z1) (by rw [show ((i : Int) + 1).toNat = i + 1 by omega]; exact e1) dL_law_533 ?_
          refine br_aload_n C dL_law_534 rfl rfl ?_
          refine br_iload_n C dL_law_535 rfl rfl ?_
          refine br_iconstJ C dL_law_536 ?_
          refine br_iaddJ C dL_law_537 ?_
          refine br_sldJ CL (by omega) (by omega) (by omega) (x := br_J z2) (by rw [show ((i : Int) + 2).toNat = i + 2 by omega]; exact e2) dL_law_538 ?_
          refine br_aload_n C dL_law_539 rfl rfl ?_
          refine br_iload_n C dL_law_540 rfl rfl ?_
          refine br_iconstJ C dL_law_541 ?_
          refine br_iaddJ C dL_law_542 ?_
          refine br_sldJ CL (by omega) (by omega) (by omega) (x := br_J z3) (by rw [show ((i : Int) + 3).toNat = i + 3 by omega]; exact e3) dL_law_543 ?_
          refine br_if_eqJ C (by omega) dL_law_544 (tgt := 551) (by decide) (fun c544 => ?_) (fun c544 => ?_)
          · refine br_iconstJ C dL_law_551 ?_
            refine br_cv3 C vcL_80 (c_X5_tryIt hm1 hA z1 hz1 z2 hz2 0 (by omega)) (by decide) rfl rfl (fun _ => Nat.le_of_ble_eq_true rfl) dL_law_552 (fun v552 τ552 hv => ?_)
            obtain ⟨rfl, hm2, hf2⟩ := hv
            have hc2 := hc1.keep (fun p hp _ => hf2 p hp)
            refine br_icmp_eq C dL_law_555 (tgt := 679) (by decide) (fun c555 => ?_) (fun c555 => ?_)
            · exact next _ (br_sTry A z1 z2 0).2 hc2 hm2 (br_good_try hA z1 z2 (s := 0) (by omega)).1 (by have := (br_good_try hA z1 z2 (s := 0) (by omega)).2; omega)
            · exact absurd rfl c555
          · refine br_iconstJ C dL_law_547 ?_
            refine br_goto C dL_law_548 (tgt := 552) (by decide) ?_
            refine br_cv3 C vcL_80 (c_X5_tryIt hm1 hA z1 hz1 z2 hz2 1 (by omega)) (by decide) rfl rfl (fun _ => Nat.le_of_ble_eq_true rfl) dL_law_552 (fun v552 τ552 hv => ?_)
            obtain ⟨rfl, hm2, hf2⟩ := hv
            have hc2 := hc1.keep (fun p hp _ => hf2 p hp)
            refine br_icmp_eq C dL_law_555 (tgt := 679) (by decide) (fun c555 => ?_) (fun c555 => ?_)
            · omega
            · omega
        · refine br_iconstJ C dL_law_520 ?_
          refine br_goto C dL_law_521 (tgt := 525) (by decide) ?_
          refine br_cv3 C vcL_76 (c_X4_tryIt hc hA z1 hz1 z2 hz2 1 (by omega)) (by decide) rfl rfl (fun _ => Nat.le_of_ble_eq_true rfl) dL_law_525 (fun v525 τ525 hv => ?_)
          obtain ⟨rfl, hc1, hf1⟩ := hv
          have hm1 := hm.keep hf1.1
          refine br_aload_n C dL_law_528 rfl rfl ?_
          refine br_aload_n C dL_law_529 rfl rfl ?_
          refine br_iload_n C dL_law_530 rfl rfl ?_
          refine br_iconstJ C dL_law_531 ?_
          refine br_iaddJ C dL_law_532 ?_
          refine br_sldJ CL (by omega) (by omega) (by omega) (x := br_J z1) (by rw [show ((i : Int) + 1).toNat = i + 1 by omega]; exact e1) dL_law_533 ?_
          refine br_aload_n C dL_law_534 rfl rfl ?_
          refine br_iload_n C dL_law_535 rfl rfl ?_
          refine br_iconstJ C dL_law_536 ?_
          refine br_iaddJ C dL_law_537 ?_
          refine br_sldJ CL (by omega) (by omega) (by omega) (x := br_J z2) (by rw [show ((i : Int) + 2).toNat = i + 2 by omega]; exact e2) dL_law_538 ?_
          refine br_aload_n C dL_law_539 rfl rfl ?_
          refine br_iload_n C dL_law_540 rfl rfl ?_
          refine br_iconstJ C dL_law_541 ?_
          refine br_iaddJ C dL_law_542 ?_
          refine br_sldJ CL (by omega) (by omega) (by omega) (x := br_J z3) (by rw [show ((i : Int) + 3).toNat = i + 3 by omega]; exact e3) dL_law_543 ?_
          refine br_if_eqJ C (by omega) dL_law_544 (tgt := 551) (by decide) (fun c544 => ?_) (fun c544 => ?_)
          · refine br_iconstJ C dL_law_551 ?_
            refine br_cv3 C vcL_80 (c_X5_tryIt hm1 hA z1 hz1 z2 hz2 0 (by omega)) (by decide) rfl rfl (fun _ => Nat.le_of_ble_eq_true rfl) dL_law_552 (fun v552 τ552 hv => ?_)
            obtain ⟨rfl, hm2, hf2⟩ := hv
            have hc2 := hc1.keep (fun p hp _ => hf2 p hp)
            refine br_icmp_eq C dL_law_555 (tgt := 679) (by decide) (fun c555 => ?_) (fun c555 => ?_)
            · omega
            · omega
          · refine br_iconstJ C dL_law_547 ?_
            refine br_goto C dL_law_548 (tgt := 552) (by decide) ?_
            refine br_cv3 C vcL_80 (c_X5_tryIt hm1 hA z1 hz1 z2 hz2 1 (by omega)) (by decide) rfl rfl (fun _ => Nat.le_of_ble_eq_true rfl) dL_law_552 (fun v552 τ552 hv => ?_)
            obtain ⟨rfl, hm2, hf2⟩ := hv
            have hc2 := hc1.keep (fun p hp _ => hf2 p hp)
            refine br_icmp_eq C dL_law_555 (tgt := 679) (by decide) (fun c555 => ?_) (fun c555 => ?_)
            · exact next _ (br_sTry A z1 z2 1).2 hc2 hm2 (br_good_try hA z1 z2 (s := 1) (by omega)).1 (by have := (br_good_try hA z1 z2 (s := 1) (by omega)).2; omega)
            · exact absurd rfl c555
      · refine br_tableInJ C (by decide) (by decide) (by decide) dL_law_32 (off := 528) rfl (tgt := 560) (by decide) ?_
        refine br_aload_n C dL_law_560 rfl rfl ?_
        refine br_cv0 C vcL_81 (c_X4_forget hc hA) (by decide) rfl rfl (fun _ => Nat.le_of_ble_eq_true rfl) dL_law_561 (fun v561 τ561 hv => ?_)
        obtain ⟨rfl, hc1, hf1⟩ := hv
        have hm1 := hm.keep hf1.1
        refine br_aload_n C dL_law_564 rfl rfl ?_
        refine br_cv0 C vcL_84 (c_X5_forget hm1 hA) (by decide) rfl rfl (fun _ => Nat.le_of_ble_eq_true rfl) dL_law_565 (fun v565 τ565 hv => ?_)
        obtain ⟨rfl, hm2, hf2⟩ := hv
        have hc2 := hc1.keep (fun p hp _ => hf2 p hp)
        refine br_icmp_eq C dL_law_568 (tgt := 679) (by decide) (fun c568 => ?_) (fun c568 => ?_)
        · exact next _ (br_sForget A).2 hc2 hm2 (br_good_forget hA).1 (by have := (br_good_forget hA).2; omega)
        · exact absurd rfl c568
      · refine br_tableInJ C (by decide) (by decide) (by decide) dL_law_32 (off := 541) rfl (tgt := 573) (by decide) ?_
        refine br_aload_n C dL_law_573 rfl rfl ?_
        refine br_aload_n C dL_law_574 rfl rfl ?_
        refine br_iload_n C dL_law_575 rfl rfl ?_
        refine br_iconstJ C dL_law_576 ?_
        refine br_iaddJ C dL_law_577 ?_
        refine br_sldJ CL (by omega) (by omega) (by omega) (x := br_J z1) (by rw [show ((i : Int) + 1).toNat = i + 1 by omega]; exact e1) dL_law_578 ?_
        refine br_aload_n C dL_law_579 rfl rfl ?_
        refine br_iload_n C dL_law_580 rfl rfl ?_
        refine br_iconstJ C dL_law_581 ?_
        refine br_iaddJ C dL_law_582 ?_
        refine br_sldJ CL (by omega) (by omega) (by omega) (x := br_J z2) (by rw [show ((i : Int) + 2).toNat = i + 2 by omega]; exact e2) dL_law_583 ?_
        refine br_aload_n C dL_law_584 rfl rfl ?_
        refine br_iload_n C dL_law_585 rfl rfl ?_
        refine br_iconstJ C dL_law_586 ?_
        refine br_iaddJ C dL_law_587 ?_
        refine br_sldJ CL (by omega) (by omega) (by omega) (x := br_J z3) (by rw [show ((i : Int) + 3).toNat = i + 3 by omega]; exact e3) dL_law_588 ?_
        refine br_cv3 C vcL_85 (br_QC.of (c_X4_meets hc hA z1 hz1 z2 hz2 z3 hz3) hc) (by decide) rfl rfl (fun _ => Nat.le_of_ble_eq_true rfl) dL_law_589 (fun v589 τ589 hv => ?_)
        obtain ⟨rfl, hc1, hf1⟩ := hv
        have hm1 := hm.keep hf1.1
        refine br_aload_n C dL_law_592 rfl rfl ?_
        refine br_aload_n C dL_law_593 rfl rfl ?_
        refine br_iload_n C dL_law_594 rfl rfl ?_
        refine br_iconstJ C dL_law_595 ?_
        refine br_iaddJ C dL_law_596 ?_
        refine br_sldJ CL (by omega) (by omega) (by omega) (x := br_J z1) (by rw [show ((i : Int) + 1).toNat = i + 1 by omega]; exact e1) dL_law_597 ?_
        refine br_aload_n C dL_law_598 rfl rfl ?_
        refine br_iload_n C dL_law_599 rfl rfl ?_
        refine br_iconstJ C dL_law_600 ?_
        refine br_iaddJ C dL_law_601 ?_
        refine br_sldJ CL (by omega) (by omega) (by omega) (x := br_J z2) (by rw [show ((i : Int) + 2).toNat = i + 2 by omega]; exact e2) dL_law_602 ?_
        refine br_aload_n C dL_law_603 rfl rfl ?_
        refine br_iload_n C dL_law_604 rfl rfl ?_
        refine br_iconstJ C dL_law_605 ?_
        refine br_iaddJ C dL_law_606 ?_
        refine br_sldJ CL (by omega) (by omega) (by omega) (x := br_J z3) (by rw [show ((i : Int) + 3).toNat = i + 3 by omega]; exact e3) dL_law_607 ?_
        refine br_cv3 C vcL_89 (c_X5_meets hm1 hA z1 hz1 z2 hz2 z3 hz3) (by decide) rfl rfl (fun _ => Nat.le_of_ble_eq_true rfl) dL_law_608 (fun v608 τ608 hv => ?_)
        obtain ⟨rfl, hm2, hf2⟩ := hv
        have hc2 := hc1.keep (fun p hp _ => hf2 p hp)
        refine br_icmp_eq C dL_law_611 (tgt := 679) (by decide) (fun c611 => ?_) (fun c611 => ?_)
        · exact next _ A hc2 hm2 hA (by omega)
        · exact absurd rfl c611
      · refine br_tableInJ C (by decide) (by decide) (by decide) dL_law_32 (off := 584) rfl (tgt := 616) (by decide) ?_
        refine br_aload_n C dL_law_616 rfl rfl ?_
        refine br_cv0 C vcL_90 (c_X4_image hc hA) (by decide) rfl rfl (fun _ => Nat.le_of_ble_eq_true rfl) dL_law_617 (fun v617 τ617 hv => ?_)
        obtain ⟨rfl, hc1, hf1⟩ := hv
        have hm1 := hm.keep hf1.1
        refine br_aload_n C dL_law_620 rfl rfl ?_
        refine br_cv0 C vcL_93 (c_X5_image hm1 hA) (by decide) rfl rfl (fun _ => Nat.le_of_ble_eq_true rfl) dL_law_621 (fun v621 τ621 hv => ?_)
        obtain ⟨rfl, hm2, hf2⟩ := hv
        have hc2 := hc1.keep (fun p hp _ => hf2 p hp)
        refine br_icmp_eq C dL_law_624 (tgt := 679) (by decide) (fun c624 => ?_) (fun c624 => ?_)
        · exact next _ (br_sImage A).2 hc2 hm2 (br_good_image hA).1 (by have := (br_good_image hA).2; omega)
        · exact absurd rfl c624
      · refine br_tableInJ C (by decide) (by decide) (by decide) dL_law_32 (off := 597) rfl (tgt := 629) (by decide) ?_
        refine br_aload_n C dL_law_629 rfl rfl ?_
        refine br_cv0 C vcL_94 (c_X4_restore hc hA) (by decide) rfl rfl (fun _ => Nat.le_of_ble_eq_true rfl) dL_law_630 (fun v630 τ630 hv => ?_)
        obtain ⟨rfl, hc1, hf1⟩ := hv
        have hm1 := hm.keep hf1.1
        refine br_aload_n C dL_law_633 rfl rfl ?_
        refine br_cv0 C vcL_97 (c_X5_restore hm1 hA) (by decide) rfl rfl (fun _ => Nat.le_of_ble_eq_true rfl) dL_law_634 (fun v634 τ634 hv => ?_)
        obtain ⟨rfl, hm2, hf2⟩ := hv
        have hc2 := hc1.keep (fun p hp _ => hf2 p hp)
        refine br_icmp_eq C dL_law_637 (tgt := 679) (by decide) (fun c637 => ?_) (fun c637 => ?_)
        · exact next _ (br_sRestore A).2 hc2 hm2 (br_good_restore hA).1 (by have := (br_good_restore hA).2; omega)
        · exact absurd rfl c637
      · refine br_tableInJ C (by decide) (by decide) (by decide) dL_law_32 (off := 610) rfl (tgt := 642) (by decide) ?_
        refine br_aload_n C dL_law_642 rfl rfl ?_
        refine br_aload_n C dL_law_643 rfl rfl ?_
        refine br_iload_n C dL_law_644 rfl rfl ?_
        refine br_iconstJ C dL_law_645 ?_
        refine br_iaddJ C dL_law_646 ?_
        refine br_sldJ CL (by omega) (by omega) (by omega) (x := br_J z1) (by rw [show ((i : Int) + 1).toNat = i + 1 by omega]; exact e1) dL_law_647 ?_
        refine br_cv1 C vcL_98 (br_QC.of (c_X4_count hc hA z1 hz1) hc) (by decide) rfl rfl (fun _ => Nat.le_of_ble_eq_true rfl) dL_law_648 (fun v648 τ648 hv => ?_)
        obtain ⟨rfl, hc1, hf1⟩ := hv
        have hm1 := hm.keep hf1.1
        refine br_aload_n C dL_law_651 rfl rfl ?_
        refine br_aload_n C dL_law_652 rfl rfl ?_
        refine br_iload_n C dL_law_653 rfl rfl ?_
        refine br_iconstJ C dL_law_654 ?_
        refine br_iaddJ C dL_law_655 ?_
        refine br_sldJ CL (by omega) (by omega) (by omega) (x := br_J z1) (by rw [show ((i : Int) + 1).toNat = i + 1 by omega]; exact e1) dL_law_656 ?_
        refine br_cv1 C vcL_101 (br_QM.of (c_X5_count hm1 hA z1 hz1) hm1) (by decide) rfl rfl (fun _ => Nat.le_of_ble_eq_true rfl) dL_law_657 (fun v657 τ657 hv => ?_)
        obtain ⟨rfl, hm2, hf2⟩ := hv
        have hc2 := hc1.keep (fun p hp _ => hf2 p hp)
        refine br_icmp_eq C dL_law_660 (tgt := 679) (by decide) (fun c660 => ?_) (fun c660 => ?_)
        · exact next _ A hc2 hm2 hA (by omega)
        · exact absurd rfl c660
      · refine br_tableInJ C (by decide) (by decide) (by decide) dL_law_32 (off := 633) rfl (tgt := 665) (by decide) ?_
        refine br_aload_n C dL_law_665 rfl rfl ?_
        refine br_cv0 C vcL_102 (c_X4_digest hc hA) (by decide) rfl rfl (fun _ => Nat.le_of_ble_eq_true rfl) dL_law_666 (fun v666 τ666 hv => ?_)
        obtain ⟨rfl, rfl⟩ := hv
        have hc1 := hc
        have hm1 := hm
        refine br_aload_n C dL_law_669 rfl rfl ?_
        refine br_cv0 C vcL_106 (c_X5_digest hm1 hA) (by decide) rfl rfl (fun _ => Nat.le_of_ble_eq_true rfl) dL_law_670 (fun v670 τ670 hv => ?_)
        obtain ⟨rfl, hm2, hf2⟩ := hv
        have hc2 := hc1.keep (fun p hp _ => hf2 p hp)
        refine br_lcmp C dL_law_673 ?_
        refine br_if_eq C dL_law_674 (tgt := 679) (by decide) (fun c674 => ?_) (fun c674 => ?_)
        · exact next _ A hc2 hm2 hA (by omega)
        · exact absurd (br_cmp_self _) c674
