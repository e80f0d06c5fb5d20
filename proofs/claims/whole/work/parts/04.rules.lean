-- a method: its name, bytes, locals, return type
abbrev br_Y : Type := MethodName × ByteArray × Nat × Option FieldType
def br_ws (Y : br_Y) : List Cond := .code Y.1 Y.2.1 Y.2.2.1 Y.2.2.2 :: br_W0
def br_room (d : Nat) : Room := { frames := d, cells := 0, slots := 0, locals := 29 * d }
abbrev br_post : Type := Option br_V → br_Wd → Prop
abbrev br_tys (cI cZ : ClassId) : List (ClassId × FieldType) := [(cI, .int), (cZ, .boolean)]
def br_Q (D : va_G) (cI cZ : ClassId) (ad : Nat → Nat) (A : Nat → Prop) (P : br_post) : Array Value → State → Outcome → State → Prop := fun _ st oc t =>
  (∃ v τ, oc = .returned (v.map (br_av ad)) ∧ P v τ ∧ va_P D vwCl (br_W cI cZ ad τ) t.heap) ∧ va_F A st t
/-- a method's contract: from the world σ with these arguments it returns, with a value and a world of which P holds -/
def br_Met (d : Nat) (Y : br_Y) (args : List br_V) (σ : br_Wd) (P : br_post) : Prop :=
  ∀ (l : Launch) (D : va_G) (cI cZ : ClassId) (ad : Nat → Nat) (sz : Nat), Met l Y.1 (br_ws Y) (br_room d)
    (va_Pc (args.map (br_av ad)) (fun U => U.heap.size = sz ∧ va_P D vwCl (br_W cI cZ ad σ) U.heap ∧ va_K D vwCl (br_tys cI cZ) U ∧ va_D (fun _ => True) (br_W cI cZ ad σ) ∧ br_N U))
    (br_Q D cI cZ ad (va_A (br_W cI cZ ad σ) sz) P) 0 0 (va_A (br_W cI cZ ad σ) sz)
/-- at this instruction the method returns v -/
def br_isret (Y : br_Y) (pc : Nat) : Option br_V → Prop
  | none => Y.2.2.2 = none ∧ decode Y.2.1 pc = .ok (.return_, 1)
  | some (.inl x) => (∃ ty, Y.2.2.2 = some ty ∧ narrow ty (.int x) = .int x) ∧ decode Y.2.1 pc = .ok (.ireturn, 1)
  | some (.inr (.inl _)) => Y.2.2.2 = some .long ∧ decode Y.2.1 pc = .ok (.lreturn, 1)
  | some (.inr (.inr _)) => False
abbrev br_Jg : Type := Nat → List (Option br_V) → List br_V → br_Wd → Prop
/-- G is the walk of the body of Y, with room for calls of depth below d, to an end where P holds -/
def br_Ok (Y : br_Y) (d : Nat) (P : br_post) (G : br_Jg) : Prop :=
  ∃ (p : Program) (l : Launch) (e : Env) (R : Room) (s : State) (m : MethodId) (args : Array Value) (below : List Frame) (meth : Method) (c : Code) (cells slots : Nat) (Q : State → Prop) (D : va_G) (cI cZ : ClassId) (ad : Nat → Nat) (A : Nat → Prop) (H0 : Heap),
    (p.tables.exec = Jvm.exec ∧ c.code = Y.2.1 ∧ c.maxLocals = Y.2.2.1 ∧ s.vm.findClass Y.1.cls = some m.cls ∧ (∀ w ∈ br_W0, w.before args s = true)) ∧
    (va_K D vwCl (br_tys cI cZ) s ∧ (∀ σ, va_D A (br_W cI cZ ad σ)) ∧ (∀ q, H0.size ≤ q → A q) ∧ br_N s) ∧ (d ≤ R.frames ∧ 29 * d ≤ R.locals ∧ cells ≤ R.cells ∧ slots ≤ R.slots) ∧
    (∀ (v : Option br_V) (τ : br_Wd) (H : Heap) (locs : List Loc) (pc : Nat) (ls : Array Slot), P v τ → va_P D vwCl (br_W cI cZ ad τ) H → va_S A H0 H locs → br_isret Y pc v → W p l e R s m args below meth c H locs cells slots Q (F0 m pc ls (v.map (br_av ad)).toList)) ∧
    ∀ pc L st σ, G pc L st σ ↔ ∀ (H : Heap) (locs : List Loc) (ls : Array Slot), va_P D vwCl (br_W cI cZ ad σ) H → va_S A H0 H locs → lv_has ls Y.2.2.1 (br_asc ad 0 L) → W p l e R s m args below meth c H locs cells slots Q (F0 m pc ls (st.map (br_av ad)))
-- the locals of the entry
def br_ent : List br_V → List (Option br_V)
  | [] => []
  | .inr (.inl x) :: t => some (br_l x) :: none :: br_ent t
  | a :: t => some a :: br_ent t
theorem br_asc_rep (ad : Nat → Nat) : ∀ (n i : Nat), br_asc ad i (List.replicate n none) = [] := by
  intro n
  induction n with
  | zero => intro i; rfl
  | succ n ih => intro i; show br_asc ad (i + 1) (List.replicate n none) = []; exact ih (i + 1)
theorem br_asc_ent (ad : Nat → Nat) (n : Nat) : ∀ (args : List br_V) (i : Nat), br_asc ad i (br_ent args ++ List.replicate n none) = lv_args i (args.map (br_av ad)) := by
  intro args
  induction args with
  | nil => intro i; exact br_asc_rep ad n i
  | cons a t ih =>
    intro i
    match a with
    | .inl x =>
      show (i, Value.int x) :: br_asc ad (i + 1) (br_ent t ++ List.replicate n none) = _
      rw [ih (i + 1)]
      simp [lv_args, br_av, Value.category]
    | .inr (.inl x) =>
      show (i, Value.long x) :: br_asc ad (i + 1 + 1) (br_ent t ++ List.replicate n none) = _
      rw [ih (i + 1 + 1)]
      simp [lv_args, br_av, Value.category]
    | .inr (.inr x) =>
      show (i, Value.ref (ad x)) :: br_asc ad (i + 1) (br_ent t ++ List.replicate n none) = _
      rw [ih (i + 1)]
      simp [lv_args, br_av, Value.category]
theorem br_ent_len (ad : Nat → Nat) : ∀ (args : List br_V), (lg_sl (args.map (br_av ad))).length = (br_ent args).length := by
  intro args
  induction args with
  | nil => rfl
  | cons a t ih =>
    match a with
    | .inl x => simpa [lg_sl, br_ent, br_av, Value.category] using ih
    | .inr (.inl x) => simpa [lg_sl, br_ent, br_av, Value.category] using ih
    | .inr (.inr x) => simpa [lg_sl, br_ent, br_av, Value.category] using ih
theorem br_W_addr {cI cZ : ClassId} {ad : Nat → Nat} (σ τ : br_Wd) (k : Nat) (q : Nat × va_E) (h : (br_W cI cZ ad σ)[k]? = some q) : ∃ q', (br_W cI cZ ad τ)[k]? = some q' ∧ q'.1 = q.1 := by
  unfold br_W at h ⊢
  rw [br_mkW_get] at h ⊢
  cases hs : br_shps[k]? with
  | none => rw [hs] at h; cases h
  | some sh => rw [hs] at h; cases h; exact ⟨_, rfl, rfl⟩
theorem br_D_all {cI cZ : ClassId} {ad : Nat → Nat} {A : Nat → Prop} {σ : br_Wd} (h : va_D A (br_W cI cZ ad σ)) (τ : br_Wd) : va_D A (br_W cI cZ ad τ) := by
  refine ⟨fun i j p q hp hq e => ?_, fun k q hq => ?_⟩
  · obtain ⟨p', hp', e1⟩ := br_W_addr τ σ i p hp
    obtain ⟨q', hq', e2⟩ := br_W_addr τ σ j q hq
    exact h.1 i j p' q' hp' hq' (by rw [e1, e2]; exact e)
  · obtain ⟨q', hq', e⟩ := br_W_addr τ σ k q hq
    rw [← e]
    exact h.2 k q' hq'
theorem br_ofW {Y : br_Y} {d : Nat} {args : List br_V} {σ : br_Wd} {P : br_post} (hy : plainName Y.1.cls = true) (n : Nat) (hn : (br_ent args).length + n = Y.2.2.1)
    (h : ∀ G, br_Ok Y d P G → G 0 (br_ent args ++ List.replicate n none) [] σ) : br_Met d Y args σ P := by
  intro l D cI cZ ad sz
  refine Met.ofW (cc := Y.2.1) (maxL := Y.2.2.1) (ret := Y.2.2.2) hy rfl ?_
  intro p e s m args' below meth c s₁ B hml hv
  obtain ⟨rfl, hsz, hP, hK, hD0, hN⟩ := hv
  subst hsz
  have hx := B.exec
  have hb := B.bytes
  have hr := B.returns
  have hts := atoms_spec (ws := br_ws Y) B.pre
  have hown : s.vm.findClass Y.1.cls = some m.cls := findClass_of_methodNamed B.named
  have hlocks := B.notSynchronized
  have hD := hD0.self (sz := s.heap.size)
  rw [lg_entry_eq]
  have hl := lv_entry (args.map (br_av ad)) (n := Y.2.2.1) (by rw [br_ent_len]; omega)
  rw [← br_asc_ent ad n] at hl
  refine ((?_ : (fun pc L st τ => ∀ (H : Heap) (locs : List Loc) (ls : Array Slot), va_P D vwCl (br_W cI cZ ad τ) H → va_S (va_A (br_W cI cZ ad σ) s.heap.size) s.heap H locs → lv_has ls Y.2.2.1 (br_asc ad 0 L) → W p l e (headSpec (br_ws Y) (br_room d)).room s m (args.map (br_av ad)).toArray below meth c H locs 0 0 (MQ below (br_Q D cI cZ ad (va_A (br_W cI cZ ad σ) s.heap.size) P) (args.map (br_av ad)).toArray s 0 0 (va_A (br_W cI cZ ad σ) s.heap.size)) (F0 m pc ls (st.map (br_av ad)))) 0 (br_ent args ++ List.replicate n none) [] σ)) s.heap [] _ hP va_S.rf hl
  refine h _ ⟨p, l, e, _, s, m, _, below, meth, c, 0, 0, _, D, cI, cZ, ad, _, s.heap, ⟨hx, hb, hml, hown, fun w hw => hts w (List.mem_cons_of_mem _ hw)⟩, ⟨hK, fun τ => br_D_all hD τ, fun q hq => Or.inr hq, hN⟩, ⟨Nat.le_refl _, Nat.le_refl _, Nat.zero_le _, Nat.zero_le _⟩, ?_, fun pc L st τ => Iff.rfl⟩
  intro v τ H locs pc ls hp hPH hS hret
  have hq : ∀ t : State, t.heap = H → s.WarmedH t.vm → br_Q D cI cZ ad (va_A (br_W cI cZ ad σ) s.heap.size) P (args.map (br_av ad)).toArray s (.returned (v.map (br_av ad))) t := fun t ht hW => ⟨⟨v, τ, rfl, hp, by rw [ht]; exact hPH⟩, hS.F ht⟩
  match v, hret, hq with
  | none, hret, hq => exact W.vret hx hb (hr.trans hret.1) hq hS.2.2 hret.2
  | some (.inl x), hret, hq =>
    obtain ⟨⟨ty, h1, h2⟩, h3⟩ := hret
    exact W.zret (v := x) (ty := ty) hx hb (hr.trans h1) h2 hq hS.2.2 h3
  | some (.inr (.inl x)), hret, hq => exact W.lret (v := x) hx hb (hr.trans hret.1) hq hS.2.2 hret.2
  | some (.inr (.inr q)), hret, hq => exact hret.elim
