/-! An abstract machine over a fixed world of 32 cells: places instead of addresses, one function for what they hold; a rule an instruction, proved once over the kit's rows. -/
-- words: all words of the tables that a call can hand on
def br_W0 : List Cond := lw_tbl.filter goodWord
theorem br_W0_in {w : Cond} {i : Nat} (h : lw_tbl[i]? = some w) (hg : goodWord w = true) : w ∈ br_W0 := List.mem_filter.mpr ⟨List.mem_of_getElem? h, hg⟩
theorem br_W0_good {w : Cond} (h : w ∈ br_W0) : (w.onTables && w.keeps) = true ∨ ∃ ty, w = .arrayClass ty := good_of_word (List.mem_filter.mp h).2
def br_nest : List (String × Nat × String × String × String × String) := [("BarRoutine$Gym", 25, "BarRoutine$Page", "length", "I", "BarRoutine"), ("BarRoutine", 68, "BarRoutine$Page", "length", "I", "BarRoutine"), ("BarRoutine", 91, "BarRoutine$Gym", "size", "I", "BarRoutine"), ("BarRoutine", 87, "BarRoutine$Routine", "size", "I", "BarRoutine"), ("BarRoutine", 90, "BarRoutine$Tries", "size", "I", "BarRoutine")]
def br_nw (w : String × Nat × String × String × String × String) : Cond := .fieldLinkNest w.1 w.2.1 w.2.2.1 w.2.2.2.1 w.2.2.2.2.1 w.2.2.2.2.2
def br_nestM : List (String × Nat × MethodName) := [("BarRoutine", 11, ⟨"BarRoutine$Page", "<init>", "()V"⟩), ("BarRoutine", 18, ⟨"BarRoutine$Gym", "<init>", "()V"⟩), ("BarRoutine$Routine", 52, ⟨"BarRoutine", "chanceOf", "(III)I"⟩), ("BarRoutine$Tries", 40, ⟨"BarRoutine", "chanceOf", "(III)I"⟩)]
def br_nm (w : String × Nat × MethodName) : Cond := .methodLinkNest w.1 w.2.1 w.2.2 "BarRoutine"
def br_N (U : State) : Prop := (∀ w ∈ br_nest, va_Nw (br_nw w) U) ∧ ∀ w ∈ br_nestM, va_Nw (br_nm w) U
theorem br_N.warm {s U : State} (hW : s.WarmedH U.vm) (h : br_N s) : br_N U := ⟨fun w hw => va_Nw.warmF hW (h.1 w hw), fun w hw => va_Nw.warmM hW (h.2 w hw)⟩
theorem br_N.same {u U : State} (e : u.vm = U.vm) (h : br_N u) : br_N U := ⟨fun w hw => va_Nw.same rfl e (h.1 w hw), fun w hw => va_Nw.same rfl e (h.2 w hw)⟩
-- values and worlds
abbrev br_V : Type := Int32 ⊕ (Int64 ⊕ Nat)
abbrev br_Wd : Type := (Nat → Nat → Int32) × Int64
abbrev br_i (x : Int32) : br_V := .inl x
abbrev br_l (x : Int64) : br_V := .inr (.inl x)
abbrev br_r (q : Nat) : br_V := .inr (.inr q)
def br_av (ad : Nat → Nat) : br_V → Value
  | .inl x => .int x
  | .inr (.inl x) => .long x
  | .inr (.inr q) => .ref (ad q)
def br_isl : br_V → Bool
  | .inr (.inl _) => true
  | _ => false
def br_up (σ : br_Wd) (q k : Nat) (v : Int32) : br_Wd := (fun q' k' => if q' = q then (if k' = k then v else σ.1 q' k') else σ.1 q' k', σ.2)
def br_upl (σ : br_Wd) (v : Int64) : br_Wd := (σ.1, v)
-- the shapes of the cells
abbrev br_FK : Type := Option (Option Nat)
abbrev br_Sh : Type := (Bool × Nat) ⊕ (Nat × List br_FK)
abbrev br_fr (q : Nat) : br_FK := some (some q)
def br_shps : List br_Sh := [
  .inr (4, [br_fr 1, br_fr 3, br_fr 7, br_fr 15, none, none, br_fr 9, br_fr 19, none, br_fr 11, br_fr 13, none, none]),
  .inr (1, [br_fr 2, none]), .inl (false, 30),
  .inr (0, [br_fr 4, br_fr 5, br_fr 6, none]), .inl (false, 7), .inl (false, 7), .inl (false, 7),
  .inr (2, [br_fr 3, br_fr 8, none]), .inl (false, 5),
  .inr (2, [br_fr 3, br_fr 10, none]), .inl (false, 5),
  .inr (2, [br_fr 3, br_fr 12, none]), .inl (false, 5),
  .inr (2, [br_fr 3, br_fr 14, none]), .inl (false, 5),
  .inr (3, [br_fr 3, br_fr 16, br_fr 17, br_fr 18, none]), .inl (false, 8), .inl (false, 8), .inl (true, 8),
  .inr (3, [br_fr 3, br_fr 20, br_fr 21, br_fr 22, none]), .inl (false, 8), .inl (false, 8), .inl (true, 8),
  .inr (5, [br_fr 24, none, none, none, none, br_fr 25, br_fr 26, none, none, br_fr 27, br_fr 28, none, br_fr 29, none, none, none, none, none, br_fr 30, br_fr 31, some none]),
  .inl (false, 30), .inl (false, 21), .inl (false, 5), .inl (false, 5), .inl (false, 5), .inl (false, 24), .inl (false, 5), .inl (false, 24)]
def br_fv (ad : Nat → Nat) (σ : br_Wd) (q k : Nat) : br_FK → Value
  | none => .int (σ.1 q k)
  | some none => .long σ.2
  | some (some r) => .ref (ad r)
def br_mkF (ad : Nat → Nat) (σ : br_Wd) (q : Nat) : Nat → List br_FK → List Value
  | _, [] => []
  | k, f :: fs => br_fv ad σ q k f :: br_mkF ad σ q (k + 1) fs
def br_mkE (cI cZ : ClassId) (ad : Nat → Nat) (σ : br_Wd) (q : Nat) : br_Sh → va_E
  | .inl (z, n) => .inl (cond z cZ cI, n, .inl (σ.1 q))
  | .inr (ci, fs) => .inr (ci, br_mkF ad σ q 0 fs)
def br_mkW (cI cZ : ClassId) (ad : Nat → Nat) (σ : br_Wd) : Nat → List br_Sh → va_W
  | _, [] => []
  | q, sh :: t => (ad q, br_mkE cI cZ ad σ q sh) :: br_mkW cI cZ ad σ (q + 1) t
def br_W (cI cZ : ClassId) (ad : Nat → Nat) (σ : br_Wd) : va_W := br_mkW cI cZ ad σ 0 br_shps
theorem br_mkF_get (ad : Nat → Nat) (σ : br_Wd) (q : Nat) : ∀ (fs : List br_FK) (k j : Nat), (br_mkF ad σ q k fs)[j]? = fs[j]?.map (br_fv ad σ q (k + j)) := by
  intro fs
  induction fs with
  | nil => intro k j; simp [br_mkF]
  | cons f fs ih =>
    intro k j
    cases j with
    | zero => simp [br_mkF]
    | succ j =>
      simp only [br_mkF, List.getElem?_cons_succ]
      rw [ih (k + 1) j, show k + 1 + j = k + (j + 1) by omega]
theorem br_mkW_get (cI cZ : ClassId) (ad : Nat → Nat) (σ : br_Wd) : ∀ (shs : List br_Sh) (q j : Nat), (br_mkW cI cZ ad σ q shs)[j]? = shs[j]?.map (fun sh => (ad (q + j), br_mkE cI cZ ad σ (q + j) sh)) := by
  intro shs
  induction shs with
  | nil => intro k j; simp [br_mkW]
  | cons f fs ih =>
    intro k j
    cases j with
    | zero => simp [br_mkW]
    | succ j =>
      simp only [br_mkW, List.getElem?_cons_succ]
      rw [ih (k + 1) j, show k + 1 + j = k + (j + 1) by omega]
theorem br_W_get {cI cZ : ClassId} {ad : Nat → Nat} {σ : br_Wd} {q : Nat} {sh : br_Sh} (h : br_shps[q]? = some sh) : (br_W cI cZ ad σ)[q]? = some (ad q, br_mkE cI cZ ad σ q sh) := by
  unfold br_W
  rw [br_mkW_get, h]
  simp
theorem br_mkF_put {ad : Nat → Nat} {σ : br_Wd} {q k : Nat} {v : Int32} {fs : List br_FK} (hk : fs[k]? = some none) : (br_mkF ad σ q 0 fs).set k (.int v) = br_mkF ad (br_up σ q k v) q 0 fs := by
  apply List.ext_getElem?
  intro j
  rw [List.getElem?_set, br_mkF_get, br_mkF_get]
  have hl : k < fs.length := (List.getElem?_eq_some_iff.mp hk).1
  have hl2 : k < (br_mkF ad σ q 0 fs).length := by
    have := br_mkF_get ad σ q fs 0 k
    rw [hk] at this
    exact (List.getElem?_eq_some_iff.mp this).1
  by_cases e : k = j
  · subst e
    rw [if_pos rfl, if_pos hl2, hk]
    simp [br_fv, br_up]
  · rw [if_neg e]
    have e' : ¬ j = k := fun h => e h.symm
    cases hj : fs[j]? with
    | none => simp
    | some f =>
      cases f with
      | none => simp [br_fv, br_up, e']
      | some f => cases f <;> simp [br_fv, br_up]
theorem br_mkE_up {cI cZ : ClassId} {ad : Nat → Nat} {σ : br_Wd} {q k j : Nat} {v : Int32} (sh : br_Sh) (h : ¬ j = q) : br_mkE cI cZ ad (br_up σ q k v) j sh = br_mkE cI cZ ad σ j sh := by
  have e1 : (br_up σ q k v).1 j = σ.1 j := by funext k'; simp [br_up, h]
  cases sh with
  | inl a => obtain ⟨z, n⟩ := a; simp [br_mkE, e1]
  | inr a =>
    obtain ⟨ci, fs⟩ := a
    simp only [br_mkE]
    congr 2
    apply List.ext_getElem?
    intro i
    rw [br_mkF_get, br_mkF_get]
    cases fs[i]? with
    | none => rfl
    | some f =>
      cases f with
      | none => simp [br_fv, e1]
      | some f => cases f <;> simp [br_fv, br_up]
theorem br_W_up {cI cZ : ClassId} {ad : Nat → Nat} {σ : br_Wd} {q k : Nat} {v : Int32} {sh : br_Sh} (h : br_shps[q]? = some sh) : (br_W cI cZ ad σ).set q (ad q, br_mkE cI cZ ad (br_up σ q k v) q sh) = br_W cI cZ ad (br_up σ q k v) := by
  apply List.ext_getElem?
  intro j
  have hl : q < (br_W cI cZ ad σ).length := (List.getElem?_eq_some_iff.mp (br_W_get h)).1
  rw [List.getElem?_set]
  by_cases e : q = j
  · subst e
    rw [if_pos rfl, if_pos hl, br_W_get h]
  · rw [if_neg e]
    unfold br_W
    rw [br_mkW_get, br_mkW_get]
    cases br_shps[j]? with
    | none => rfl
    | some s2 => simp only [Option.map_some]; rw [br_mkE_up s2 (by omega)]
theorem br_mkE_upl {cI cZ : ClassId} {ad : Nat → Nat} {σ : br_Wd} {j : Nat} {v : Int64} (sh : br_Sh) (h : ∀ ci fs, sh = .inr (ci, fs) → some none ∉ fs) : br_mkE cI cZ ad (br_upl σ v) j sh = br_mkE cI cZ ad σ j sh := by
  cases sh with
  | inl a => rfl
  | inr a =>
    obtain ⟨ci, fs⟩ := a
    have hn := h ci fs rfl
    simp only [br_mkE]
    congr 2
    apply List.ext_getElem?
    intro i
    rw [br_mkF_get, br_mkF_get]
    cases hf : fs[i]? with
    | none => rfl
    | some f =>
      cases f with
      | none => rfl
      | some f =>
        cases f with
        | none => exact absurd (List.mem_of_getElem? hf) hn
        | some r => rfl
theorem br_shps_long : ∀ j : Nat, j < 32 → j ≠ 23 → ∀ sh, br_shps[j]? = some sh → ∀ ci fs, sh = .inr (ci, fs) → some none ∉ fs := by
  intro j hj h23 sh hs ci fs e
  subst e
  have key : (br_shps.zipIdx.all fun q => q.2 == 23 || match q.1 with | .inl _ => true | .inr (_, fs) => !(fs.contains (some none))) = true := by decide +kernel
  have hm : ((Sum.inr (ci, fs) : br_Sh), j) ∈ br_shps.zipIdx := by
    rw [List.mem_zipIdx_iff_getElem?]
    exact hs
  have h1 := List.all_eq_true.mp key _ hm
  simp only [Bool.or_eq_true, beq_iff_eq, Bool.not_eq_true', List.contains_eq_mem, decide_eq_false_iff_not] at h1
  rcases h1 with h1 | h1
  · exact absurd h1 h23
  · exact h1
theorem br_W_upl {cI cZ : ClassId} {ad : Nat → Nat} {σ : br_Wd} {v : Int64} {sh : br_Sh} (h : br_shps[23]? = some sh) : (br_W cI cZ ad σ).set 23 (ad 23, br_mkE cI cZ ad (br_upl σ v) 23 sh) = br_W cI cZ ad (br_upl σ v) := by
  apply List.ext_getElem?
  intro j
  have hl : 23 < (br_W cI cZ ad σ).length := (List.getElem?_eq_some_iff.mp (br_W_get h)).1
  rw [List.getElem?_set]
  by_cases e : 23 = j
  · subst e
    rw [if_pos rfl, if_pos hl, br_W_get h]
  · rw [if_neg e]
    unfold br_W
    rw [br_mkW_get, br_mkW_get]
    cases hs : br_shps[j]? with
    | none => rfl
    | some s2 =>
      have hj : j < 32 := (List.getElem?_eq_some_iff.mp hs).1
      simp only [Option.map_some]
      rw [br_mkE_upl s2 (br_shps_long j hj (fun q => e q.symm) s2 hs)]
-- locals by their places
def br_asc (ad : Nat → Nat) : Nat → List (Option br_V) → List (Nat × Value)
  | _, [] => []
  | i, none :: t => br_asc ad (i + 1) t
  | i, some v :: t => (i, br_av ad v) :: br_asc ad (i + 1) t
theorem br_asc_mem {ad : Nat → Nat} : ∀ (L : List (Option br_V)) (k : Nat) (q : Nat × Value), q ∈ br_asc ad k L ↔ ∃ j v, L[j]? = some (some v) ∧ q = (k + j, br_av ad v) := by
  intro L
  induction L with
  | nil => intro k q; simp [br_asc]
  | cons a t ih =>
    intro k q
    cases a with
    | none =>
      simp only [br_asc]
      rw [ih]
      constructor
      · rintro ⟨j, v, h1, h2⟩
        exact ⟨j + 1, v, by simpa using h1, by rw [h2]; congr 1; omega⟩
      · rintro ⟨j, v, h1, h2⟩
        cases j with
        | zero => simp at h1
        | succ j => exact ⟨j, v, by simpa using h1, by rw [h2]; congr 1; omega⟩
    | some w =>
      simp only [br_asc, List.mem_cons]
      rw [ih]
      constructor
      · rintro (h | ⟨j, v, h1, h2⟩)
        · exact ⟨0, w, by simp, by simpa using h⟩
        · exact ⟨j + 1, v, by simpa using h1, by rw [h2]; congr 1; omega⟩
      · rintro ⟨j, v, h1, h2⟩
        cases j with
        | zero =>
          simp only [List.getElem?_cons_zero, Option.some.injEq] at h1
          subst h1
          exact Or.inl (by simpa using h2)
        | succ j => exact Or.inr ⟨j, v, by simpa using h1, by rw [h2]; congr 1; omega⟩
theorem br_loc {ad : Nat → Nat} {ls : Array Slot} {n : Nat} {L : List (Option br_V)} (h : lv_has ls n (br_asc ad 0 L)) {i : Nat} {v : br_V} (hl : L[i]? = some (some v)) : ls[i]? = some (.val (br_av ad v)) :=
  h.2.2 (i, br_av ad v) ((br_asc_mem L 0 _).mpr ⟨i, v, hl, by rw [Nat.zero_add]⟩)
/-- no long begins just ahead of place i -/
def br_okst (L : List (Option br_V)) : Nat → Bool
  | 0 => true
  | j + 1 => match L[j]? with
    | some (some v) => !(br_isl v)
    | _ => true
theorem br_cat (ad : Nat → Nat) (v : br_V) : (br_av ad v).category = 2 ↔ br_isl v = true := by
  match v with
  | .inl x => simp [br_av, br_isl, Value.category]
  | .inr (.inl x) => simp [br_av, br_isl, Value.category]
  | .inr (.inr q) => simp [br_av, br_isl, Value.category]
theorem br_keep1 {ad : Nat → Nat} {L : List (Option br_V)} {i : Nat} {q : Nat × Value} (ho : br_okst L i = true) (hq : q ∈ br_asc ad 0 L) (hne : ¬ q.1 = i) : (q.1 + 1 == i && q.2.category == 2) = false := by
  obtain ⟨j, v, h1, rfl⟩ := (br_asc_mem L 0 q).mp hq
  simp only [Nat.zero_add]
  by_cases e : j + 1 = i
  · subst e
    simp only [br_okst, h1, Bool.not_eq_true'] at ho
    have : ¬ (br_av ad v).category = 2 := fun h => by rw [(br_cat ad v).mp h] at ho; cases ho
    simp [this]
  · simp [e]
theorem br_set1 {ad : Nat → Nat} {ls : Array Slot} {n : Nat} {L : List (Option br_V)} {i : Nat} {v : br_V} (ho : br_okst L i = true)
    (h : lv_has ls n ((i, br_av ad v) :: (br_asc ad 0 L).filter (fun q => !(q.1 == i) && !(q.1 + 1 == i && q.2.category == 2)))) : lv_has ls n (br_asc ad 0 (L.set i (some v))) := by
  refine ⟨h.1, h.2.1, fun q hq => h.2.2 q ?_⟩
  obtain ⟨j, w, h1, rfl⟩ := (br_asc_mem _ 0 q).mp hq
  rw [List.getElem?_set] at h1
  by_cases e : i = j
  · subst e
    rw [if_pos rfl] at h1
    split at h1
    · cases h1
      simp
    · cases h1
  · rw [if_neg e] at h1
    refine List.mem_cons_of_mem _ (List.mem_filter.mpr ⟨(br_asc_mem L 0 _).mpr ⟨j, w, h1, rfl⟩, ?_⟩)
    have hne : ¬ ((0 + j, br_av ad w) : Nat × Value).1 = i := by simp; omega
    rw [br_keep1 ho ((br_asc_mem L 0 _).mpr ⟨j, w, h1, rfl⟩) hne]
    simpa using hne
theorem br_set2 {ad : Nat → Nat} {ls : Array Slot} {n : Nat} {L : List (Option br_V)} {i : Nat} {v : br_V} (ho : br_okst L i = true)
    (h : lv_has ls n ((i, br_av ad v) :: (br_asc ad 0 L).filter (fun q => !(q.1 == i) && (!(q.1 == i + 1) && !(q.1 + 1 == i && q.2.category == 2))))) : lv_has ls n (br_asc ad 0 ((L.set i (some v)).set (i + 1) none)) := by
  refine ⟨h.1, h.2.1, fun q hq => h.2.2 q ?_⟩
  obtain ⟨j, w, h1, rfl⟩ := (br_asc_mem _ 0 q).mp hq
  rw [List.getElem?_set] at h1
  by_cases e1 : i + 1 = j
  · rw [if_pos e1] at h1
    split at h1 <;> cases h1
  · rw [if_neg e1, List.getElem?_set] at h1
    by_cases e : i = j
    · subst e
      rw [if_pos rfl] at h1
      split at h1
      · cases h1
        simp
      · cases h1
    · rw [if_neg e] at h1
      refine List.mem_cons_of_mem _ (List.mem_filter.mpr ⟨(br_asc_mem L 0 _).mpr ⟨j, w, h1, rfl⟩, ?_⟩)
      have hne : ¬ ((0 + j, br_av ad w) : Nat × Value).1 = i := by simp; omega
      rw [br_keep1 ho ((br_asc_mem L 0 _).mpr ⟨j, w, h1, rfl⟩) hne]
      have hne2 : ¬ ((0 + j, br_av ad w) : Nat × Value).1 = i + 1 := by simp; omega
      simp only [Bool.not_false, Bool.and_true, Bool.and_eq_true, Bool.not_eq_true', beq_eq_false_iff_ne, ne_eq]
      exact ⟨hne, hne2⟩
-- fewer known locals
def br_sub (L' L : List (Option br_V)) : Prop := ∀ (j : Nat) (v : br_V), L'[j]? = some (some v) → L[j]? = some (some v)
theorem br_sub.has {ad : Nat → Nat} {ls : Array Slot} {n : Nat} {L L' : List (Option br_V)} (hs : br_sub L' L) (h : lv_has ls n (br_asc ad 0 L)) : lv_has ls n (br_asc ad 0 L') := by
  refine ⟨h.1, h.2.1, fun q hq => ?_⟩
  obtain ⟨j, w, h1, rfl⟩ := (br_asc_mem _ 0 q).mp hq
  exact h.2.2 _ ((br_asc_mem L 0 _).mpr ⟨j, w, hs j w h1, rfl⟩)
theorem br_sub.nil {L : List (Option br_V)} : br_sub [] L := fun j v h => by simp at h
theorem br_sub.same {L L' : List (Option br_V)} {a : Option br_V} (h : br_sub L' L) : br_sub (a :: L') (a :: L) := fun j v hj => by
  cases j with
  | zero => simpa using hj
  | succ j => simpa using h j v (by simpa using hj)
theorem br_sub.drop {L L' : List (Option br_V)} {a : Option br_V} (h : br_sub L' L) : br_sub (none :: L') (a :: L) := fun j v hj => by
  cases j with
  | zero => simp at hj
  | succ j => simpa using h j v (by simpa using hj)
theorem br_sub.rfl {L : List (Option br_V)} : br_sub L L := fun _ _ h => h
