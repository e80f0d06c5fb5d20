theorem br_iload_n {Y : br_Y} {d : Nat} {P : br_post} {G : br_Jg} (C : br_Ok Y d P G) {k : Fin 4} {i : Nat} {x : Int32} {pc : Nat} {L : List (Option br_V)} {st : List br_V} {σ : br_Wd} (hd : decode Y.2.1 pc = .ok (.iload_n k, 1)) (hi : (k : Nat) = i) (hl : L[i]? = some (some (br_i x))) (kk : G (pc + 1) L (br_i x :: st) σ) : G pc L st σ := by
  obtain ⟨p, l, e, R, s, m, args, below, meth, c, cells, slots, Q, D, cI, cZ, ad, A, H0, ⟨hx, hb, hml, hown, hts⟩, ⟨hK, hD, hA, hN⟩, hR, hfin, hG⟩ := C
  rw [hG] at kk ⊢
  intro H locs ls hP hS hl'
  exact lv_iload_n hx hb hd hi (br_loc hl' hl) (kk H locs ls hP hS hl')
theorem br_iload {Y : br_Y} {d : Nat} {P : br_post} {G : br_Jg} (C : br_Ok Y d P G) {i : Nat} {x : Int32} {pc : Nat} {L : List (Option br_V)} {st : List br_V} {σ : br_Wd} (hd : decode Y.2.1 pc = .ok (.iload i, 2)) (hl : L[i]? = some (some (br_i x))) (kk : G (pc + 2) L (br_i x :: st) σ) : G pc L st σ := by
  obtain ⟨p, l, e, R, s, m, args, below, meth, c, cells, slots, Q, D, cI, cZ, ad, A, H0, ⟨hx, hb, hml, hown, hts⟩, ⟨hK, hD, hA, hN⟩, hR, hfin, hG⟩ := C
  rw [hG] at kk ⊢
  intro H locs ls hP hS hl'
  exact lv_iload hx hb hd (br_loc hl' hl) (kk H locs ls hP hS hl')
theorem br_lload_n {Y : br_Y} {d : Nat} {P : br_post} {G : br_Jg} (C : br_Ok Y d P G) {k : Fin 4} {i : Nat} {x : Int64} {pc : Nat} {L : List (Option br_V)} {st : List br_V} {σ : br_Wd} (hd : decode Y.2.1 pc = .ok (.lload_n k, 1)) (hi : (k : Nat) = i) (hl : L[i]? = some (some (br_l x))) (kk : G (pc + 1) L (br_l x :: st) σ) : G pc L st σ := by
  obtain ⟨p, l, e, R, s, m, args, below, meth, c, cells, slots, Q, D, cI, cZ, ad, A, H0, ⟨hx, hb, hml, hown, hts⟩, ⟨hK, hD, hA, hN⟩, hR, hfin, hG⟩ := C
  rw [hG] at kk ⊢
  intro H locs ls hP hS hl'
  exact lv_lload_n hx hb hd hi (br_loc hl' hl) (kk H locs ls hP hS hl')
theorem br_lload {Y : br_Y} {d : Nat} {P : br_post} {G : br_Jg} (C : br_Ok Y d P G) {i : Nat} {x : Int64} {pc : Nat} {L : List (Option br_V)} {st : List br_V} {σ : br_Wd} (hd : decode Y.2.1 pc = .ok (.lload i, 2)) (hl : L[i]? = some (some (br_l x))) (kk : G (pc + 2) L (br_l x :: st) σ) : G pc L st σ := by
  obtain ⟨p, l, e, R, s, m, args, below, meth, c, cells, slots, Q, D, cI, cZ, ad, A, H0, ⟨hx, hb, hml, hown, hts⟩, ⟨hK, hD, hA, hN⟩, hR, hfin, hG⟩ := C
  rw [hG] at kk ⊢
  intro H locs ls hP hS hl'
  exact lv_lload hx hb hd (br_loc hl' hl) (kk H locs ls hP hS hl')
theorem br_aload_n {Y : br_Y} {d : Nat} {P : br_post} {G : br_Jg} (C : br_Ok Y d P G) {k : Fin 4} {i : Nat} {x : Nat} {pc : Nat} {L : List (Option br_V)} {st : List br_V} {σ : br_Wd} (hd : decode Y.2.1 pc = .ok (.aload_n k, 1)) (hi : (k : Nat) = i) (hl : L[i]? = some (some (br_r x))) (kk : G (pc + 1) L (br_r x :: st) σ) : G pc L st σ := by
  obtain ⟨p, l, e, R, s, m, args, below, meth, c, cells, slots, Q, D, cI, cZ, ad, A, H0, ⟨hx, hb, hml, hown, hts⟩, ⟨hK, hD, hA, hN⟩, hR, hfin, hG⟩ := C
  rw [hG] at kk ⊢
  intro H locs ls hP hS hl'
  exact lv_aload_n hx hb hd hi (br_loc hl' hl) (kk H locs ls hP hS hl')
theorem br_aload {Y : br_Y} {d : Nat} {P : br_post} {G : br_Jg} (C : br_Ok Y d P G) {i : Nat} {x : Nat} {pc : Nat} {L : List (Option br_V)} {st : List br_V} {σ : br_Wd} (hd : decode Y.2.1 pc = .ok (.aload i, 2)) (hl : L[i]? = some (some (br_r x))) (kk : G (pc + 2) L (br_r x :: st) σ) : G pc L st σ := by
  obtain ⟨p, l, e, R, s, m, args, below, meth, c, cells, slots, Q, D, cI, cZ, ad, A, H0, ⟨hx, hb, hml, hown, hts⟩, ⟨hK, hD, hA, hN⟩, hR, hfin, hG⟩ := C
  rw [hG] at kk ⊢
  intro H locs ls hP hS hl'
  exact lv_aload hx hb hd (br_loc hl' hl) (kk H locs ls hP hS hl')
theorem br_iconst {Y : br_Y} {d : Nat} {P : br_post} {G : br_Jg} (C : br_Ok Y d P G) {n : Int} {v : Int32} {pc : Nat} {L : List (Option br_V)} {st : List br_V} {σ : br_Wd} (hd : decode Y.2.1 pc = .ok (.iconst n, 1)) (hv : Int32.ofInt n = v) (kk : G (pc + 1) L (br_i v :: st) σ) : G pc L st σ := by
  obtain ⟨p, l, e, R, s, m, args, below, meth, c, cells, slots, Q, D, cI, cZ, ad, A, H0, ⟨hx, hb, hml, hown, hts⟩, ⟨hK, hD, hA, hN⟩, hR, hfin, hG⟩ := C
  rw [hG] at kk ⊢
  intro H locs ls hP hS hl'
  exact lv_iconst hx hb hd hv (kk H locs ls hP hS hl')
theorem br_bipush {Y : br_Y} {d : Nat} {P : br_post} {G : br_Jg} (C : br_Ok Y d P G) {n : Int} {v : Int32} {pc : Nat} {L : List (Option br_V)} {st : List br_V} {σ : br_Wd} (hd : decode Y.2.1 pc = .ok (.bipush n, 2)) (hv : (Int8.ofInt n).toInt32 = v) (kk : G (pc + 2) L (br_i v :: st) σ) : G pc L st σ := by
  obtain ⟨p, l, e, R, s, m, args, below, meth, c, cells, slots, Q, D, cI, cZ, ad, A, H0, ⟨hx, hb, hml, hown, hts⟩, ⟨hK, hD, hA, hN⟩, hR, hfin, hG⟩ := C
  rw [hG] at kk ⊢
  intro H locs ls hP hS hl'
  exact lv_bipush hx hb hd hv (kk H locs ls hP hS hl')
theorem br_sipush {Y : br_Y} {d : Nat} {P : br_post} {G : br_Jg} (C : br_Ok Y d P G) {n : Int} {v : Int32} {pc : Nat} {L : List (Option br_V)} {st : List br_V} {σ : br_Wd} (hd : decode Y.2.1 pc = .ok (.sipush n, 3)) (hv : (Int16.ofInt n).toInt32 = v) (kk : G (pc + 3) L (br_i v :: st) σ) : G pc L st σ := by
  obtain ⟨p, l, e, R, s, m, args, below, meth, c, cells, slots, Q, D, cI, cZ, ad, A, H0, ⟨hx, hb, hml, hown, hts⟩, ⟨hK, hD, hA, hN⟩, hR, hfin, hG⟩ := C
  rw [hG] at kk ⊢
  intro H locs ls hP hS hl'
  exact lv_sipush hx hb hd hv (kk H locs ls hP hS hl')
theorem br_lconst {Y : br_Y} {d : Nat} {P : br_post} {G : br_Jg} (C : br_Ok Y d P G) {n : Fin 2} {v : Int64} {pc : Nat} {L : List (Option br_V)} {st : List br_V} {σ : br_Wd} (hd : decode Y.2.1 pc = .ok (.lconst n, 1)) (hv : Int64.ofNat (n : Nat) = v) (kk : G (pc + 1) L (br_l v :: st) σ) : G pc L st σ := by
  obtain ⟨p, l, e, R, s, m, args, below, meth, c, cells, slots, Q, D, cI, cZ, ad, A, H0, ⟨hx, hb, hml, hown, hts⟩, ⟨hK, hD, hA, hN⟩, hR, hfin, hG⟩ := C
  rw [hG] at kk ⊢
  intro H locs ls hP hS hl'
  exact lv_lconst hx hb hd hv (kk H locs ls hP hS hl')
theorem br_ldc {Y : br_Y} {d : Nat} {P : br_post} {G : br_Jg} (C : br_Ok Y d P G) {index : Nat} {v : Int32} {pc : Nat} {L : List (Option br_V)} {st : List br_V} {σ : br_Wd} (hd : decode Y.2.1 pc = .ok (.ldc index, 2)) (hw : Cond.constant Y.1.cls index v ∈ br_W0) (kk : G (pc + 2) L (br_i v :: st) σ) : G pc L st σ := by
  obtain ⟨p, l, e, R, s, m, args, below, meth, c, cells, slots, Q, D, cI, cZ, ad, A, H0, ⟨hx, hb, hml, hown, hts⟩, ⟨hK, hD, hA, hN⟩, hR, hfin, hG⟩ := C
  rw [hG] at kk ⊢
  intro H locs ls hP hS hl'
  exact lv_ldc hx hb hown (hts _ hw) hd (kk H locs ls hP hS hl')
theorem br_ldc2 {Y : br_Y} {d : Nat} {P : br_post} {G : br_Jg} (C : br_Ok Y d P G) {index : Nat} {v : Int64} {pc : Nat} {L : List (Option br_V)} {st : List br_V} {σ : br_Wd} (hd : decode Y.2.1 pc = .ok (.ldc2_w index, 3)) (hw : Cond.constantLong Y.1.cls index v ∈ br_W0) (kk : G (pc + 3) L (br_l v :: st) σ) : G pc L st σ := by
  obtain ⟨p, l, e, R, s, m, args, below, meth, c, cells, slots, Q, D, cI, cZ, ad, A, H0, ⟨hx, hb, hml, hown, hts⟩, ⟨hK, hD, hA, hN⟩, hR, hfin, hG⟩ := C
  rw [hG] at kk ⊢
  intro H locs ls hP hS hl'
  exact lv_ldc2 hx hb hown (hts _ hw) hd (kk H locs ls hP hS hl')
theorem br_istore_n {Y : br_Y} {d : Nat} {P : br_post} {G : br_Jg} (C : br_Ok Y d P G) {k : Fin 4} {i : Nat} {x : Int32} {L' : List (Option br_V)} {pc : Nat} {L : List (Option br_V)} {st : List br_V} {σ : br_Wd} (hd : decode Y.2.1 pc = .ok (.istore_n k, 1)) (hi : (k : Nat) = i) (hn : i < Y.2.2.1) (ho : br_okst L i = true) (hL : L.set i (some (br_i x)) = L') (kk : G (pc + 1) L' st σ) : G pc L (br_i x :: st) σ := by
  obtain ⟨p, l, e, R, s, m, args, below, meth, c, cells, slots, Q, D, cI, cZ, ad, A, H0, ⟨hx, hb, hml, hown, hts⟩, ⟨hK, hD, hA, hN⟩, hR, hfin, hG⟩ := C
  rw [hG] at kk ⊢
  intro H locs ls hP hS hl'
  exact lv_istore_n hx hb hd hi hl' hn rfl (fun ls h => kk H locs ls hP hS (by rw [← hL]; exact br_set1 (v := br_i x) ho h))
theorem br_istore {Y : br_Y} {d : Nat} {P : br_post} {G : br_Jg} (C : br_Ok Y d P G) {i : Nat} {x : Int32} {L' : List (Option br_V)} {pc : Nat} {L : List (Option br_V)} {st : List br_V} {σ : br_Wd} (hd : decode Y.2.1 pc = .ok (.istore i, 2)) (hn : i < Y.2.2.1) (ho : br_okst L i = true) (hL : L.set i (some (br_i x)) = L') (kk : G (pc + 2) L' st σ) : G pc L (br_i x :: st) σ := by
  obtain ⟨p, l, e, R, s, m, args, below, meth, c, cells, slots, Q, D, cI, cZ, ad, A, H0, ⟨hx, hb, hml, hown, hts⟩, ⟨hK, hD, hA, hN⟩, hR, hfin, hG⟩ := C
  rw [hG] at kk ⊢
  intro H locs ls hP hS hl'
  exact lv_istore hx hb hd hl' hn rfl (fun ls h => kk H locs ls hP hS (by rw [← hL]; exact br_set1 (v := br_i x) ho h))
theorem br_lstore_n {Y : br_Y} {d : Nat} {P : br_post} {G : br_Jg} (C : br_Ok Y d P G) {k : Fin 4} {i : Nat} {x : Int64} {L' : List (Option br_V)} {pc : Nat} {L : List (Option br_V)} {st : List br_V} {σ : br_Wd} (hd : decode Y.2.1 pc = .ok (.lstore_n k, 1)) (hi : (k : Nat) = i) (hn : i + 1 < Y.2.2.1) (ho : br_okst L i = true) (hL : (L.set i (some (br_l x))).set (i + 1) none = L') (kk : G (pc + 1) L' st σ) : G pc L (br_l x :: st) σ := by
  obtain ⟨p, l, e, R, s, m, args, below, meth, c, cells, slots, Q, D, cI, cZ, ad, A, H0, ⟨hx, hb, hml, hown, hts⟩, ⟨hK, hD, hA, hN⟩, hR, hfin, hG⟩ := C
  rw [hG] at kk ⊢
  intro H locs ls hP hS hl'
  exact lv_lstore_n hx hb hd hi hl' hn rfl (fun ls h => kk H locs ls hP hS (by rw [← hL]; exact br_set2 (v := br_l x) ho h))
theorem br_lstore {Y : br_Y} {d : Nat} {P : br_post} {G : br_Jg} (C : br_Ok Y d P G) {i : Nat} {x : Int64} {L' : List (Option br_V)} {pc : Nat} {L : List (Option br_V)} {st : List br_V} {σ : br_Wd} (hd : decode Y.2.1 pc = .ok (.lstore i, 2)) (hn : i + 1 < Y.2.2.1) (ho : br_okst L i = true) (hL : (L.set i (some (br_l x))).set (i + 1) none = L') (kk : G (pc + 2) L' st σ) : G pc L (br_l x :: st) σ := by
  obtain ⟨p, l, e, R, s, m, args, below, meth, c, cells, slots, Q, D, cI, cZ, ad, A, H0, ⟨hx, hb, hml, hown, hts⟩, ⟨hK, hD, hA, hN⟩, hR, hfin, hG⟩ := C
  rw [hG] at kk ⊢
  intro H locs ls hP hS hl'
  exact lv_lstore hx hb hd hl' hn rfl (fun ls h => kk H locs ls hP hS (by rw [← hL]; exact br_set2 (v := br_l x) ho h))
theorem br_iinc {Y : br_Y} {d : Nat} {P : br_post} {G : br_Jg} (C : br_Ok Y d P G) {i : Nat} {n : Int} {x v : Int32} {L' : List (Option br_V)} {pc : Nat} {L : List (Option br_V)} {st : List br_V} {σ : br_Wd} (hd : decode Y.2.1 pc = .ok (.iinc i n, 3)) (hl : L[i]? = some (some (br_i x))) (hv : x + Int32.ofInt n = v) (hn : i < Y.2.2.1) (ho : br_okst L i = true) (hL : L.set i (some (br_i v)) = L') (kk : G (pc + 3) L' st σ) : G pc L st σ := by
  obtain ⟨p, l, e, R, s, m, args, below, meth, c, cells, slots, Q, D, cI, cZ, ad, A, H0, ⟨hx, hb, hml, hown, hts⟩, ⟨hK, hD, hA, hN⟩, hR, hfin, hG⟩ := C
  rw [hG] at kk ⊢
  intro H locs ls hP hS hl'
  obtain ⟨k, hk⟩ := List.getElem?_of_mem ((br_asc_mem (ad := ad) L 0 (i, .int x)).mpr ⟨i, br_i x, hl, by rw [Nat.zero_add]; rfl⟩)
  exact lv_iinc hx hb hd hl' hk hv hn rfl (fun ls h => kk H locs ls hP hS (by rw [← hL]; exact br_set1 (v := br_i v) ho h))
theorem br_iadd {Y : br_Y} {d : Nat} {P : br_post} {G : br_Jg} (C : br_Ok Y d P G) {x y : Int32} {pc : Nat} {L : List (Option br_V)} {st : List br_V} {σ : br_Wd} (hd : decode Y.2.1 pc = .ok (.iadd, 1)) (kk : G (pc + 1) L (br_i (x + y) :: st) σ) : G pc L (br_i y :: br_i x :: st) σ := by
  obtain ⟨p, l, e, R, s, m, args, below, meth, c, cells, slots, Q, D, cI, cZ, ad, A, H0, ⟨hx, hb, hml, hown, hts⟩, ⟨hK, hD, hA, hN⟩, hR, hfin, hG⟩ := C
  rw [hG] at kk ⊢
  intro H locs ls hP hS hl'
  exact lv_iadd hx hb hd (kk H locs ls hP hS hl')
theorem br_isub {Y : br_Y} {d : Nat} {P : br_post} {G : br_Jg} (C : br_Ok Y d P G) {x y : Int32} {pc : Nat} {L : List (Option br_V)} {st : List br_V} {σ : br_Wd} (hd : decode Y.2.1 pc = .ok (.isub, 1)) (kk : G (pc + 1) L (br_i (x - y) :: st) σ) : G pc L (br_i y :: br_i x :: st) σ := by
  obtain ⟨p, l, e, R, s, m, args, below, meth, c, cells, slots, Q, D, cI, cZ, ad, A, H0, ⟨hx, hb, hml, hown, hts⟩, ⟨hK, hD, hA, hN⟩, hR, hfin, hG⟩ := C
  rw [hG] at kk ⊢
  intro H locs ls hP hS hl'
  exact lv_isub hx hb hd (kk H locs ls hP hS hl')
theorem br_imul {Y : br_Y} {d : Nat} {P : br_post} {G : br_Jg} (C : br_Ok Y d P G) {x y : Int32} {pc : Nat} {L : List (Option br_V)} {st : List br_V} {σ : br_Wd} (hd : decode Y.2.1 pc = .ok (.imul, 1)) (kk : G (pc + 1) L (br_i (x * y) :: st) σ) : G pc L (br_i y :: br_i x :: st) σ := by
  obtain ⟨p, l, e, R, s, m, args, below, meth, c, cells, slots, Q, D, cI, cZ, ad, A, H0, ⟨hx, hb, hml, hown, hts⟩, ⟨hK, hD, hA, hN⟩, hR, hfin, hG⟩ := C
  rw [hG] at kk ⊢
  intro H locs ls hP hS hl'
  exact lv_imul hx hb hd (kk H locs ls hP hS hl')
theorem br_iand {Y : br_Y} {d : Nat} {P : br_post} {G : br_Jg} (C : br_Ok Y d P G) {x y : Int32} {pc : Nat} {L : List (Option br_V)} {st : List br_V} {σ : br_Wd} (hd : decode Y.2.1 pc = .ok (.iand, 1)) (kk : G (pc + 1) L (br_i (x &&& y) :: st) σ) : G pc L (br_i y :: br_i x :: st) σ := by
  obtain ⟨p, l, e, R, s, m, args, below, meth, c, cells, slots, Q, D, cI, cZ, ad, A, H0, ⟨hx, hb, hml, hown, hts⟩, ⟨hK, hD, hA, hN⟩, hR, hfin, hG⟩ := C
  rw [hG] at kk ⊢
  intro H locs ls hP hS hl'
  exact lv_iand hx hb hd (kk H locs ls hP hS hl')
theorem br_ior {Y : br_Y} {d : Nat} {P : br_post} {G : br_Jg} (C : br_Ok Y d P G) {x y : Int32} {pc : Nat} {L : List (Option br_V)} {st : List br_V} {σ : br_Wd} (hd : decode Y.2.1 pc = .ok (.ior, 1)) (kk : G (pc + 1) L (br_i (x ||| y) :: st) σ) : G pc L (br_i y :: br_i x :: st) σ := by
  obtain ⟨p, l, e, R, s, m, args, below, meth, c, cells, slots, Q, D, cI, cZ, ad, A, H0, ⟨hx, hb, hml, hown, hts⟩, ⟨hK, hD, hA, hN⟩, hR, hfin, hG⟩ := C
  rw [hG] at kk ⊢
  intro H locs ls hP hS hl'
  exact lv_ior hx hb hd (kk H locs ls hP hS hl')
theorem br_ishl {Y : br_Y} {d : Nat} {P : br_post} {G : br_Jg} (C : br_Ok Y d P G) {x y : Int32} {pc : Nat} {L : List (Option br_V)} {st : List br_V} {σ : br_Wd} (hd : decode Y.2.1 pc = .ok (.ishl, 1)) (kk : G (pc + 1) L (br_i (x <<< (y &&& 31)) :: st) σ) : G pc L (br_i y :: br_i x :: st) σ := by
  obtain ⟨p, l, e, R, s, m, args, below, meth, c, cells, slots, Q, D, cI, cZ, ad, A, H0, ⟨hx, hb, hml, hown, hts⟩, ⟨hK, hD, hA, hN⟩, hR, hfin, hG⟩ := C
  rw [hG] at kk ⊢
  intro H locs ls hP hS hl'
  exact lv_ishl hx hb hd (kk H locs ls hP hS hl')
theorem br_ishr {Y : br_Y} {d : Nat} {P : br_post} {G : br_Jg} (C : br_Ok Y d P G) {x y : Int32} {pc : Nat} {L : List (Option br_V)} {st : List br_V} {σ : br_Wd} (hd : decode Y.2.1 pc = .ok (.ishr, 1)) (kk : G (pc + 1) L (br_i (x >>> (y &&& 31)) :: st) σ) : G pc L (br_i y :: br_i x :: st) σ := by
  obtain ⟨p, l, e, R, s, m, args, below, meth, c, cells, slots, Q, D, cI, cZ, ad, A, H0, ⟨hx, hb, hml, hown, hts⟩, ⟨hK, hD, hA, hN⟩, hR, hfin, hG⟩ := C
  rw [hG] at kk ⊢
  intro H locs ls hP hS hl'
  exact lv_ishr hx hb hd (kk H locs ls hP hS hl')
theorem br_idiv {Y : br_Y} {d : Nat} {P : br_post} {G : br_Jg} (C : br_Ok Y d P G) {x y : Int32} {pc : Nat} {L : List (Option br_V)} {st : List br_V} {σ : br_Wd} (hne : ¬ y = 0) (hd : decode Y.2.1 pc = .ok (.idiv, 1)) (kk : G (pc + 1) L (br_i (x / y) :: st) σ) : G pc L (br_i y :: br_i x :: st) σ := by
  obtain ⟨p, l, e, R, s, m, args, below, meth, c, cells, slots, Q, D, cI, cZ, ad, A, H0, ⟨hx, hb, hml, hown, hts⟩, ⟨hK, hD, hA, hN⟩, hR, hfin, hG⟩ := C
  rw [hG] at kk ⊢
  intro H locs ls hP hS hl'
  exact lv_idiv hx hb hd hne (kk H locs ls hP hS hl')
theorem br_irem {Y : br_Y} {d : Nat} {P : br_post} {G : br_Jg} (C : br_Ok Y d P G) {x y : Int32} {pc : Nat} {L : List (Option br_V)} {st : List br_V} {σ : br_Wd} (hne : ¬ y = 0) (hd : decode Y.2.1 pc = .ok (.irem, 1)) (kk : G (pc + 1) L (br_i (x - x / y * y) :: st) σ) : G pc L (br_i y :: br_i x :: st) σ := by
  obtain ⟨p, l, e, R, s, m, args, below, meth, c, cells, slots, Q, D, cI, cZ, ad, A, H0, ⟨hx, hb, hml, hown, hts⟩, ⟨hK, hD, hA, hN⟩, hR, hfin, hG⟩ := C
  rw [hG] at kk ⊢
  intro H locs ls hP hS hl'
  exact lv_irem hx hb hd hne (kk H locs ls hP hS hl')
theorem br_ladd {Y : br_Y} {d : Nat} {P : br_post} {G : br_Jg} (C : br_Ok Y d P G) {x y : Int64} {pc : Nat} {L : List (Option br_V)} {st : List br_V} {σ : br_Wd} (hd : decode Y.2.1 pc = .ok (.ladd, 1)) (kk : G (pc + 1) L (br_l (x + y) :: st) σ) : G pc L (br_l y :: br_l x :: st) σ := by
  obtain ⟨p, l, e, R, s, m, args, below, meth, c, cells, slots, Q, D, cI, cZ, ad, A, H0, ⟨hx, hb, hml, hown, hts⟩, ⟨hK, hD, hA, hN⟩, hR, hfin, hG⟩ := C
  rw [hG] at kk ⊢
  intro H locs ls hP hS hl'
  exact lv_ladd hx hb hd (kk H locs ls hP hS hl')
theorem br_lmul {Y : br_Y} {d : Nat} {P : br_post} {G : br_Jg} (C : br_Ok Y d P G) {x y : Int64} {pc : Nat} {L : List (Option br_V)} {st : List br_V} {σ : br_Wd} (hd : decode Y.2.1 pc = .ok (.lmul, 1)) (kk : G (pc + 1) L (br_l (x * y) :: st) σ) : G pc L (br_l y :: br_l x :: st) σ := by
  obtain ⟨p, l, e, R, s, m, args, below, meth, c, cells, slots, Q, D, cI, cZ, ad, A, H0, ⟨hx, hb, hml, hown, hts⟩, ⟨hK, hD, hA, hN⟩, hR, hfin, hG⟩ := C
  rw [hG] at kk ⊢
  intro H locs ls hP hS hl'
  exact lv_lmul hx hb hd (kk H locs ls hP hS hl')
theorem br_land {Y : br_Y} {d : Nat} {P : br_post} {G : br_Jg} (C : br_Ok Y d P G) {x y : Int64} {pc : Nat} {L : List (Option br_V)} {st : List br_V} {σ : br_Wd} (hd : decode Y.2.1 pc = .ok (.land, 1)) (kk : G (pc + 1) L (br_l (x &&& y) :: st) σ) : G pc L (br_l y :: br_l x :: st) σ := by
  obtain ⟨p, l, e, R, s, m, args, below, meth, c, cells, slots, Q, D, cI, cZ, ad, A, H0, ⟨hx, hb, hml, hown, hts⟩, ⟨hK, hD, hA, hN⟩, hR, hfin, hG⟩ := C
  rw [hG] at kk ⊢
  intro H locs ls hP hS hl'
  exact lv_land hx hb hd (kk H locs ls hP hS hl')
theorem br_lrem {Y : br_Y} {d : Nat} {P : br_post} {G : br_Jg} (C : br_Ok Y d P G) {x y : Int64} {pc : Nat} {L : List (Option br_V)} {st : List br_V} {σ : br_Wd} (hne : ¬ y = 0) (hd : decode Y.2.1 pc = .ok (.lrem, 1)) (kk : G (pc + 1) L (br_l (x - x / y * y) :: st) σ) : G pc L (br_l y :: br_l x :: st) σ := by
  obtain ⟨p, l, e, R, s, m, args, below, meth, c, cells, slots, Q, D, cI, cZ, ad, A, H0, ⟨hx, hb, hml, hown, hts⟩, ⟨hK, hD, hA, hN⟩, hR, hfin, hG⟩ := C
  rw [hG] at kk ⊢
  intro H locs ls hP hS hl'
  exact lv_lrem hx hb hd hne (kk H locs ls hP hS hl')
theorem br_i2l {Y : br_Y} {d : Nat} {P : br_post} {G : br_Jg} (C : br_Ok Y d P G) {x : Int32} {pc : Nat} {L : List (Option br_V)} {st : List br_V} {σ : br_Wd} (hd : decode Y.2.1 pc = .ok (.i2l, 1)) (kk : G (pc + 1) L (br_l x.toInt64 :: st) σ) : G pc L (br_i x :: st) σ := by
  obtain ⟨p, l, e, R, s, m, args, below, meth, c, cells, slots, Q, D, cI, cZ, ad, A, H0, ⟨hx, hb, hml, hown, hts⟩, ⟨hK, hD, hA, hN⟩, hR, hfin, hG⟩ := C
  rw [hG] at kk ⊢
  intro H locs ls hP hS hl'
  exact lv_i2l hx hb hd rfl (kk H locs ls hP hS hl')
theorem br_l2i {Y : br_Y} {d : Nat} {P : br_post} {G : br_Jg} (C : br_Ok Y d P G) {x : Int64} {pc : Nat} {L : List (Option br_V)} {st : List br_V} {σ : br_Wd} (hd : decode Y.2.1 pc = .ok (.l2i, 1)) (kk : G (pc + 1) L (br_i x.toInt32 :: st) σ) : G pc L (br_l x :: st) σ := by
  obtain ⟨p, l, e, R, s, m, args, below, meth, c, cells, slots, Q, D, cI, cZ, ad, A, H0, ⟨hx, hb, hml, hown, hts⟩, ⟨hK, hD, hA, hN⟩, hR, hfin, hG⟩ := C
  rw [hG] at kk ⊢
  intro H locs ls hP hS hl'
  exact lv_l2i hx hb hd rfl (kk H locs ls hP hS hl')
theorem br_lcmp {Y : br_Y} {d : Nat} {P : br_post} {G : br_Jg} (C : br_Ok Y d P G) {x y : Int64} {pc : Nat} {L : List (Option br_V)} {st : List br_V} {σ : br_Wd} (hd : decode Y.2.1 pc = .ok (.lcmp, 1)) (kk : G (pc + 1) L (br_i (lg_cmp x y) :: st) σ) : G pc L (br_l y :: br_l x :: st) σ := by
  obtain ⟨p, l, e, R, s, m, args, below, meth, c, cells, slots, Q, D, cI, cZ, ad, A, H0, ⟨hx, hb, hml, hown, hts⟩, ⟨hK, hD, hA, hN⟩, hR, hfin, hG⟩ := C
  rw [hG] at kk ⊢
  intro H locs ls hP hS hl'
  exact W.lcmp hx hb hd (kk H locs ls hP hS hl')
theorem br_dup {Y : br_Y} {d : Nat} {P : br_post} {G : br_Jg} (C : br_Ok Y d P G) {v : br_V} {pc : Nat} {L : List (Option br_V)} {st : List br_V} {σ : br_Wd} (hd : decode Y.2.1 pc = .ok (.dup, 1)) (hv : br_isl v = false) (kk : G (pc + 1) L (v :: v :: st) σ) : G pc L (v :: st) σ := by
  obtain ⟨p, l, e, R, s, m, args, below, meth, c, cells, slots, Q, D, cI, cZ, ad, A, H0, ⟨hx, hb, hml, hown, hts⟩, ⟨hK, hD, hA, hN⟩, hR, hfin, hG⟩ := C
  rw [hG] at kk ⊢
  intro H locs ls hP hS hl'
  refine lv_dup hx hb hd ?_ (kk H locs ls hP hS hl')
  match v, hv with
  | .inl x, _ => rfl
  | .inr (.inr q), _ => rfl
theorem br_goto {Y : br_Y} {d : Nat} {P : br_post} {G : br_Jg} (C : br_Ok Y d P G) {off : Int} {tgt : Nat} {pc : Nat} {L : List (Option br_V)} {st : List br_V} {σ : br_Wd} (hd : decode Y.2.1 pc = .ok (.goto off, 3)) (ht : (pc : Int) + off = (tgt : Int)) (kk : G tgt L st σ) : G pc L st σ := by
  obtain ⟨p, l, e, R, s, m, args, below, meth, c, cells, slots, Q, D, cI, cZ, ad, A, H0, ⟨hx, hb, hml, hown, hts⟩, ⟨hK, hD, hA, hN⟩, hR, hfin, hG⟩ := C
  rw [hG] at kk ⊢
  intro H locs ls hP hS hl'
  exact lv_goto hx hb hd ht (kk H locs ls hP hS hl')
theorem br_name {α : Sort _} {Q : α → Prop} (x : α) (h : ∀ y, y = x → Q y) : Q x := h x rfl
theorem br_if_eq {Y : br_Y} {d : Nat} {P : br_post} {G : br_Jg} (C : br_Ok Y d P G) {x : Int32} {off : Int} {tgt : Nat} {pc : Nat} {L : List (Option br_V)} {st : List br_V} {σ : br_Wd} (hd : decode Y.2.1 pc = .ok (.ifCond .eq off, 3)) (ht : (pc : Int) + off = (tgt : Int)) (kt : x = 0 → G tgt L st σ) (kf : ¬ x = 0 → G (pc + 3) L st σ) : G pc L (br_i x :: st) σ := by
  obtain ⟨p, l, e, R, s, m, args, below, meth, c, cells, slots, Q, D, cI, cZ, ad, A, H0, ⟨hx, hb, hml, hown, hts⟩, ⟨hK, hD, hA, hN⟩, hR, hfin, hG⟩ := C
  rw [hG]
  intro H locs ls hP hS hl'
  exact lv_if_eq hx hb hd ht (fun h => (hG _ _ _ _).mp (kt h) H locs ls hP hS hl') (fun h => (hG _ _ _ _).mp (kf h) H locs ls hP hS hl')
theorem br_icmp_eq {Y : br_Y} {d : Nat} {P : br_post} {G : br_Jg} (C : br_Ok Y d P G) {x y : Int32} {off : Int} {tgt : Nat} {pc : Nat} {L : List (Option br_V)} {st : List br_V} {σ : br_Wd} (hd : decode Y.2.1 pc = .ok (.if_icmp .eq off, 3)) (ht : (pc : Int) + off = (tgt : Int)) (kt : x = y → G tgt L st σ) (kf : ¬ x = y → G (pc + 3) L st σ) : G pc L (br_i y :: br_i x :: st) σ := by
  obtain ⟨p, l, e, R, s, m, args, below, meth, c, cells, slots, Q, D, cI, cZ, ad, A, H0, ⟨hx, hb, hml, hown, hts⟩, ⟨hK, hD, hA, hN⟩, hR, hfin, hG⟩ := C
  rw [hG]
  intro H locs ls hP hS hl'
  exact lv_icmp_eq hx hb hd ht (fun h => (hG _ _ _ _).mp (kt h) H locs ls hP hS hl') (fun h => (hG _ _ _ _).mp (kf h) H locs ls hP hS hl')
theorem br_if_ne {Y : br_Y} {d : Nat} {P : br_post} {G : br_Jg} (C : br_Ok Y d P G) {x : Int32} {off : Int} {tgt : Nat} {pc : Nat} {L : List (Option br_V)} {st : List br_V} {σ : br_Wd} (hd : decode Y.2.1 pc = .ok (.ifCond .ne off, 3)) (ht : (pc : Int) + off = (tgt : Int)) (kt : ¬ x = 0 → G tgt L st σ) (kf : x = 0 → G (pc + 3) L st σ) : G pc L (br_i x :: st) σ := by
  obtain ⟨p, l, e, R, s, m, args, below, meth, c, cells, slots, Q, D, cI, cZ, ad, A, H0, ⟨hx, hb, hml, hown, hts⟩, ⟨hK, hD, hA, hN⟩, hR, hfin, hG⟩ := C
  rw [hG]
  intro H locs ls hP hS hl'
  exact lv_if_ne hx hb hd ht (fun h => (hG _ _ _ _).mp (kt h) H locs ls hP hS hl') (fun h => (hG _ _ _ _).mp (kf h) H locs ls hP hS hl')
theorem br_icmp_ne {Y : br_Y} {d : Nat} {P : br_post} {G : br_Jg} (C : br_Ok Y d P G) {x y : Int32} {off : Int} {tgt : Nat} {pc : Nat} {L : List (Option br_V)} {st : List br_V} {σ : br_Wd} (hd : decode Y.2.1 pc = .ok (.if_icmp .ne off, 3)) (ht : (pc : Int) + off = (tgt : Int)) (kt : ¬ x = y → G tgt L st σ) (kf : x = y → G (pc + 3) L st σ) : G pc L (br_i y :: br_i x :: st) σ := by
  obtain ⟨p, l, e, R, s, m, args, below, meth, c, cells, slots, Q, D, cI, cZ, ad, A, H0, ⟨hx, hb, hml, hown, hts⟩, ⟨hK, hD, hA, hN⟩, hR, hfin, hG⟩ := C
  rw [hG]
  intro H locs ls hP hS hl'
  exact lv_icmp_ne hx hb hd ht (fun h => (hG _ _ _ _).mp (kt h) H locs ls hP hS hl') (fun h => (hG _ _ _ _).mp (kf h) H locs ls hP hS hl')
theorem br_if_lt {Y : br_Y} {d : Nat} {P : br_post} {G : br_Jg} (C : br_Ok Y d P G) {x : Int32} {off : Int} {tgt : Nat} {pc : Nat} {L : List (Option br_V)} {st : List br_V} {σ : br_Wd} (hd : decode Y.2.1 pc = .ok (.ifCond .lt off, 3)) (ht : (pc : Int) + off = (tgt : Int)) (kt : x < 0 → G tgt L st σ) (kf : ¬ x < 0 → G (pc + 3) L st σ) : G pc L (br_i x :: st) σ := by
  obtain ⟨p, l, e, R, s, m, args, below, meth, c, cells, slots, Q, D, cI, cZ, ad, A, H0, ⟨hx, hb, hml, hown, hts⟩, ⟨hK, hD, hA, hN⟩, hR, hfin, hG⟩ := C
  rw [hG]
  intro H locs ls hP hS hl'
  exact lv_if_lt hx hb hd ht (fun h => (hG _ _ _ _).mp (kt h) H locs ls hP hS hl') (fun h => (hG _ _ _ _).mp (kf h) H locs ls hP hS hl')
theorem br_icmp_lt {Y : br_Y} {d : Nat} {P : br_post} {G : br_Jg} (C : br_Ok Y d P G) {x y : Int32} {off : Int} {tgt : Nat} {pc : Nat} {L : List (Option br_V)} {st : List br_V} {σ : br_Wd} (hd : decode Y.2.1 pc = .ok (.if_icmp .lt off, 3)) (ht : (pc : Int) + off = (tgt : Int)) (kt : x < y → G tgt L st σ) (kf : ¬ x < y → G (pc + 3) L st σ) : G pc L (br_i y :: br_i x :: st) σ := by
  obtain ⟨p, l, e, R, s, m, args, below, meth, c, cells, slots, Q, D, cI, cZ, ad, A, H0, ⟨hx, hb, hml, hown, hts⟩, ⟨hK, hD, hA, hN⟩, hR, hfin, hG⟩ := C
  rw [hG]
  intro H locs ls hP hS hl'
  exact lv_icmp_lt hx hb hd ht (fun h => (hG _ _ _ _).mp (kt h) H locs ls hP hS hl') (fun h => (hG _ _ _ _).mp (kf h) H locs ls hP hS hl')
theorem br_if_ge {Y : br_Y} {d : Nat} {P : br_post} {G : br_Jg} (C : br_Ok Y d P G) {x : Int32} {off : Int} {tgt : Nat} {pc : Nat} {L : List (Option br_V)} {st : List br_V} {σ : br_Wd} (hd : decode Y.2.1 pc = .ok (.ifCond .ge off, 3)) (ht : (pc : Int) + off = (tgt : Int)) (kt : 0 ≤ x → G tgt L st σ) (kf : ¬ 0 ≤ x → G (pc + 3) L st σ) : G pc L (br_i x :: st) σ := by
  obtain ⟨p, l, e, R, s, m, args, below, meth, c, cells, slots, Q, D, cI, cZ, ad, A, H0, ⟨hx, hb, hml, hown, hts⟩, ⟨hK, hD, hA, hN⟩, hR, hfin, hG⟩ := C
  rw [hG]
  intro H locs ls hP hS hl'
  exact lv_if_ge hx hb hd ht (fun h => (hG _ _ _ _).mp (kt h) H locs ls hP hS hl') (fun h => (hG _ _ _ _).mp (kf h) H locs ls hP hS hl')
theorem br_icmp_ge {Y : br_Y} {d : Nat} {P : br_post} {G : br_Jg} (C : br_Ok Y d P G) {x y : Int32} {off : Int} {tgt : Nat} {pc : Nat} {L : List (Option br_V)} {st : List br_V} {σ : br_Wd} (hd : decode Y.2.1 pc = .ok (.if_icmp .ge off, 3)) (ht : (pc : Int) + off = (tgt : Int)) (kt : y ≤ x → G tgt L st σ) (kf : ¬ y ≤ x → G (pc + 3) L st σ) : G pc L (br_i y :: br_i x :: st) σ := by
  obtain ⟨p, l, e, R, s, m, args, below, meth, c, cells, slots, Q, D, cI, cZ, ad, A, H0, ⟨hx, hb, hml, hown, hts⟩, ⟨hK, hD, hA, hN⟩, hR, hfin, hG⟩ := C
  rw [hG]
  intro H locs ls hP hS hl'
  exact lv_icmp_ge hx hb hd ht (fun h => (hG _ _ _ _).mp (kt h) H locs ls hP hS hl') (fun h => (hG _ _ _ _).mp (kf h) H locs ls hP hS hl')
theorem br_if_gt {Y : br_Y} {d : Nat} {P : br_post} {G : br_Jg} (C : br_Ok Y d P G) {x : Int32} {off : Int} {tgt : Nat} {pc : Nat} {L : List (Option br_V)} {st : List br_V} {σ : br_Wd} (hd : decode Y.2.1 pc = .ok (.ifCond .gt off, 3)) (ht : (pc : Int) + off = (tgt : Int)) (kt : 0 < x → G tgt L st σ) (kf : ¬ 0 < x → G (pc + 3) L st σ) : G pc L (br_i x :: st) σ := by
  obtain ⟨p, l, e, R, s, m, args, below, meth, c, cells, slots, Q, D, cI, cZ, ad, A, H0, ⟨hx, hb, hml, hown, hts⟩, ⟨hK, hD, hA, hN⟩, hR, hfin, hG⟩ := C
  rw [hG]
  intro H locs ls hP hS hl'
  exact lv_if_gt hx hb hd ht (fun h => (hG _ _ _ _).mp (kt h) H locs ls hP hS hl') (fun h => (hG _ _ _ _).mp (kf h) H locs ls hP hS hl')
theorem br_icmp_gt {Y : br_Y} {d : Nat} {P : br_post} {G : br_Jg} (C : br_Ok Y d P G) {x y : Int32} {off : Int} {tgt : Nat} {pc : Nat} {L : List (Option br_V)} {st : List br_V} {σ : br_Wd} (hd : decode Y.2.1 pc = .ok (.if_icmp .gt off, 3)) (ht : (pc : Int) + off = (tgt : Int)) (kt : y < x → G tgt L st σ) (kf : ¬ y < x → G (pc + 3) L st σ) : G pc L (br_i y :: br_i x :: st) σ := by
  obtain ⟨p, l, e, R, s, m, args, below, meth, c, cells, slots, Q, D, cI, cZ, ad, A, H0, ⟨hx, hb, hml, hown, hts⟩, ⟨hK, hD, hA, hN⟩, hR, hfin, hG⟩ := C
  rw [hG]
  intro H locs ls hP hS hl'
  exact lv_icmp_gt hx hb hd ht (fun h => (hG _ _ _ _).mp (kt h) H locs ls hP hS hl') (fun h => (hG _ _ _ _).mp (kf h) H locs ls hP hS hl')
theorem br_if_le {Y : br_Y} {d : Nat} {P : br_post} {G : br_Jg} (C : br_Ok Y d P G) {x : Int32} {off : Int} {tgt : Nat} {pc : Nat} {L : List (Option br_V)} {st : List br_V} {σ : br_Wd} (hd : decode Y.2.1 pc = .ok (.ifCond .le off, 3)) (ht : (pc : Int) + off = (tgt : Int)) (kt : x ≤ 0 → G tgt L st σ) (kf : ¬ x ≤ 0 → G (pc + 3) L st σ) : G pc L (br_i x :: st) σ := by
  obtain ⟨p, l, e, R, s, m, args, below, meth, c, cells, slots, Q, D, cI, cZ, ad, A, H0, ⟨hx, hb, hml, hown, hts⟩, ⟨hK, hD, hA, hN⟩, hR, hfin, hG⟩ := C
  rw [hG]
  intro H locs ls hP hS hl'
  exact lv_if_le hx hb hd ht (fun h => (hG _ _ _ _).mp (kt h) H locs ls hP hS hl') (fun h => (hG _ _ _ _).mp (kf h) H locs ls hP hS hl')
theorem br_icmp_le {Y : br_Y} {d : Nat} {P : br_post} {G : br_Jg} (C : br_Ok Y d P G) {x y : Int32} {off : Int} {tgt : Nat} {pc : Nat} {L : List (Option br_V)} {st : List br_V} {σ : br_Wd} (hd : decode Y.2.1 pc = .ok (.if_icmp .le off, 3)) (ht : (pc : Int) + off = (tgt : Int)) (kt : x ≤ y → G tgt L st σ) (kf : ¬ x ≤ y → G (pc + 3) L st σ) : G pc L (br_i y :: br_i x :: st) σ := by
  obtain ⟨p, l, e, R, s, m, args, below, meth, c, cells, slots, Q, D, cI, cZ, ad, A, H0, ⟨hx, hb, hml, hown, hts⟩, ⟨hK, hD, hA, hN⟩, hR, hfin, hG⟩ := C
  rw [hG]
  intro H locs ls hP hS hl'
  exact lv_icmp_le hx hb hd ht (fun h => (hG _ _ _ _).mp (kt h) H locs ls hP hS hl') (fun h => (hG _ _ _ _).mp (kf h) H locs ls hP hS hl')
theorem br_tableIn {Y : br_Y} {d : Nat} {P : br_post} {G : br_Jg} (C : br_Ok Y d P G) {dflt lo hi : Int} {offs : Array Int} {len : Nat} {x : Int32} {off : Int} {tgt : Nat} {pc : Nat} {L : List (Option br_V)} {st : List br_V} {σ : br_Wd} (hd : decode Y.2.1 pc = .ok (.tableswitch dflt lo hi offs, len)) (h1 : ¬ x.toInt < lo) (h2 : ¬ hi < x.toInt) (ho : offs[(x.toInt - lo).toNat]? = some off) (ht : (pc : Int) + off = (tgt : Int)) (kk : G tgt L st σ) : G pc L (br_i x :: st) σ := by
  obtain ⟨p, l, e, R, s, m, args, below, meth, c, cells, slots, Q, D, cI, cZ, ad, A, H0, ⟨hx, hb, hml, hown, hts⟩, ⟨hK, hD, hA, hN⟩, hR, hfin, hG⟩ := C
  rw [hG] at kk ⊢
  intro H locs ls hP hS hl'
  exact lv_tableIn hx hb hd h1 h2 ho ht (kk H locs ls hP hS hl')
theorem br_tableOut {Y : br_Y} {d : Nat} {P : br_post} {G : br_Jg} (C : br_Ok Y d P G) {dflt lo hi : Int} {offs : Array Int} {len : Nat} {x : Int32} {tgt : Nat} {pc : Nat} {L : List (Option br_V)} {st : List br_V} {σ : br_Wd} (hd : decode Y.2.1 pc = .ok (.tableswitch dflt lo hi offs, len)) (h : x.toInt < lo ∨ hi < x.toInt) (ht : (pc : Int) + dflt = (tgt : Int)) (kk : G tgt L st σ) : G pc L (br_i x :: st) σ := by
  obtain ⟨p, l, e, R, s, m, args, below, meth, c, cells, slots, Q, D, cI, cZ, ad, A, H0, ⟨hx, hb, hml, hown, hts⟩, ⟨hK, hD, hA, hN⟩, hR, hfin, hG⟩ := C
  rw [hG] at kk ⊢
  intro H locs ls hP hS hl'
  exact lv_tableOut hx hb hd h ht (kk H locs ls hP hS hl')
theorem br_sub1 {Y : br_Y} {d : Nat} {P : br_post} {G : br_Jg} (C : br_Ok Y d P G) {L' : List (Option br_V)} {pc : Nat} {L : List (Option br_V)} {st : List br_V} {σ : br_Wd} (hs : br_sub L' L) (kk : G pc L' st σ) : G pc L st σ := by
  obtain ⟨p, l, e, R, s, m, args, below, meth, c, cells, slots, Q, D, cI, cZ, ad, A, H0, ⟨hx, hb, hml, hown, hts⟩, ⟨hK, hD, hA, hN⟩, hR, hfin, hG⟩ := C
  rw [hG] at kk ⊢
  intro H locs ls hP hS hl'
  exact kk H locs ls hP hS (hs.has hl')
-- a class of the world: its rows; a field: its link, its place, its type
def br_Cl (ci : Nat) (Cn : String) (T : u_T) (N : Nat) : Prop := vwCl[ci]? = some (Cn, T, N) ∧ (∀ w ∈ u_ws Cn T N, w ∈ br_W0) ∧ ∃ ty : Nat → FieldType, (∀ k, k < N → parseFieldDescriptor (T k).2.2.1 = some (ty k)) ∧ ∀ a, a < N → ∀ b, b < N → a ≠ b → (T a).2.1 ≠ (T b).2.1
def br_FL (own : String) (idx : Nat) (f : String × String × String × Bool) : Prop := Cond.fieldLink own idx f.1 f.2.1 f.2.2.1 ∈ br_W0 ∨ (own, idx, f.1, f.2.1, f.2.2.1, "BarRoutine") ∈ br_nest
def br_fd (own : String) (idx ci k : Nat) (fin : Bool) (ty : FieldType) : Prop := ∃ (Cn : String) (T : u_T) (N : Nat), br_Cl ci Cn T N ∧ k < N ∧ br_FL own idx (T k) ∧ (T k).2.2.2 = fin ∧ parseFieldDescriptor (T k).2.2.1 = some ty
theorem br_get {Y : br_Y} {d : Nat} {P : br_post} {G : br_Jg} (C : br_Ok Y d P G) {idx ci k : Nat} {fin : Bool} {ty : FieldType} (hf : br_fd Y.1.cls idx ci k fin ty) {q : Nat} {fs : List br_FK} {fk : br_FK} {v : br_V} {pc : Nat} {L : List (Option br_V)} {st : List br_V} {σ : br_Wd} (hd : decode Y.2.1 pc = .ok (.getfield idx, 3)) (hs : br_shps[q]? = some (.inr (ci, fs))) (hk : fs[k]? = some fk) (hv : ∀ ad, br_fv ad σ q k fk = br_av ad v) (kk : G (pc + 3) L (v :: st) σ) : G pc L (br_r q :: st) σ := by
  obtain ⟨p, l, e, R, s, m, args, below, meth, c, cells, slots, Q, D, cI, cZ, ad, A, H0, ⟨hx, hb, hml, hown, hts⟩, ⟨hK, hD, hA, hN⟩, hR, hfin, hG⟩ := C
  rw [hG] at kk ⊢
  intro H locs ls hP hS hl'
  obtain ⟨Cn, T, N, ⟨hc, hin, -⟩, hkN, hfl, -, -⟩ := hf
  have he : (br_W cI cZ ad σ)[q]? = some (ad q, .inr (ci, br_mkF ad σ q 0 fs)) := br_W_get hs
  have hvv : (br_mkF ad σ q 0 fs)[k]? = some (br_av ad v) := by rw [br_mkF_get, hk, Nat.zero_add]; exact congrArg some (hv ad)
  rcases hfl with hfl | hfl
  · exact va_get hx hb hts hin hown hK hP q he hc k hkN (hts _ hfl) (fun _ h => h) hvv hd (kk H locs ls hP hS hl')
  · exact va_getN (host := "BarRoutine") hx hb hts hin hown hK hP q he hc k hkN (va_Nw.use rfl (hN.1 _ hfl)) (fun _ h => h) hvv hd (kk H locs ls hP hS hl')
theorem br_getI {Y : br_Y} {d : Nat} {P : br_post} {G : br_Jg} (C : br_Ok Y d P G) {idx ci k : Nat} {fin : Bool} {ty : FieldType} (hf : br_fd Y.1.cls idx ci k fin ty) {q : Nat} {fs : List br_FK} {x : Int32} {pc : Nat} {L : List (Option br_V)} {st : List br_V} {σ : br_Wd} (hd : decode Y.2.1 pc = .ok (.getfield idx, 3)) (hs : br_shps[q]? = some (.inr (ci, fs))) (hk : fs[k]? = some none) (hv : σ.1 q k = x) (kk : G (pc + 3) L (br_i x :: st) σ) : G pc L (br_r q :: st) σ :=
  br_get C hf hd hs hk (fun ad => by subst hv; rfl) kk
theorem br_getR {Y : br_Y} {d : Nat} {P : br_post} {G : br_Jg} (C : br_Ok Y d P G) {idx ci k : Nat} {fin : Bool} {ty : FieldType} (hf : br_fd Y.1.cls idx ci k fin ty) {q r : Nat} {fs : List br_FK} {pc : Nat} {L : List (Option br_V)} {st : List br_V} {σ : br_Wd} (hd : decode Y.2.1 pc = .ok (.getfield idx, 3)) (hs : br_shps[q]? = some (.inr (ci, fs))) (hk : fs[k]? = some (some (some r))) (kk : G (pc + 3) L (br_r r :: st) σ) : G pc L (br_r q :: st) σ :=
  br_get C hf hd hs hk (fun ad => rfl) kk
theorem br_getL {Y : br_Y} {d : Nat} {P : br_post} {G : br_Jg} (C : br_Ok Y d P G) {idx ci k : Nat} {fin : Bool} {ty : FieldType} (hf : br_fd Y.1.cls idx ci k fin ty) {q : Nat} {fs : List br_FK} {x : Int64} {pc : Nat} {L : List (Option br_V)} {st : List br_V} {σ : br_Wd} (hd : decode Y.2.1 pc = .ok (.getfield idx, 3)) (hs : br_shps[q]? = some (.inr (ci, fs))) (hk : fs[k]? = some (some none)) (hv : σ.2 = x) (kk : G (pc + 3) L (br_l x :: st) σ) : G pc L (br_r q :: st) σ :=
  br_get C hf hd hs hk (fun ad => by subst hv; rfl) kk
theorem br_put {Y : br_Y} {d : Nat} {P : br_post} {G : br_Jg} (C : br_Ok Y d P G) {idx ci k : Nat} {ty : FieldType} (hf : br_fd Y.1.cls idx ci k false ty) {q : Nat} {fs : List br_FK} {x : Int32} {pc : Nat} {L : List (Option br_V)} {st : List br_V} {σ σ' : br_Wd} (hd : decode Y.2.1 pc = .ok (.putfield idx, 3)) (hs : br_shps[q]? = some (.inr (ci, fs))) (hk : fs[k]? = some none) (hn : narrow ty (.int x) = .int x) (hfit : fits ty (.int x) = true) (hu : br_up σ q k x = σ') (kk : G (pc + 3) L st σ') : G pc L (br_i x :: br_r q :: st) σ := by
  obtain ⟨p, l, e, R, s, m, args, below, meth, c, cells, slots, Q, D, cI, cZ, ad, A, H0, ⟨hx, hb, hml, hown, hts⟩, ⟨hK, hD, hA, hN⟩, hR, hfin, hG⟩ := C
  rw [hG] at kk ⊢
  intro H locs ls hP hS hl'
  subst hu
  obtain ⟨Cn, T, N, ⟨hc, hin, ty0, hty, hnm⟩, hkN, hfl, hfin2, hpt⟩ := hf
  have he : (br_W cI cZ ad σ)[q]? = some (ad q, .inr (ci, br_mkF ad σ q 0 fs)) := br_W_get hs
  have hlen : k < (br_mkF ad σ q 0 fs).length := by
    have := br_mkF_get ad σ q fs 0 k
    rw [hk] at this
    exact (List.getElem?_eq_some_iff.mp this).1
  have eq : (br_W cI cZ ad σ).set q (ad q, .inr (ci, (br_mkF ad σ q 0 fs).set k (.int x))) = br_W cI cZ ad (br_up σ q k x) := by rw [br_mkF_put hk]; exact br_W_up hs
  rcases hfl with hfl | hfl
  · exact va_put hx hb hts hin ty0 hty hnm hown hK hP (hD σ) hS q he hc k hkN (hts _ hfl) (fun _ h => h) hfin2 hpt hn hfit hlen hd (fun H1 locs1 hP1 _ hS1 => kk H1 locs1 ls (by rw [← eq]; exact hP1) hS1 hl')
  · exact va_putN (host := "BarRoutine") hx hb hts hin ty0 hty hnm hown hK hP (hD σ) hS q he hc k hkN (va_Nw.use rfl (hN.1 _ hfl)) (fun _ h => h) hfin2 hpt hn hfit hlen hd (fun H1 locs1 hP1 _ hS1 => kk H1 locs1 ls (by rw [← eq]; exact hP1) hS1 hl')
theorem br_putI {Y : br_Y} {d : Nat} {P : br_post} {G : br_Jg} (C : br_Ok Y d P G) {idx ci k : Nat} (hf : br_fd Y.1.cls idx ci k false .int) {q : Nat} {fs : List br_FK} {x : Int32} {pc : Nat} {L : List (Option br_V)} {st : List br_V} {σ σ' : br_Wd} (hd : decode Y.2.1 pc = .ok (.putfield idx, 3)) (hs : br_shps[q]? = some (.inr (ci, fs))) (hk : fs[k]? = some none) (hu : br_up σ q k x = σ') (kk : G (pc + 3) L st σ') : G pc L (br_i x :: br_r q :: st) σ :=
  br_put C hf hd hs hk rfl rfl hu kk
theorem br_mkF_putl {ad : Nat → Nat} {σ : br_Wd} {q k : Nat} {v : Int64} {fs : List br_FK} (hk : fs[k]? = some (some none)) (h1 : ∀ j : Nat, fs[j]? = some (some none) → j = k) : (br_mkF ad σ q 0 fs).set k (.long v) = br_mkF ad (br_upl σ v) q 0 fs := by
  apply List.ext_getElem?
  intro j
  rw [List.getElem?_set, br_mkF_get, br_mkF_get]
  have hl2 : k < (br_mkF ad σ q 0 fs).length := by
    have := br_mkF_get ad σ q fs 0 k
    rw [hk] at this
    exact (List.getElem?_eq_some_iff.mp this).1
  by_cases e : k = j
  · subst e
    rw [if_pos rfl, if_pos hl2, hk]
    rfl
  · rw [if_neg e]
    cases hj : fs[j]? with
    | none => rfl
    | some f =>
      cases f with
      | none => rfl
      | some f =>
        cases f with
        | none => exact absurd (h1 j hj).symm e
        | some r => rfl
theorem br_putL {Y : br_Y} {d : Nat} {P : br_post} {G : br_Jg} (C : br_Ok Y d P G) {idx : Nat} (hf : br_fd Y.1.cls idx 5 20 false .long) {x : Int64} {pc : Nat} {L : List (Option br_V)} {st : List br_V} {σ σ' : br_Wd} (hd : decode Y.2.1 pc = .ok (.putfield idx, 3)) (hu : br_upl σ x = σ') (kk : G (pc + 3) L st σ') : G pc L (br_l x :: br_r 23 :: st) σ := by
  obtain ⟨p, l, e, R, s, m, args, below, meth, c, cells, slots, Q, D, cI, cZ, ad, A, H0, ⟨hx, hb, hml, hown, hts⟩, ⟨hK, hD, hA, hN⟩, hR, hfin, hG⟩ := C
  rw [hG] at kk ⊢
  intro H locs ls hP hS hl'
  subst hu
  obtain ⟨Cn, T, N, ⟨hc, hin, ty0, hty, hnm⟩, hkN, hfl, hfin2, hpt⟩ := hf
  obtain ⟨fs, hs, hk, h1⟩ : ∃ fs, br_shps[23]? = some (.inr (5, fs)) ∧ fs[20]? = some (some none) ∧ ∀ j : Nat, fs[j]? = some (some none) → j = 20 := by
    refine ⟨_, rfl, rfl, fun j hj => ?_⟩
    have hl : j < 21 := (List.getElem?_eq_some_iff.mp hj).1
    have key : ∀ j : Fin 21, ([br_fr 24, none, none, none, none, br_fr 25, br_fr 26, none, none, br_fr 27, br_fr 28, none, br_fr 29, none, none, none, none, none, br_fr 30, br_fr 31, some none] : List br_FK)[(j : Nat)]? = some (some none) → (j : Nat) = 20 := by decide +kernel
    exact key ⟨j, hl⟩ hj
  have he : (br_W cI cZ ad σ)[23]? = some (ad 23, .inr (5, br_mkF ad σ 23 0 fs)) := br_W_get hs
  have hlen : 20 < (br_mkF ad σ 23 0 fs).length := by
    have := br_mkF_get ad σ 23 fs 0 20
    rw [hk] at this
    exact (List.getElem?_eq_some_iff.mp this).1
  have eq : (br_W cI cZ ad σ).set 23 (ad 23, .inr (5, (br_mkF ad σ 23 0 fs).set 20 (.long x))) = br_W cI cZ ad (br_upl σ x) := by rw [br_mkF_putl hk h1]; exact br_W_upl hs
  rcases hfl with hfl | hfl
  · exact va_put hx hb hts hin ty0 hty hnm hown hK hP (hD σ) hS 23 he hc 20 hkN (hts _ hfl) (fun _ h => h) hfin2 hpt rfl rfl hlen hd (fun H1 locs1 hP1 _ hS1 => kk H1 locs1 ls (by rw [← eq]; exact hP1) hS1 hl')
  · exact va_putN (host := "BarRoutine") hx hb hts hin ty0 hty hnm hown hK hP (hD σ) hS 23 he hc 20 hkN (va_Nw.use rfl (hN.1 _ hfl)) (fun _ h => h) hfin2 hpt rfl rfl hlen hd (fun H1 locs1 hP1 _ hS1 => kk H1 locs1 ls (by rw [← eq]; exact hP1) hS1 hl')
theorem br_iald {Y : br_Y} {d : Nat} {P : br_post} {G : br_Jg} (C : br_Ok Y d P G) {q n : Nat} {i x : Int32} {pc : Nat} {L : List (Option br_V)} {st : List br_V} {σ : br_Wd} (hs : br_shps[q]? = some (.inl (false, n))) (hin : vp_in i n) (hv : σ.1 q i.toNatClampNeg = x) (hd : decode Y.2.1 pc = .ok (.iaload, 1)) (kk : G (pc + 1) L (br_i x :: st) σ) : G pc L (br_i i :: br_r q :: st) σ := by
  obtain ⟨p, l, e, R, s, m, args, below, meth, c, cells, slots, Q, D, cI, cZ, ad, A, H0, ⟨hx, hb, hml, hown, hts⟩, ⟨hK, hD, hA, hN⟩, hR, hfin, hG⟩ := C
  rw [hG] at kk ⊢
  intro H locs ls hP hS hl'
  subst hv
  exact va_iald (t0 := 0) (n := n) (f := σ.1 q) hx hb hK hP q (br_W_get hs) rfl hin hd (kk H locs ls hP hS hl')
theorem br_zald {Y : br_Y} {d : Nat} {P : br_post} {G : br_Jg} (C : br_Ok Y d P G) {q n : Nat} {i x : Int32} {pc : Nat} {L : List (Option br_V)} {st : List br_V} {σ : br_Wd} (hs : br_shps[q]? = some (.inl (true, n))) (hin : vp_in i n) (hv : σ.1 q i.toNatClampNeg = x) (hd : decode Y.2.1 pc = .ok (.baload, 1)) (kk : G (pc + 1) L (br_i x :: st) σ) : G pc L (br_i i :: br_r q :: st) σ := by
  obtain ⟨p, l, e, R, s, m, args, below, meth, c, cells, slots, Q, D, cI, cZ, ad, A, H0, ⟨hx, hb, hml, hown, hts⟩, ⟨hK, hD, hA, hN⟩, hR, hfin, hG⟩ := C
  rw [hG] at kk ⊢
  intro H locs ls hP hS hl'
  subst hv
  exact va_zald (t0 := 1) (n := n) (f := σ.1 q) hx hb hK hP q (br_W_get hs) rfl hin hd (kk H locs ls hP hS hl')
theorem br_ast_eq {cI cZ : ClassId} {ad : Nat → Nat} {σ : br_Wd} {q n : Nat} {z : Bool} {i : Nat} {x : Int32} (hs : br_shps[q]? = some (.inl (z, n))) : (br_W cI cZ ad σ).set q (ad q, .inl (cond z cZ cI, n, .inl (upd (σ.1 q) i x))) = br_W cI cZ ad (br_up σ q i x) := by
  rw [← br_W_up hs]
  congr 1
  show (ad q, Sum.inl (cond z cZ cI, n, Sum.inl (upd (σ.1 q) i x))) = (ad q, Sum.inl (cond z cZ cI, n, Sum.inl ((br_up σ q i x).1 q)))
  congr 4
  apply congrArg
  funext j
  simp [upd, br_up]
theorem br_iast {Y : br_Y} {d : Nat} {P : br_post} {G : br_Jg} (C : br_Ok Y d P G) {q n : Nat} {i x : Int32} {σ' : br_Wd} {pc : Nat} {L : List (Option br_V)} {st : List br_V} {σ : br_Wd} (hs : br_shps[q]? = some (.inl (false, n))) (hin : vp_in i n) (hu : br_up σ q i.toNatClampNeg x = σ') (hd : decode Y.2.1 pc = .ok (.iastore, 1)) (kk : G (pc + 1) L st σ') : G pc L (br_i x :: br_i i :: br_r q :: st) σ := by
  obtain ⟨p, l, e, R, s, m, args, below, meth, c, cells, slots, Q, D, cI, cZ, ad, A, H0, ⟨hx, hb, hml, hown, hts⟩, ⟨hK, hD, hA, hN⟩, hR, hfin, hG⟩ := C
  rw [hG] at kk ⊢
  intro H locs ls hP hS hl'
  subst hu
  exact va_iast (t0 := 0) (n := n) (f := σ.1 q) hx hb hK hP (hD σ) hS q (br_W_get hs) rfl hin hd (fun H1 locs1 hP1 _ hS1 => kk H1 locs1 ls (by rw [← br_ast_eq hs]; exact hP1) hS1 hl')
theorem br_zast {Y : br_Y} {d : Nat} {P : br_post} {G : br_Jg} (C : br_Ok Y d P G) {q n : Nat} {i x : Int32} {σ' : br_Wd} {pc : Nat} {L : List (Option br_V)} {st : List br_V} {σ : br_Wd} (hs : br_shps[q]? = some (.inl (true, n))) (hin : vp_in i n) (hu : br_up σ q i.toNatClampNeg (vp_nar .boolean x) = σ') (hd : decode Y.2.1 pc = .ok (.bastore, 1)) (kk : G (pc + 1) L st σ') : G pc L (br_i x :: br_i i :: br_r q :: st) σ := by
  obtain ⟨p, l, e, R, s, m, args, below, meth, c, cells, slots, Q, D, cI, cZ, ad, A, H0, ⟨hx, hb, hml, hown, hts⟩, ⟨hK, hD, hA, hN⟩, hR, hfin, hG⟩ := C
  rw [hG] at kk ⊢
  intro H locs ls hP hS hl'
  subst hu
  exact va_zast (t0 := 1) (n := n) (f := σ.1 q) hx hb hK hP (hD σ) hS q (br_W_get hs) rfl hin hd (fun H1 locs1 hP1 _ hS1 => kk H1 locs1 ls (by rw [← br_ast_eq hs]; exact hP1) hS1 hl')
theorem br_alen {Y : br_Y} {d : Nat} {P : br_post} {G : br_Jg} (C : br_Ok Y d P G) {q n : Nat} {v : Int32} {pc : Nat} {L : List (Option br_V)} {st : List br_V} {σ : br_Wd} (hs : br_shps[q]? = some (.inl (false, n))) (hv : Int32.ofNat n = v) (hd : decode Y.2.1 pc = .ok (.arraylength, 1)) (kk : G (pc + 1) L (br_i v :: st) σ) : G pc L (br_r q :: st) σ := by
  obtain ⟨p, l, e, R, s, m, args, below, meth, c, cells, slots, Q, D, cI, cZ, ad, A, H0, ⟨hx, hb, hml, hown, hts⟩, ⟨hK, hD, hA, hN⟩, hR, hfin, hG⟩ := C
  rw [hG] at kk ⊢
  intro H locs ls hP hS hl'
  exact va_alen (t0 := 0) (x := (n, .inl (σ.1 q))) hx hb hK hP q (br_W_get hs) rfl hv hd (kk H locs ls hP hS hl')
-- calls
theorem br_callU {p : Program} {l : Launch} {e : Env} {R : Room} {s : State} {m : MethodId} {args : Array Value} {below : List Frame} {meth : Method} {c : Code} {H : Heap} {locs : List Loc} {cells slots : Nat} {Q : State → Prop} {pc : Nat} {ls : Array Slot} {rest st0 : List Value} {a : Array Value} {A0 A1 : Nat → Prop} {H0 : Heap} {free : Addr → Prop} {D : va_G} {cI cZ : ClassId} {ad : Nat → Nat} {P : br_post}
    (hr : va_Run p l e R s m args below meth c H locs cells slots 0 0 (F0 m pc ls st0) rest (br_Q D cI cZ ad A1 P a) free) (hS : va_S A0 H0 H locs) (hA : ∀ q, q < H.size → A1 q → A0 q) (hf : ∀ q, free q → A0 q)
    (kk : ∀ (v : Option br_V) (τ : br_Wd) (H1 : Heap) (locs1 : List Loc), P v τ → va_P D vwCl (br_W cI cZ ad τ) H1 → va_S A0 H0 H1 locs1 → W p l e R s m args below meth c H1 locs1 cells slots Q (F0 m (pc + 3) ls ((v.map (br_av ad)).toList ++ rest))) : W p l e R s m args below meth c H locs cells slots Q (F0 m pc ls st0) := by
  intro T hT X
  obtain ⟨v, st₀, t, T', L, h0, X', hL, e1, e2, ⟨⟨w, τ, hv, hp, hb⟩, hz, hk⟩, st⟩ := hr T hT X
  cases hv
  rw [h0] at hz hk
  obtain ⟨t2, a1, b1⟩ := kk w τ T'.heap (locs ++ L) hp (by rw [e1]; exact hb)
    ⟨Nat.le_trans hS.1 (by rw [e1]; exact hz), fun q h1 h2 => by rw [e1, hk q (Nat.lt_of_lt_of_le h1 hS.1) (fun z => h2 (hA q (Nat.lt_of_lt_of_le h1 hS.1) z))]; exact hS.2.1 q h1 h2, fun q hq => by
      rcases List.mem_append.mp hq with h | h
      · exact hS.2.2 q h
      · exact hf _ (hL q h)⟩ T' rfl X'
  exact ⟨t2, st t2 a1, b1⟩
def br_vc (own : String) (idx : Nat) (Y : br_Y) (n : Nat) : Prop := (Cond.methodLink own idx Y.1 ∈ br_W0 ∧ Cond.initialized Y.1.cls ∈ br_W0 ∧ Cond.code Y.1 Y.2.1 Y.2.2.1 Y.2.2.2 ∈ br_W0) ∧ (Cond.instanceMethod Y.1 ∈ br_W0 ∧ Cond.selects Y.1.cls Y.1 Y.1 ∈ br_W0) ∧ (Y.1.cls ≠ "java/lang/invoke/MethodHandle" ∧ Y.1.cls ≠ "java/lang/invoke/VarHandle" ∧ (parseMethodDescriptor Y.1.desc).map (fun d => d.parameters.length) = some n) ∧ Y.2.2.1 ≤ 10
def br_sc (own : String) (idx : Nat) (Y : br_Y) (n : Nat) : Prop := ((Cond.methodLink own idx Y.1 ∈ br_W0 ∨ (own, idx, Y.1) ∈ br_nestM) ∧ Cond.initialized Y.1.cls ∈ br_W0 ∧ Cond.code Y.1 Y.2.1 Y.2.2.1 Y.2.2.2 ∈ br_W0) ∧ Cond.static Y.1 ∈ br_W0 ∧ (Y.1.cls ≠ "java/lang/invoke/MethodHandle" ∧ Y.1.cls ≠ "java/lang/invoke/VarHandle" ∧ (parseMethodDescriptor Y.1.desc).map (fun d => d.parameters.length) = some n) ∧ Y.2.2.1 ≤ 10
theorem br_ws_good {Y : br_Y} (h : Cond.code Y.1 Y.2.1 Y.2.2.1 Y.2.2.2 ∈ br_W0) : GoodIn br_W0 (br_ws Y) := by
  intro w hw
  rcases List.mem_cons.mp hw with rfl | hw
  · exact ⟨h, br_W0_good h⟩
  · exact ⟨hw, br_W0_good hw⟩
theorem br_callV {Y : br_Y} {d : Nat} {P : br_post} {G : br_Jg} (C : br_Ok Y d P G) {idx : Nat} {Y2 : br_Y} {n d2 : Nat} (hvc : br_vc Y.1.cls idx Y2 n) {q : Nat} {As : List br_V} {σ : br_Wd} {P2 : br_post} (hM : br_Met d2 Y2 (br_r q :: As) σ P2) (hd2 : d2 < d) {ci : Nat} {fs : List br_FK} {T : u_T} {N : Nat} (hs : br_shps[q]? = some (.inr (ci, fs))) (hc : vwCl[ci]? = some (Y2.1.cls, T, N)) {pc : Nat} {L : List (Option br_V)} {st : List br_V} (hn : As.length = n) (hst : ∀ ad, (st.map (fun v => (br_av ad v).category)).sum ≤ 8) (hd : decode Y.2.1 pc = .ok (.invokevirtual idx, 3)) (kk : ∀ v τ, P2 v τ → G (pc + 3) L (v.toList ++ st) τ) : G pc L (As.reverse ++ br_r q :: st) σ := by
  obtain ⟨p, l, e, R, s, m, args, below, meth, c, cells, slots, Q, D, cI, cZ, ad, A, H0, ⟨hx, hb, hml, hown, hts⟩, ⟨hK, hD, hA, hN⟩, hR, hfin, hG⟩ := C
  rw [hG]
  intro H locs ls hP hS hl'
  obtain ⟨⟨w1, w2, w3⟩, ⟨w4, w5⟩, hcl, hml2⟩ := hvc
  have hn' : ∀ (v : Option br_V) , ((v.map (br_av ad)).toList ++ st.map (br_av ad)) = (v.toList ++ st).map (br_av ad) := fun v => by cases v <;> simp
  have hfree : ∀ x, va_A (br_W cI cZ ad σ) H.size x → A x := fun x hx2 => by
    rcases hx2 with ⟨k, e2, hk⟩ | hge
    · exact (hD σ).2 k _ hk
    · exact hA x (Nat.le_trans hS.1 hge)
  have hroom : (br_room d2).frames + 1 ≤ R.frames ∧ 8 + (Y2.2.2.1 + 11) + (br_room d2).locals ≤ R.locals := by
    have h1 := hR.1
    have h2 := hR.2.1
    simp only [br_room]
    omega
  refine br_callU (va_runV (As := As.map (br_av ad)) (rest := st.map (br_av ad)) (b := ad q) (C := Y2.1.cls) (n := n) ⟨hx, hb, hml, hown, hts⟩ (hM l D cI cZ ad H.size) (cwV n hts (fun w hw => ?_) rfl rfl rfl ⟨rfl, hcl⟩ hroom) ⟨?_, va_recv hK hP (q0 := q) hc (br_W_get hs), ?_⟩ rfl (by rw [List.length_map]; exact hn) hl'.1 (by show List.map (br_av ad) _ = _; simp [br_av]) (lv_room (by rw [List.map_map]; exact hst ad)) hd ⟨by omega, by omega⟩) hS (fun q2 _ h => hfree q2 h) hfree ?_
  · rcases List.mem_append.mp (show w ∈ ([.methodLink Y.1.cls idx Y2.1, .instanceMethod Y2.1, .selects Y2.1.cls Y2.1 Y2.1, .initialized Y2.1.cls] : List Cond) ++ br_ws Y2 from hw) with h | h
    · simp only [List.mem_cons, List.not_mem_nil, or_false] at h
      rcases h with rfl | rfl | rfl | rfl
      · exact ⟨w1, br_W0_good w1⟩
      · exact ⟨w4, br_W0_good w4⟩
      · exact ⟨w5, br_W0_good w5⟩
      · exact ⟨w2, br_W0_good w2⟩
    · exact br_ws_good w3 w h
  · rintro a U g mk ⟨q0, q1, qP, qK, qD, qN⟩
    exact ⟨q0, q1, qP, va_K.moved (u := U) (U := U.calling g mk a) (Vm.Alike.refl U.vm) qK, qD, br_N.same (u := U) (U := U.calling g mk a) rfl qN⟩
  · intro U hU hW
    exact ⟨rfl, by rw [hU], by rw [hU]; exact hP, va_K.moved hW.alike hK, (hD σ).weaken (fun _ _ _ _ => trivial), hN.warm hW⟩
  · intro v τ H1 locs1 hp hP1 hS1
    rw [hn']
    exact (hG _ _ _ _).mp (kk v τ hp) H1 locs1 ls hP1 hS1 hl'
theorem br_callS {Y : br_Y} {d : Nat} {P : br_post} {G : br_Jg} (C : br_Ok Y d P G) {idx : Nat} {Y2 : br_Y} {n d2 : Nat} (hvc : br_sc Y.1.cls idx Y2 n) {As : List br_V} {σ : br_Wd} {P2 : br_post} (hM : br_Met d2 Y2 As σ P2) (hd2 : d2 < d) {pc : Nat} {L : List (Option br_V)} {st : List br_V} (hn : As.length = n) (hst : ∀ ad, (st.map (fun v => (br_av ad v).category)).sum ≤ 8) (hd : decode Y.2.1 pc = .ok (.invokestatic idx, 3)) (kk : ∀ v τ, P2 v τ → G (pc + 3) L (v.toList ++ st) τ) : G pc L (As.reverse ++ st) σ := by
  obtain ⟨p, l, e, R, s, m, args, below, meth, c, cells, slots, Q, D, cI, cZ, ad, A, H0, ⟨hx, hb, hml, hown, hts⟩, ⟨hK, hD, hA, hN⟩, hR, hfin, hG⟩ := C
  rw [hG]
  intro H locs ls hP hS hl'
  obtain ⟨⟨w1, w2, w3⟩, w4, hcl, hml2⟩ := hvc
  have hn' : ∀ (v : Option br_V) , ((v.map (br_av ad)).toList ++ st.map (br_av ad)) = (v.toList ++ st).map (br_av ad) := fun v => by cases v <;> simp
  have hfree : ∀ x, va_A (br_W cI cZ ad σ) H.size x → A x := fun x hx2 => by
    rcases hx2 with ⟨k, e2, hk⟩ | hge
    · exact (hD σ).2 k _ hk
    · exact hA x (Nat.le_trans hS.1 hge)
  have hroom : (br_room d2).frames + 1 ≤ R.frames ∧ 8 + (Y2.2.2.1 + 11) + (br_room d2).locals ≤ R.locals := by
    have h1 := hR.1
    have h2 := hR.2.1
    simp only [br_room]
    omega
  have hrun : va_Run p l e R s m args below meth c H locs cells slots 0 0 (F0 m pc ls ((As.reverse ++ st).map (br_av ad))) (st.map (br_av ad)) (br_Q D cI cZ ad (va_A (br_W cI cZ ad σ) H.size) P2 (As.map (br_av ad)).toArray) (va_A (br_W cI cZ ad σ) H.size) := by
    have hpre : PreS s H (va_Pc (As.map (br_av ad)) (fun U => U.heap.size = H.size ∧ va_P D vwCl (br_W cI cZ ad σ) U.heap ∧ va_K D vwCl (br_tys cI cZ) U ∧ va_D (fun _ => True) (br_W cI cZ ad σ) ∧ br_N U)) (As.map (br_av ad)) := by
      refine ⟨?_, ?_⟩
      · rintro a U g mk ⟨q0, q1, qP, qK, qD, qN⟩
        exact ⟨q0, q1, qP, va_K.moved (u := U) (U := U.calling g mk a) (Vm.Alike.refl U.vm) qK, qD, br_N.same (u := U) (U := U.calling g mk a) rfl qN⟩
      · intro U hU hW
        exact ⟨rfl, by rw [hU], by rw [hU]; exact hP, va_K.moved hW.alike hK, (hD σ).weaken (fun _ _ _ _ => trivial), hN.warm hW⟩
    rcases w1 with w1 | w1
    · exact va_runS (As := As.map (br_av ad)) (rest := st.map (br_av ad)) (n := n) ⟨hx, hb, hml, hown, hts⟩ (hM l D cI cZ ad H.size) ⟨callB_of n hts (br_ws_good w3) rfl rfl rfl (hts _ w2) (hts _ w1) hcl hroom, hts _ w4⟩ hpre rfl (by rw [List.length_map]; exact hn) hl'.1 (by show List.map (br_av ad) _ = _; simp) (lv_room (by rw [List.map_map]; exact hst ad)) hd ⟨by omega, by omega⟩
    · exact va_runSN (As := As.map (br_av ad)) (rest := st.map (br_av ad)) (n := n) (host := "BarRoutine") ⟨hx, hb, hml, hown, hts⟩ (hM l D cI cZ ad H.size) ⟨va_cnB n hts (br_ws_good w3) rfl rfl rfl (hN.2 _ w1) (hts _ w2) hcl hroom, hts _ w4, trivial⟩ hpre rfl (by rw [List.length_map]; exact hn) hl'.1 (by show List.map (br_av ad) _ = _; simp) (lv_room (by rw [List.map_map]; exact hst ad)) hd ⟨by omega, by omega⟩
  refine br_callU hrun hS (fun q2 _ h => hfree q2 h) hfree ?_
  · intro v τ H1 locs1 hp hP1 hS1
    rw [hn']
    exact (hG _ _ _ _).mp (kk v τ hp) H1 locs1 ls hP1 hS1 hl'
-- returns
theorem br_ret {Y : br_Y} {d : Nat} {P : br_post} {G : br_Jg} (C : br_Ok Y d P G) {v : Option br_V} {pc : Nat} {L : List (Option br_V)} {σ : br_Wd} (hr : br_isret Y pc v) (hp : P v σ) : G pc L v.toList σ := by
  obtain ⟨p, l, e, R, s, m, args, below, meth, c, cells, slots, Q, D, cI, cZ, ad, A, H0, ⟨hx, hb, hml, hown, hts⟩, ⟨hK, hD, hA, hN⟩, hR, hfin, hG⟩ := C
  rw [hG]
  intro H locs ls hP hS hl'
  have := hfin v σ H locs pc ls hp hP hS hr
  cases v <;> exact this
theorem br_iret {Y : br_Y} {d : Nat} {P : br_post} {G : br_Jg} (C : br_Ok Y d P G) {x : Int32} {pc : Nat} {L : List (Option br_V)} {σ : br_Wd} (hr : Y.2.2.2 = some .int) (hd : decode Y.2.1 pc = .ok (.ireturn, 1)) (hp : P (some (br_i x)) σ) : G pc L [br_i x] σ :=
  br_ret C (v := some (br_i x)) ⟨⟨.int, hr, rfl⟩, hd⟩ hp
theorem br_zret {Y : br_Y} {d : Nat} {P : br_post} {G : br_Jg} (C : br_Ok Y d P G) {x : Int32} {pc : Nat} {L : List (Option br_V)} {σ : br_Wd} (hx : x = 0 ∨ x = 1) (hr : Y.2.2.2 = some .boolean) (hd : decode Y.2.1 pc = .ok (.ireturn, 1)) (hp : P (some (br_i x)) σ) : G pc L [br_i x] σ :=
  br_ret C (v := some (br_i x)) ⟨⟨.boolean, hr, by rcases hx with rfl | rfl <;> decide⟩, hd⟩ hp
theorem br_lret {Y : br_Y} {d : Nat} {P : br_post} {G : br_Jg} (C : br_Ok Y d P G) {x : Int64} {pc : Nat} {L : List (Option br_V)} {σ : br_Wd} (hr : Y.2.2.2 = some .long) (hd : decode Y.2.1 pc = .ok (.lreturn, 1)) (hp : P (some (br_l x)) σ) : G pc L [br_l x] σ :=
  br_ret C (v := some (br_l x)) ⟨hr, hd⟩ hp
theorem br_vret {Y : br_Y} {d : Nat} {P : br_post} {G : br_Jg} (C : br_Ok Y d P G) {pc : Nat} {L : List (Option br_V)} {σ : br_Wd} (hr : Y.2.2.2 = none) (hd : decode Y.2.1 pc = .ok (.return_, 1)) (hp : P none σ) : G pc L [] σ :=
  br_ret C (v := none) ⟨hr, hd⟩ hp
