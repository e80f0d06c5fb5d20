section
-- ===== PART A: goes FIRST, ahead of the names: the tables' words, and 'selects' of the private methods out of them =====
/-- a private method of a class that the tables say can be made, by its rows of tables_1 -/
def lw_okq (q : MethodName × Nat) : Prop := (q.1.cls ≠ "java/lang/invoke/MethodHandle" ∧ q.1.cls ≠ "java/lang/invoke/VarHandle") ∧ Cond.instantiable q.1.cls q.2 ∈ tables_1 ∧ Cond.privateMethod q.1 ∈ tables_1 ∧ Cond.instanceMethod q.1 ∈ tables_1
theorem lw_p0 : lw_okq (⟨"BarRoutine$Tries", "likelihood", "(II)I"⟩, 5) := ⟨⟨by decide +kernel, by decide +kernel⟩, List.mem_of_getElem? (i := 70) (by decide +kernel), List.mem_of_getElem? (i := 232) (by decide +kernel), List.mem_of_getElem? (i := 233) (by decide +kernel)⟩
theorem lw_p1 : lw_okq (⟨"BarRoutine", "noGym", "()Z"⟩, 13) := ⟨⟨by decide +kernel, by decide +kernel⟩, List.mem_of_getElem? (i := 9) (by decide +kernel), List.mem_of_getElem? (i := 284) (by decide +kernel), List.mem_of_getElem? (i := 285) (by decide +kernel)⟩
theorem lw_p2 : lw_okq (⟨"BarRoutine$Routine", "gained", "(I)I"⟩, 3) := ⟨⟨by decide +kernel, by decide +kernel⟩, List.mem_of_getElem? (i := 53) (by decide +kernel), List.mem_of_getElem? (i := 292) (by decide +kernel), List.mem_of_getElem? (i := 293) (by decide +kernel)⟩
theorem lw_p3 : lw_okq (⟨"BarRoutine$Routine", "joinWorth", "(I)I"⟩, 3) := ⟨⟨by decide +kernel, by decide +kernel⟩, List.mem_of_getElem? (i := 53) (by decide +kernel), List.mem_of_getElem? (i := 297) (by decide +kernel), List.mem_of_getElem? (i := 298) (by decide +kernel)⟩
theorem lw_p4 : lw_okq (⟨"BarRoutine$Routine", "lackingPenalty", "()I"⟩, 3) := ⟨⟨by decide +kernel, by decide +kernel⟩, List.mem_of_getElem? (i := 53) (by decide +kernel), List.mem_of_getElem? (i := 302) (by decide +kernel), List.mem_of_getElem? (i := 303) (by decide +kernel)⟩
theorem lw_p5 : lw_okq (⟨"BarRoutine$Routine", "partsOf", "(I)I"⟩, 3) := ⟨⟨by decide +kernel, by decide +kernel⟩, List.mem_of_getElem? (i := 53) (by decide +kernel), List.mem_of_getElem? (i := 339) (by decide +kernel), List.mem_of_getElem? (i := 340) (by decide +kernel)⟩
theorem lw_p6 : lw_okq (⟨"BarRoutine", "findFinest", "(I)V"⟩, 13) := ⟨⟨by decide +kernel, by decide +kernel⟩, List.mem_of_getElem? (i := 9) (by decide +kernel), List.mem_of_getElem? (i := 351) (by decide +kernel), List.mem_of_getElem? (i := 352) (by decide +kernel)⟩
theorem lw_p7 : lw_okq (⟨"BarRoutine", "picksOf", "(I)I"⟩, 13) := ⟨⟨by decide +kernel, by decide +kernel⟩, List.mem_of_getElem? (i := 9) (by decide +kernel), List.mem_of_getElem? (i := 355) (by decide +kernel), List.mem_of_getElem? (i := 356) (by decide +kernel)⟩
theorem lw_p8 : lw_okq (⟨"BarRoutine", "pickByNumber", "(II)Z"⟩, 13) := ⟨⟨by decide +kernel, by decide +kernel⟩, List.mem_of_getElem? (i := 9) (by decide +kernel), List.mem_of_getElem? (i := 359) (by decide +kernel), List.mem_of_getElem? (i := 360) (by decide +kernel)⟩
theorem lw_p9 : lw_okq (⟨"BarRoutineModel", "faultOf", "()I"⟩, 21) := ⟨⟨by decide +kernel, by decide +kernel⟩, List.mem_of_getElem? (i := 433) (by decide +kernel), List.mem_of_getElem? (i := 519) (by decide +kernel), List.mem_of_getElem? (i := 520) (by decide +kernel)⟩
theorem lw_p10 : lw_okq (⟨"BarRoutineModel", "isPiece", "(I)Z"⟩, 21) := ⟨⟨by decide +kernel, by decide +kernel⟩, List.mem_of_getElem? (i := 433) (by decide +kernel), List.mem_of_getElem? (i := 539) (by decide +kernel), List.mem_of_getElem? (i := 540) (by decide +kernel)⟩
theorem lw_p11 : lw_okq (⟨"BarRoutineModel", "tell", "(II)I"⟩, 21) := ⟨⟨by decide +kernel, by decide +kernel⟩, List.mem_of_getElem? (i := 433) (by decide +kernel), List.mem_of_getElem? (i := 543) (by decide +kernel), List.mem_of_getElem? (i := 544) (by decide +kernel)⟩
theorem lw_p12 : lw_okq (⟨"BarRoutineModel", "placeOf", "(I)I"⟩, 21) := ⟨⟨by decide +kernel, by decide +kernel⟩, List.mem_of_getElem? (i := 433) (by decide +kernel), List.mem_of_getElem? (i := 547) (by decide +kernel), List.mem_of_getElem? (i := 548) (by decide +kernel)⟩
theorem lw_p13 : lw_okq (⟨"BarRoutineModel", "tenthsOf", "(II)I"⟩, 21) := ⟨⟨by decide +kernel, by decide +kernel⟩, List.mem_of_getElem? (i := 433) (by decide +kernel), List.mem_of_getElem? (i := 551) (by decide +kernel), List.mem_of_getElem? (i := 552) (by decide +kernel)⟩
theorem lw_p14 : lw_okq (⟨"BarRoutineModel", "sureOf", "(I)I"⟩, 21) := ⟨⟨by decide +kernel, by decide +kernel⟩, List.mem_of_getElem? (i := 433) (by decide +kernel), List.mem_of_getElem? (i := 558) (by decide +kernel), List.mem_of_getElem? (i := 559) (by decide +kernel)⟩
theorem lw_p15 : lw_okq (⟨"BarRoutineModel", "triedWays", "(II)J"⟩, 21) := ⟨⟨by decide +kernel, by decide +kernel⟩, List.mem_of_getElem? (i := 433) (by decide +kernel), List.mem_of_getElem? (i := 562) (by decide +kernel), List.mem_of_getElem? (i := 563) (by decide +kernel)⟩
def lw_privs_1 : List (MethodName × Nat) := [(⟨"BarRoutine$Tries", "likelihood", "(II)I"⟩, 5), (⟨"BarRoutine", "noGym", "()Z"⟩, 13), (⟨"BarRoutine$Routine", "gained", "(I)I"⟩, 3), (⟨"BarRoutine$Routine", "joinWorth", "(I)I"⟩, 3), (⟨"BarRoutine$Routine", "lackingPenalty", "()I"⟩, 3), (⟨"BarRoutine$Routine", "partsOf", "(I)I"⟩, 3), (⟨"BarRoutine", "findFinest", "(I)V"⟩, 13), (⟨"BarRoutine", "picksOf", "(I)I"⟩, 13), (⟨"BarRoutine", "pickByNumber", "(II)Z"⟩, 13), (⟨"BarRoutineModel", "faultOf", "()I"⟩, 21), (⟨"BarRoutineModel", "isPiece", "(I)Z"⟩, 21), (⟨"BarRoutineModel", "tell", "(II)I"⟩, 21), (⟨"BarRoutineModel", "placeOf", "(I)I"⟩, 21), (⟨"BarRoutineModel", "tenthsOf", "(II)I"⟩, 21), (⟨"BarRoutineModel", "sureOf", "(I)I"⟩, 21), (⟨"BarRoutineModel", "triedWays", "(II)J"⟩, 21)]
theorem lw_r1 : ∀ q ∈ lw_privs_1, lw_okq q := List.forall_mem_cons.mpr ⟨lw_p0, List.forall_mem_cons.mpr ⟨lw_p1, List.forall_mem_cons.mpr ⟨lw_p2, List.forall_mem_cons.mpr ⟨lw_p3, List.forall_mem_cons.mpr ⟨lw_p4, List.forall_mem_cons.mpr ⟨lw_p5, List.forall_mem_cons.mpr ⟨lw_p6, List.forall_mem_cons.mpr ⟨lw_p7, List.forall_mem_cons.mpr ⟨lw_p8, List.forall_mem_cons.mpr ⟨lw_p9, List.forall_mem_cons.mpr ⟨lw_p10, List.forall_mem_cons.mpr ⟨lw_p11, List.forall_mem_cons.mpr ⟨lw_p12, List.forall_mem_cons.mpr ⟨lw_p13, List.forall_mem_cons.mpr ⟨lw_p14, List.forall_mem_cons.mpr ⟨lw_p15, fun _ h => absurd h List.not_mem_nil⟩⟩⟩⟩⟩⟩⟩⟩⟩⟩⟩⟩⟩⟩⟩⟩
theorem lw_p16 : lw_okq (⟨"BarRoutineModel", "likelyOf", "(I)I"⟩, 21) := ⟨⟨by decide +kernel, by decide +kernel⟩, List.mem_of_getElem? (i := 433) (by decide +kernel), List.mem_of_getElem? (i := 566) (by decide +kernel), List.mem_of_getElem? (i := 567) (by decide +kernel)⟩
theorem lw_p17 : lw_okq (⟨"BarRoutineModel", "isPlace", "(I)Z"⟩, 21) := ⟨⟨by decide +kernel, by decide +kernel⟩, List.mem_of_getElem? (i := 433) (by decide +kernel), List.mem_of_getElem? (i := 583) (by decide +kernel), List.mem_of_getElem? (i := 584) (by decide +kernel)⟩
theorem lw_p18 : lw_okq (⟨"BarRoutineModel", "lacks", "()Z"⟩, 21) := ⟨⟨by decide +kernel, by decide +kernel⟩, List.mem_of_getElem? (i := 433) (by decide +kernel), List.mem_of_getElem? (i := 599) (by decide +kernel), List.mem_of_getElem? (i := 600) (by decide +kernel)⟩
theorem lw_p19 : lw_okq (⟨"BarRoutineModel", "scoreOf", "([III)I"⟩, 21) := ⟨⟨by decide +kernel, by decide +kernel⟩, List.mem_of_getElem? (i := 433) (by decide +kernel), List.mem_of_getElem? (i := 603) (by decide +kernel), List.mem_of_getElem? (i := 604) (by decide +kernel)⟩
theorem lw_p20 : lw_okq (⟨"BarRoutineModel", "isFlight", "(I)Z"⟩, 21) := ⟨⟨by decide +kernel, by decide +kernel⟩, List.mem_of_getElem? (i := 433) (by decide +kernel), List.mem_of_getElem? (i := 607) (by decide +kernel), List.mem_of_getElem? (i := 608) (by decide +kernel)⟩
theorem lw_p21 : lw_okq (⟨"BarRoutineModel", "isTurn", "(I)Z"⟩, 21) := ⟨⟨by decide +kernel, by decide +kernel⟩, List.mem_of_getElem? (i := 433) (by decide +kernel), List.mem_of_getElem? (i := 611) (by decide +kernel), List.mem_of_getElem? (i := 612) (by decide +kernel)⟩
theorem lw_p22 : lw_okq (⟨"BarRoutineModel", "joins", "([III)Z"⟩, 21) := ⟨⟨by decide +kernel, by decide +kernel⟩, List.mem_of_getElem? (i := 433) (by decide +kernel), List.mem_of_getElem? (i := 615) (by decide +kernel), List.mem_of_getElem? (i := 616) (by decide +kernel)⟩
theorem lw_p23 : lw_okq (⟨"BarRoutineModel", "meanOf", "([III)I"⟩, 21) := ⟨⟨by decide +kernel, by decide +kernel⟩, List.mem_of_getElem? (i := 433) (by decide +kernel), List.mem_of_getElem? (i := 623) (by decide +kernel), List.mem_of_getElem? (i := 624) (by decide +kernel)⟩
theorem lw_p24 : lw_okq (⟨"BarRoutineModel", "meanUp", "([II)I"⟩, 21) := ⟨⟨by decide +kernel, by decide +kernel⟩, List.mem_of_getElem? (i := 433) (by decide +kernel), List.mem_of_getElem? (i := 627) (by decide +kernel), List.mem_of_getElem? (i := 628) (by decide +kernel)⟩
theorem lw_p25 : lw_okq (⟨"BarRoutineModel", "waysOf", "([III)I"⟩, 21) := ⟨⟨by decide +kernel, by decide +kernel⟩, List.mem_of_getElem? (i := 433) (by decide +kernel), List.mem_of_getElem? (i := 631) (by decide +kernel), List.mem_of_getElem? (i := 632) (by decide +kernel)⟩
theorem lw_p26 : lw_okq (⟨"BarRoutineModel", "oddsOf", "(II)I"⟩, 21) := ⟨⟨by decide +kernel, by decide +kernel⟩, List.mem_of_getElem? (i := 433) (by decide +kernel), List.mem_of_getElem? (i := 647) (by decide +kernel), List.mem_of_getElem? (i := 648) (by decide +kernel)⟩
theorem lw_p27 : lw_okq (⟨"BarRoutineModel", "oddsUp", "([III)I"⟩, 21) := ⟨⟨by decide +kernel, by decide +kernel⟩, List.mem_of_getElem? (i := 433) (by decide +kernel), List.mem_of_getElem? (i := 651) (by decide +kernel), List.mem_of_getElem? (i := 652) (by decide +kernel)⟩
theorem lw_p28 : lw_okq (⟨"BarRoutineModel", "bestOf", "(II)I"⟩, 21) := ⟨⟨by decide +kernel, by decide +kernel⟩, List.mem_of_getElem? (i := 433) (by decide +kernel), List.mem_of_getElem? (i := 662) (by decide +kernel), List.mem_of_getElem? (i := 663) (by decide +kernel)⟩
theorem lw_p29 : lw_okq (⟨"BarRoutineModel", "layRow", "(II)Z"⟩, 21) := ⟨⟨by decide +kernel, by decide +kernel⟩, List.mem_of_getElem? (i := 433) (by decide +kernel), List.mem_of_getElem? (i := 666) (by decide +kernel), List.mem_of_getElem? (i := 667) (by decide +kernel)⟩
theorem lw_p30 : lw_okq (⟨"BarRoutineModel", "moreOf", "(I)I"⟩, 21) := ⟨⟨by decide +kernel, by decide +kernel⟩, List.mem_of_getElem? (i := 433) (by decide +kernel), List.mem_of_getElem? (i := 677) (by decide +kernel), List.mem_of_getElem? (i := 678) (by decide +kernel)⟩
theorem lw_p31 : lw_okq (⟨"BarRoutineModel", "draw", "(I)I"⟩, 21) := ⟨⟨by decide +kernel, by decide +kernel⟩, List.mem_of_getElem? (i := 433) (by decide +kernel), List.mem_of_getElem? (i := 695) (by decide +kernel), List.mem_of_getElem? (i := 696) (by decide +kernel)⟩
def lw_privs_2 : List (MethodName × Nat) := [(⟨"BarRoutineModel", "likelyOf", "(I)I"⟩, 21), (⟨"BarRoutineModel", "isPlace", "(I)Z"⟩, 21), (⟨"BarRoutineModel", "lacks", "()Z"⟩, 21), (⟨"BarRoutineModel", "scoreOf", "([III)I"⟩, 21), (⟨"BarRoutineModel", "isFlight", "(I)Z"⟩, 21), (⟨"BarRoutineModel", "isTurn", "(I)Z"⟩, 21), (⟨"BarRoutineModel", "joins", "([III)Z"⟩, 21), (⟨"BarRoutineModel", "meanOf", "([III)I"⟩, 21), (⟨"BarRoutineModel", "meanUp", "([II)I"⟩, 21), (⟨"BarRoutineModel", "waysOf", "([III)I"⟩, 21), (⟨"BarRoutineModel", "oddsOf", "(II)I"⟩, 21), (⟨"BarRoutineModel", "oddsUp", "([III)I"⟩, 21), (⟨"BarRoutineModel", "bestOf", "(II)I"⟩, 21), (⟨"BarRoutineModel", "layRow", "(II)Z"⟩, 21), (⟨"BarRoutineModel", "moreOf", "(I)I"⟩, 21), (⟨"BarRoutineModel", "draw", "(I)I"⟩, 21)]
theorem lw_r2 : ∀ q ∈ lw_privs_2, lw_okq q := List.forall_mem_cons.mpr ⟨lw_p16, List.forall_mem_cons.mpr ⟨lw_p17, List.forall_mem_cons.mpr ⟨lw_p18, List.forall_mem_cons.mpr ⟨lw_p19, List.forall_mem_cons.mpr ⟨lw_p20, List.forall_mem_cons.mpr ⟨lw_p21, List.forall_mem_cons.mpr ⟨lw_p22, List.forall_mem_cons.mpr ⟨lw_p23, List.forall_mem_cons.mpr ⟨lw_p24, List.forall_mem_cons.mpr ⟨lw_p25, List.forall_mem_cons.mpr ⟨lw_p26, List.forall_mem_cons.mpr ⟨lw_p27, List.forall_mem_cons.mpr ⟨lw_p28, List.forall_mem_cons.mpr ⟨lw_p29, List.forall_mem_cons.mpr ⟨lw_p30, List.forall_mem_cons.mpr ⟨lw_p31, fun _ h => absurd h List.not_mem_nil⟩⟩⟩⟩⟩⟩⟩⟩⟩⟩⟩⟩⟩⟩⟩⟩
theorem lw_p32 : lw_okq (⟨"BarRoutineModel", "countOf", "(I)I"⟩, 21) := ⟨⟨by decide +kernel, by decide +kernel⟩, List.mem_of_getElem? (i := 433) (by decide +kernel), List.mem_of_getElem? (i := 715) (by decide +kernel), List.mem_of_getElem? (i := 716) (by decide +kernel)⟩
theorem lw_p33 : lw_okq (⟨"BarRoutineModel", "flightsIn", "()I"⟩, 21) := ⟨⟨by decide +kernel, by decide +kernel⟩, List.mem_of_getElem? (i := 433) (by decide +kernel), List.mem_of_getElem? (i := 719) (by decide +kernel), List.mem_of_getElem? (i := 720) (by decide +kernel)⟩
theorem lw_p34 : lw_okq (⟨"BarRoutineModel", "turnsIn", "()I"⟩, 21) := ⟨⟨by decide +kernel, by decide +kernel⟩, List.mem_of_getElem? (i := 433) (by decide +kernel), List.mem_of_getElem? (i := 723) (by decide +kernel), List.mem_of_getElem? (i := 724) (by decide +kernel)⟩
theorem lw_p35 : lw_okq (⟨"BarRoutineModel", "joinsIn", "()I"⟩, 21) := ⟨⟨by decide +kernel, by decide +kernel⟩, List.mem_of_getElem? (i := 433) (by decide +kernel), List.mem_of_getElem? (i := 727) (by decide +kernel), List.mem_of_getElem? (i := 728) (by decide +kernel)⟩
theorem lw_p36 : lw_okq (⟨"BarRoutineModel", "say", "(J)V"⟩, 21) := ⟨⟨by decide +kernel, by decide +kernel⟩, List.mem_of_getElem? (i := 433) (by decide +kernel), List.mem_of_getElem? (i := 736) (by decide +kernel), List.mem_of_getElem? (i := 737) (by decide +kernel)⟩
def lw_privs_3 : List (MethodName × Nat) := [(⟨"BarRoutineModel", "countOf", "(I)I"⟩, 21), (⟨"BarRoutineModel", "flightsIn", "()I"⟩, 21), (⟨"BarRoutineModel", "turnsIn", "()I"⟩, 21), (⟨"BarRoutineModel", "joinsIn", "()I"⟩, 21), (⟨"BarRoutineModel", "say", "(J)V"⟩, 21)]
theorem lw_r3 : ∀ q ∈ lw_privs_3, lw_okq q := List.forall_mem_cons.mpr ⟨lw_p32, List.forall_mem_cons.mpr ⟨lw_p33, List.forall_mem_cons.mpr ⟨lw_p34, List.forall_mem_cons.mpr ⟨lw_p35, List.forall_mem_cons.mpr ⟨lw_p36, fun _ h => absurd h List.not_mem_nil⟩⟩⟩⟩⟩
def lw_privs : List (MethodName × Nat) := lw_privs_1 ++ (lw_privs_2 ++ (lw_privs_3))
def lw_tbl : List Cond := k2_sels lw_privs ++ tables_1
theorem lw_privs_ok : ∀ q ∈ lw_privs, lw_okq q := by
  show ∀ q ∈ lw_privs_1 ++ (lw_privs_2 ++ (lw_privs_3)), lw_okq q
  exact List.forall_mem_append.mpr ⟨lw_r1, List.forall_mem_append.mpr ⟨lw_r2, lw_r3⟩⟩
-- ===== end of PART A; then your names; then what follows =====
/-! ===== BEGIN words of one list among another's, by their places ===== -/
theorem goodIn_r {big : List Cond} (ws : List Cond) (ps : List Nat) (hp : ws = ps.filterMap (fun i => big[i]?)) (h : ws.all goodWord = true) : GoodIn big ws := by
  intro w hw
  have h1 := List.all_eq_true.mp h w hw
  rw [hp] at hw
  obtain ⟨i, -, hi⟩ := List.mem_filterMap.mp hw
  have hm : w ∈ big := by first | exact List.mem_of_getElem? hi | exact List.getElem?_mem hi
  exact ⟨hm, good_of_word h1⟩
theorem goodIn_app {big a b : List Cond} (ha : GoodIn big a) (hb : GoodIn big b) : GoodIn big (a ++ b) := fun w h => (List.mem_append.mp h).elim (ha w) (hb w)
theorem goodIn_ca {big a b : List Cond} {c : Cond} (ha : GoodIn big (c :: a)) (hb : GoodIn big b) : GoodIn big (c :: (a ++ b)) := fun w h => (List.mem_cons.mp h).elim (fun e => ha w (List.mem_cons.mpr (Or.inl e))) (fun h => (List.mem_append.mp h).elim (fun h => ha w (List.mem_cons.mpr (Or.inr h))) (hb w))
theorem goodIn_sub {big ws : List Cond} (hm : ∀ w ∈ ws, w ∈ big) (h : ws.all goodWord = true) : GoodIn big ws := fun w hw => ⟨hm w hw, good_of_word (List.all_eq_true.mp h w hw)⟩
/-! ===== END ===== -/

/-! ===== BEGIN printed: names, fields, word lists, decode rows ===== -/
def RX0 : String := "BarRoutine$Gym"
def TX0 : u_T := fun k => match k with
  | 0 => ("BarRoutine$Gym", "kinds", "[I", true)
  | 1 => ("BarRoutine$Gym", "worths", "[I", true)
  | 2 => ("BarRoutine$Gym", "sures", "[I", true)
  | _ => ("BarRoutine$Gym", "size", "I", false)
def tyX0 : Nat → FieldType := fun k => match k with
  | 0 => .array .int
  | 1 => .array .int
  | 2 => .array .int
  | _ => .int
abbrev wsX00 : List Cond := u_ws RX0 TX0 4
theorem nmX0 : ∀ a, a < 4 → ∀ b, b < 4 → a ≠ b → (TX0 a).2.1 ≠ (TX0 b).2.1 := by decide +kernel
theorem tyX0_ok : ∀ k, k < 4 → parseFieldDescriptor (TX0 k).2.2.1 = some (tyX0 k) := by decide +kernel
abbrev cX0_init : ByteArray := prog_2_method_1_code
def yX0_init : MethodName := ⟨RX0, "<init>", "()V"⟩
abbrev cX0_read : ByteArray := prog_2_method_2_code
def yX0_read : MethodName := ⟨RX0, "read", "(LBarRoutine$Page;)V"⟩
abbrev cX0_has : ByteArray := prog_2_method_3_code
def yX0_has : MethodName := ⟨RX0, "has", "(I)Z"⟩
abbrev cX0_kindOf : ByteArray := prog_2_method_4_code
def yX0_kindOf : MethodName := ⟨RX0, "kindOf", "(I)I"⟩
abbrev cX0_worthOf : ByteArray := prog_2_method_5_code
def yX0_worthOf : MethodName := ⟨RX0, "worthOf", "(I)I"⟩
abbrev cX0_sureOf : ByteArray := prog_2_method_6_code
def yX0_sureOf : MethodName := ⟨RX0, "sureOf", "(I)I"⟩
abbrev cX0_isA : ByteArray := prog_2_method_7_code
def yX0_isA : MethodName := ⟨RX0, "isA", "(II)Z"⟩
def RX1 : String := "BarRoutine$Page"
def TX1 : u_T := fun k => match k with
  | 0 => ("BarRoutine$Page", "codes", "[I", true)
  | _ => ("BarRoutine$Page", "length", "I", false)
def tyX1 : Nat → FieldType := fun k => match k with
  | 0 => .array .int
  | _ => .int
abbrev wsX10 : List Cond := u_ws RX1 TX1 2
theorem nmX1 : ∀ a, a < 2 → ∀ b, b < 2 → a ≠ b → (TX1 a).2.1 ≠ (TX1 b).2.1 := by decide +kernel
theorem tyX1_ok : ∀ k, k < 2 → parseFieldDescriptor (TX1 k).2.2.1 = some (tyX1 k) := by decide +kernel
abbrev cX1_init : ByteArray := prog_3_method_1_code
def yX1_init : MethodName := ⟨RX1, "<init>", "()V"⟩
abbrev cX1_add : ByteArray := prog_3_method_2_code
def yX1_add : MethodName := ⟨RX1, "add", "(I)V"⟩
abbrev cX1_codeAt : ByteArray := prog_3_method_3_code
def yX1_codeAt : MethodName := ⟨RX1, "codeAt", "(I)I"⟩
abbrev cX1_firstFault : ByteArray := prog_3_method_4_code
def yX1_firstFault : MethodName := ⟨RX1, "firstFault", "()I"⟩
abbrev cX1_tellsGym : ByteArray := prog_3_method_5_code
def yX1_tellsGym : MethodName := ⟨RX1, "tellsGym", "()Z"⟩
abbrev cX1_fits : ByteArray := prog_3_method_6_code
def yX1_fits : MethodName := ⟨RX1, "fits", "(II)Z"⟩
abbrev cX1_kindByLetter : ByteArray := prog_3_method_7_code
def yX1_kindByLetter : MethodName := ⟨RX1, "kindByLetter", "(I)I"⟩
def RX2 : String := "BarRoutine$Routine"
def TX2 : u_T := fun k => match k with
  | 0 => ("BarRoutine$Routine", "gym", "LBarRoutine$Gym;", true)
  | 1 => ("BarRoutine$Routine", "pieces", "[I", true)
  | _ => ("BarRoutine$Routine", "size", "I", false)
def tyX2 : Nat → FieldType := fun k => match k with
  | 0 => .object "BarRoutine$Gym"
  | 1 => .array .int
  | _ => .int
abbrev wsX20 : List Cond := u_ws RX2 TX2 3
theorem nmX2 : ∀ a, a < 3 → ∀ b, b < 3 → a ≠ b → (TX2 a).2.1 ≠ (TX2 b).2.1 := by decide +kernel
theorem tyX2_ok : ∀ k, k < 3 → parseFieldDescriptor (TX2 k).2.2.1 = some (tyX2 k) := by decide +kernel
abbrev cX2_init : ByteArray := prog_4_method_1_code
def yX2_init : MethodName := ⟨RX2, "<init>", "(LBarRoutine$Gym;)V"⟩
abbrev cX2_reaches : ByteArray := prog_4_method_2_code
def yX2_reaches : MethodName := ⟨RX2, "reaches", "(I)Z"⟩
abbrev cX2_pieceAt : ByteArray := prog_4_method_3_code
def yX2_pieceAt : MethodName := ⟨RX2, "pieceAt", "(I)I"⟩
abbrev cX2_placeOf : ByteArray := prog_4_method_4_code
def yX2_placeOf : MethodName := ⟨RX2, "placeOf", "(I)I"⟩
abbrev cX2_holds : ByteArray := prog_4_method_5_code
def yX2_holds : MethodName := ⟨RX2, "holds", "(I)Z"⟩
abbrev cX2_append : ByteArray := prog_4_method_6_code
def yX2_append : MethodName := ⟨RX2, "append", "(I)V"⟩
abbrev cX2_removeAt : ByteArray := prog_4_method_7_code
def yX2_removeAt : MethodName := ⟨RX2, "removeAt", "(I)I"⟩
abbrev cX2_exchange : ByteArray := prog_4_method_8_code
def yX2_exchange : MethodName := ⟨RX2, "exchange", "(II)V"⟩
abbrev cX2_copyFrom : ByteArray := prog_4_method_9_code
def yX2_copyFrom : MethodName := ⟨RX2, "copyFrom", "(LBarRoutine$Routine;)V"⟩
abbrev cX2_howMany : ByteArray := prog_4_method_10_code
def yX2_howMany : MethodName := ⟨RX2, "howMany", "(I)I"⟩
abbrev cX2_joins : ByteArray := prog_4_method_11_code
def yX2_joins : MethodName := ⟨RX2, "joins", "()I"⟩
abbrev cX2_joinWorth : ByteArray := prog_4_method_12_code
def yX2_joinWorth : MethodName := ⟨RX2, "joinWorth", "(I)I"⟩
abbrev cX2_lackingPenalty : ByteArray := prog_4_method_13_code
def yX2_lackingPenalty : MethodName := ⟨RX2, "lackingPenalty", "()I"⟩
abbrev cX2_chanceAt : ByteArray := prog_4_method_14_code
def yX2_chanceAt : MethodName := ⟨RX2, "chanceAt", "(I)I"⟩
abbrev cX2_points : ByteArray := prog_4_method_15_code
def yX2_points : MethodName := ⟨RX2, "points", "(I)I"⟩
abbrev cX2_gained : ByteArray := prog_4_method_16_code
def yX2_gained : MethodName := ⟨RX2, "gained", "(I)I"⟩
abbrev cX2_meanInHundredths : ByteArray := prog_4_method_17_code
def yX2_meanInHundredths : MethodName := ⟨RX2, "meanInHundredths", "()I"⟩
abbrev cX2_allParts : ByteArray := prog_4_method_18_code
def yX2_allParts : MethodName := ⟨RX2, "allParts", "()I"⟩
abbrev cX2_partsWith : ByteArray := prog_4_method_19_code
def yX2_partsWith : MethodName := ⟨RX2, "partsWith", "(I)I"⟩
abbrev cX2_partsOf : ByteArray := prog_4_method_20_code
def yX2_partsOf : MethodName := ⟨RX2, "partsOf", "(I)I"⟩
def RX3 : String := "BarRoutine$Tries"
def TX3 : u_T := fun k => match k with
  | 0 => ("BarRoutine$Tries", "gym", "LBarRoutine$Gym;", true)
  | 1 => ("BarRoutine$Tries", "pieces", "[I", true)
  | 2 => ("BarRoutine$Tries", "behinds", "[I", true)
  | 3 => ("BarRoutine$Tries", "successes", "[Z", true)
  | _ => ("BarRoutine$Tries", "size", "I", false)
def tyX3 : Nat → FieldType := fun k => match k with
  | 0 => .object "BarRoutine$Gym"
  | 1 => .array .int
  | 2 => .array .int
  | 3 => .array .boolean
  | _ => .int
abbrev wsX30 : List Cond := u_ws RX3 TX3 5
theorem nmX3 : ∀ a, a < 5 → ∀ b, b < 5 → a ≠ b → (TX3 a).2.1 ≠ (TX3 b).2.1 := by decide +kernel
theorem tyX3_ok : ∀ k, k < 5 → parseFieldDescriptor (TX3 k).2.2.1 = some (tyX3 k) := by decide +kernel
abbrev cX3_init : ByteArray := prog_5_method_1_code
def yX3_init : MethodName := ⟨RX3, "<init>", "(LBarRoutine$Gym;)V"⟩
abbrev cX3_add : ByteArray := prog_5_method_2_code
def yX3_add : MethodName := ⟨RX3, "add", "(IIZ)V"⟩
abbrev cX3_copyFrom : ByteArray := prog_5_method_3_code
def yX3_copyFrom : MethodName := ⟨RX3, "copyFrom", "(LBarRoutine$Tries;)V"⟩
abbrev cX3_possibleSures : ByteArray := prog_5_method_4_code
def yX3_possibleSures : MethodName := ⟨RX3, "possibleSures", "(I)I"⟩
abbrev cX3_likeliestSure : ByteArray := prog_5_method_5_code
def yX3_likeliestSure : MethodName := ⟨RX3, "likeliestSure", "(I)I"⟩
abbrev cX3_likelihood : ByteArray := prog_5_method_6_code
def yX3_likelihood : MethodName := ⟨RX3, "likelihood", "(II)I"⟩
def RX4 : String := "BarRoutine"
def TX4 : u_T := fun k => match k with
  | 0 => ("BarRoutine", "page", "LBarRoutine$Page;", true)
  | 1 => ("BarRoutine", "gym", "LBarRoutine$Gym;", true)
  | 2 => ("BarRoutine", "routine", "LBarRoutine$Routine;", true)
  | 3 => ("BarRoutine", "tries", "LBarRoutine$Tries;", true)
  | 4 => ("BarRoutine", "changes", "I", false)
  | 5 => ("BarRoutine", "imageKept", "Z", false)
  | 6 => ("BarRoutine", "imageRoutine", "LBarRoutine$Routine;", true)
  | 7 => ("BarRoutine", "imageTries", "LBarRoutine$Tries;", true)
  | 8 => ("BarRoutine", "imageChanges", "I", false)
  | 9 => ("BarRoutine", "trial", "LBarRoutine$Routine;", true)
  | 10 => ("BarRoutine", "finest", "LBarRoutine$Routine;", true)
  | 11 => ("BarRoutine", "gymsRead", "I", false)
  | _ => ("BarRoutine", "bestsDone", "I", false)
def tyX4 : Nat → FieldType := fun k => match k with
  | 0 => .object "BarRoutine$Page"
  | 1 => .object "BarRoutine$Gym"
  | 2 => .object "BarRoutine$Routine"
  | 3 => .object "BarRoutine$Tries"
  | 4 => .int
  | 5 => .boolean
  | 6 => .object "BarRoutine$Routine"
  | 7 => .object "BarRoutine$Tries"
  | 8 => .int
  | 9 => .object "BarRoutine$Routine"
  | 10 => .object "BarRoutine$Routine"
  | 11 => .int
  | _ => .int
abbrev wsX40 : List Cond := u_ws RX4 TX4 13
theorem nmX4 : ∀ a, a < 13 → ∀ b, b < 13 → a ≠ b → (TX4 a).2.1 ≠ (TX4 b).2.1 := by decide +kernel
theorem tyX4_ok : ∀ k, k < 13 → parseFieldDescriptor (TX4 k).2.2.1 = some (tyX4 k) := by decide +kernel
abbrev cX4_init : ByteArray := prog_1_method_1_code
def yX4_init : MethodName := ⟨RX4, "<init>", "()V"⟩
abbrev cX4_letter : ByteArray := prog_1_method_2_code
def yX4_letter : MethodName := ⟨RX4, "letter", "(I)I"⟩
abbrev cX4_blank : ByteArray := prog_1_method_3_code
def yX4_blank : MethodName := ⟨RX4, "blank", "()I"⟩
abbrev cX4_fault : ByteArray := prog_1_method_4_code
def yX4_fault : MethodName := ⟨RX4, "fault", "()I"⟩
abbrev cX4_gym : ByteArray := prog_1_method_5_code
def yX4_gym : MethodName := ⟨RX4, "gym", "()I"⟩
abbrev cX4_piece : ByteArray := prog_1_method_6_code
def yX4_piece : MethodName := ⟨RX4, "piece", "(II)I"⟩
abbrev cX4_as : ByteArray := prog_1_method_7_code
def yX4_as : MethodName := ⟨RX4, "as", "(II)I"⟩
abbrev cX4_put : ByteArray := prog_1_method_8_code
def yX4_put : MethodName := ⟨RX4, "put", "(I)I"⟩
abbrev cX4_take : ByteArray := prog_1_method_9_code
def yX4_take : MethodName := ⟨RX4, "take", "(I)I"⟩
abbrev cX4_swap : ByteArray := prog_1_method_10_code
def yX4_swap : MethodName := ⟨RX4, "swap", "(II)I"⟩
abbrev cX4_at : ByteArray := prog_1_method_11_code
def yX4_at : MethodName := ⟨RX4, "at", "(I)I"⟩
abbrev cX4_score : ByteArray := prog_1_method_12_code
def yX4_score : MethodName := ⟨RX4, "score", "(I)I"⟩
abbrev cX4_mean : ByteArray := prog_1_method_13_code
def yX4_mean : MethodName := ⟨RX4, "mean", "(I)I"⟩
abbrev cX4_odds : ByteArray := prog_1_method_14_code
def yX4_odds : MethodName := ⟨RX4, "odds", "(II)I"⟩
abbrev cX4_best : ByteArray := prog_1_method_15_code
def yX4_best : MethodName := ⟨RX4, "best", "(II)I"⟩
abbrev cX4_more : ByteArray := prog_1_method_16_code
def yX4_more : MethodName := ⟨RX4, "more", "(I)I"⟩
abbrev cX4_tryIt : ByteArray := prog_1_method_17_code
def yX4_tryIt : MethodName := ⟨RX4, "tryIt", "(IIZ)I"⟩
abbrev cX4_forget : ByteArray := prog_1_method_18_code
def yX4_forget : MethodName := ⟨RX4, "forget", "()I"⟩
abbrev cX4_meets : ByteArray := prog_1_method_19_code
def yX4_meets : MethodName := ⟨RX4, "meets", "(III)I"⟩
abbrev cX4_image : ByteArray := prog_1_method_20_code
def yX4_image : MethodName := ⟨RX4, "image", "()I"⟩
abbrev cX4_restore : ByteArray := prog_1_method_21_code
def yX4_restore : MethodName := ⟨RX4, "restore", "()I"⟩
abbrev cX4_count : ByteArray := prog_1_method_22_code
def yX4_count : MethodName := ⟨RX4, "count", "(I)I"⟩
abbrev cX4_digest : ByteArray := prog_1_method_23_code
def yX4_digest : MethodName := ⟨RX4, "digest", "()J"⟩
abbrev cX4_noGym : ByteArray := prog_1_method_24_code
def yX4_noGym : MethodName := ⟨RX4, "noGym", "()Z"⟩
abbrev cX4_isScore : ByteArray := prog_1_method_25_code
def yX4_isScore : MethodName := ⟨RX4, "isScore", "(I)Z"⟩
abbrev cX4_asksAboveOrBelow : ByteArray := prog_1_method_26_code
def yX4_asksAboveOrBelow : MethodName := ⟨RX4, "asksAboveOrBelow", "(I)Z"⟩
abbrev cX4_mixed : ByteArray := prog_1_method_27_code
def yX4_mixed : MethodName := ⟨RX4, "mixed", "(JJ)J"⟩
abbrev cX4_nextSeed : ByteArray := prog_1_method_28_code
def yX4_nextSeed : MethodName := ⟨RX4, "nextSeed", "(I)I"⟩
abbrev cX4_drawOfTen : ByteArray := prog_1_method_29_code
def yX4_drawOfTen : MethodName := ⟨RX4, "drawOfTen", "(I)I"⟩
abbrev cX4_inLowestTerms : ByteArray := prog_1_method_30_code
def yX4_inLowestTerms : MethodName := ⟨RX4, "inLowestTerms", "(III)I"⟩
abbrev cX4_commonDivisor : ByteArray := prog_1_method_31_code
def yX4_commonDivisor : MethodName := ⟨RX4, "commonDivisor", "(II)I"⟩
abbrev cX4_findFinest : ByteArray := prog_1_method_32_code
def yX4_findFinest : MethodName := ⟨RX4, "findFinest", "(I)V"⟩
abbrev cX4_picksOf : ByteArray := prog_1_method_33_code
def yX4_picksOf : MethodName := ⟨RX4, "picksOf", "(I)I"⟩
abbrev cX4_pickByNumber : ByteArray := prog_1_method_34_code
def yX4_pickByNumber : MethodName := ⟨RX4, "pickByNumber", "(II)Z"⟩
abbrev cX4_chanceOf : ByteArray := prog_1_method_35_code
def yX4_chanceOf : MethodName := ⟨RX4, "chanceOf", "(III)I"⟩
def RX5 : String := "BarRoutineModel"
def TX5 : u_T := fun k => match k with
  | 0 => ("BarRoutineModel", "page", "[I", true)
  | 1 => ("BarRoutineModel", "pageMany", "I", false)
  | 2 => ("BarRoutineModel", "pieces", "I", false)
  | 3 => ("BarRoutineModel", "changes", "I", false)
  | 4 => ("BarRoutineModel", "gymsRead", "I", false)
  | 5 => ("BarRoutineModel", "rows", "[I", true)
  | 6 => ("BarRoutineModel", "routine", "[I", true)
  | 7 => ("BarRoutineModel", "places", "I", false)
  | 8 => ("BarRoutineModel", "bestDone", "I", false)
  | 9 => ("BarRoutineModel", "row", "[I", true)
  | 10 => ("BarRoutineModel", "bestRow", "[I", true)
  | 11 => ("BarRoutineModel", "triedMany", "I", false)
  | 12 => ("BarRoutineModel", "tries", "[I", true)
  | 13 => ("BarRoutineModel", "seedNow", "I", false)
  | 14 => ("BarRoutineModel", "keptGym", "I", false)
  | 15 => ("BarRoutineModel", "keptPlaces", "I", false)
  | 16 => ("BarRoutineModel", "keptChanges", "I", false)
  | 17 => ("BarRoutineModel", "keptTried", "I", false)
  | 18 => ("BarRoutineModel", "keptRoutine", "[I", true)
  | 19 => ("BarRoutineModel", "keptTries", "[I", true)
  | _ => ("BarRoutineModel", "hash", "J", false)
def tyX5 : Nat → FieldType := fun k => match k with
  | 0 => .array .int
  | 1 => .int
  | 2 => .int
  | 3 => .int
  | 4 => .int
  | 5 => .array .int
  | 6 => .array .int
  | 7 => .int
  | 8 => .int
  | 9 => .array .int
  | 10 => .array .int
  | 11 => .int
  | 12 => .array .int
  | 13 => .int
  | 14 => .int
  | 15 => .int
  | 16 => .int
  | 17 => .int
  | 18 => .array .int
  | 19 => .array .int
  | _ => .long
abbrev wsX50 : List Cond := u_ws RX5 TX5 21
theorem nmX5 : ∀ a, a < 21 → ∀ b, b < 21 → a ≠ b → (TX5 a).2.1 ≠ (TX5 b).2.1 := by decide +kernel
theorem tyX5_ok : ∀ k, k < 21 → parseFieldDescriptor (TX5 k).2.2.1 = some (tyX5 k) := by decide +kernel
abbrev cX5_init : ByteArray := prog_7_method_1_code
def yX5_init : MethodName := ⟨RX5, "<init>", "()V"⟩
abbrev cX5_in : ByteArray := prog_7_method_2_code
def yX5_in : MethodName := ⟨RX5, "in", "(JJJ)Z"⟩
abbrev cX5_copy : ByteArray := prog_7_method_3_code
def yX5_copy : MethodName := ⟨RX5, "copy", "([I[I)V"⟩
abbrev cX5_common : ByteArray := prog_7_method_4_code
def yX5_common : MethodName := ⟨RX5, "common", "(II)I"⟩
abbrev cX5_letter : ByteArray := prog_7_method_5_code
def yX5_letter : MethodName := ⟨RX5, "letter", "(I)I"⟩
abbrev cX5_blank : ByteArray := prog_7_method_6_code
def yX5_blank : MethodName := ⟨RX5, "blank", "()I"⟩
abbrev cX5_kindBy : ByteArray := prog_7_method_7_code
def yX5_kindBy : MethodName := ⟨RX5, "kindBy", "(I)I"⟩
abbrev cX5_isGood : ByteArray := prog_7_method_8_code
def yX5_isGood : MethodName := ⟨RX5, "isGood", "(II)Z"⟩
abbrev cX5_faultOf : ByteArray := prog_7_method_9_code
def yX5_faultOf : MethodName := ⟨RX5, "faultOf", "()I"⟩
abbrev cX5_fault : ByteArray := prog_7_method_10_code
def yX5_fault : MethodName := ⟨RX5, "fault", "()I"⟩
abbrev cX5_gym : ByteArray := prog_7_method_11_code
def yX5_gym : MethodName := ⟨RX5, "gym", "()I"⟩
abbrev cX5_lacks : ByteArray := prog_7_method_12_code
def yX5_lacks : MethodName := ⟨RX5, "lacks", "()Z"⟩
abbrev cX5_isPiece : ByteArray := prog_7_method_13_code
def yX5_isPiece : MethodName := ⟨RX5, "isPiece", "(I)Z"⟩
abbrev cX5_isPlace : ByteArray := prog_7_method_14_code
def yX5_isPlace : MethodName := ⟨RX5, "isPlace", "(I)Z"⟩
abbrev cX5_tenthsBy : ByteArray := prog_7_method_15_code
def yX5_tenthsBy : MethodName := ⟨RX5, "tenthsBy", "(III)I"⟩
abbrev cX5_tenthsOf : ByteArray := prog_7_method_16_code
def yX5_tenthsOf : MethodName := ⟨RX5, "tenthsOf", "(II)I"⟩
abbrev cX5_placeOf : ByteArray := prog_7_method_17_code
def yX5_placeOf : MethodName := ⟨RX5, "placeOf", "(I)I"⟩
abbrev cX5_tell : ByteArray := prog_7_method_18_code
def yX5_tell : MethodName := ⟨RX5, "tell", "(II)I"⟩
abbrev cX5_piece : ByteArray := prog_7_method_19_code
def yX5_piece : MethodName := ⟨RX5, "piece", "(II)I"⟩
abbrev cX5_as : ByteArray := prog_7_method_20_code
def yX5_as : MethodName := ⟨RX5, "as", "(II)I"⟩
abbrev cX5_put : ByteArray := prog_7_method_21_code
def yX5_put : MethodName := ⟨RX5, "put", "(I)I"⟩
abbrev cX5_take : ByteArray := prog_7_method_22_code
def yX5_take : MethodName := ⟨RX5, "take", "(I)I"⟩
abbrev cX5_swap : ByteArray := prog_7_method_23_code
def yX5_swap : MethodName := ⟨RX5, "swap", "(II)I"⟩
abbrev cX5_at : ByteArray := prog_7_method_24_code
def yX5_at : MethodName := ⟨RX5, "at", "(I)I"⟩
abbrev cX5_isFlight : ByteArray := prog_7_method_25_code
def yX5_isFlight : MethodName := ⟨RX5, "isFlight", "(I)Z"⟩
abbrev cX5_isTurn : ByteArray := prog_7_method_26_code
def yX5_isTurn : MethodName := ⟨RX5, "isTurn", "(I)Z"⟩
abbrev cX5_joins : ByteArray := prog_7_method_27_code
def yX5_joins : MethodName := ⟨RX5, "joins", "([III)Z"⟩
abbrev cX5_scoreOf : ByteArray := prog_7_method_28_code
def yX5_scoreOf : MethodName := ⟨RX5, "scoreOf", "([III)I"⟩
abbrev cX5_waysOf : ByteArray := prog_7_method_29_code
def yX5_waysOf : MethodName := ⟨RX5, "waysOf", "([III)I"⟩
abbrev cX5_powerOf : ByteArray := prog_7_method_30_code
def yX5_powerOf : MethodName := ⟨RX5, "powerOf", "(I)I"⟩
abbrev cX5_score : ByteArray := prog_7_method_31_code
def yX5_score : MethodName := ⟨RX5, "score", "(I)I"⟩
abbrev cX5_meanUp : ByteArray := prog_7_method_32_code
def yX5_meanUp : MethodName := ⟨RX5, "meanUp", "([II)I"⟩
abbrev cX5_meanOf : ByteArray := prog_7_method_33_code
def yX5_meanOf : MethodName := ⟨RX5, "meanOf", "([III)I"⟩
abbrev cX5_mean : ByteArray := prog_7_method_34_code
def yX5_mean : MethodName := ⟨RX5, "mean", "(I)I"⟩
abbrev cX5_oddsUp : ByteArray := prog_7_method_35_code
def yX5_oddsUp : MethodName := ⟨RX5, "oddsUp", "([III)I"⟩
abbrev cX5_oddsOf : ByteArray := prog_7_method_36_code
def yX5_oddsOf : MethodName := ⟨RX5, "oddsOf", "(II)I"⟩
abbrev cX5_odds : ByteArray := prog_7_method_37_code
def yX5_odds : MethodName := ⟨RX5, "odds", "(II)I"⟩
abbrev cX5_layRow : ByteArray := prog_7_method_38_code
def yX5_layRow : MethodName := ⟨RX5, "layRow", "(II)Z"⟩
abbrev cX5_bestOf : ByteArray := prog_7_method_39_code
def yX5_bestOf : MethodName := ⟨RX5, "bestOf", "(II)I"⟩
abbrev cX5_best : ByteArray := prog_7_method_40_code
def yX5_best : MethodName := ⟨RX5, "best", "(II)I"⟩
abbrev cX5_moreOf : ByteArray := prog_7_method_41_code
def yX5_moreOf : MethodName := ⟨RX5, "moreOf", "(I)I"⟩
abbrev cX5_more : ByteArray := prog_7_method_42_code
def yX5_more : MethodName := ⟨RX5, "more", "(I)I"⟩
abbrev cX5_tryIt : ByteArray := prog_7_method_43_code
def yX5_tryIt : MethodName := ⟨RX5, "tryIt", "(IIZ)I"⟩
abbrev cX5_forget : ByteArray := prog_7_method_44_code
def yX5_forget : MethodName := ⟨RX5, "forget", "()I"⟩
abbrev cX5_triedWays : ByteArray := prog_7_method_45_code
def yX5_triedWays : MethodName := ⟨RX5, "triedWays", "(II)J"⟩
abbrev cX5_sureOf : ByteArray := prog_7_method_46_code
def yX5_sureOf : MethodName := ⟨RX5, "sureOf", "(I)I"⟩
abbrev cX5_likelyOf : ByteArray := prog_7_method_47_code
def yX5_likelyOf : MethodName := ⟨RX5, "likelyOf", "(I)I"⟩
abbrev cX5_draw : ByteArray := prog_7_method_48_code
def yX5_draw : MethodName := ⟨RX5, "draw", "(I)I"⟩
abbrev cX5_meets : ByteArray := prog_7_method_49_code
def yX5_meets : MethodName := ⟨RX5, "meets", "(III)I"⟩
abbrev cX5_image : ByteArray := prog_7_method_50_code
def yX5_image : MethodName := ⟨RX5, "image", "()I"⟩
abbrev cX5_restore : ByteArray := prog_7_method_51_code
def yX5_restore : MethodName := ⟨RX5, "restore", "()I"⟩
abbrev cX5_flightsIn : ByteArray := prog_7_method_52_code
def yX5_flightsIn : MethodName := ⟨RX5, "flightsIn", "()I"⟩
abbrev cX5_turnsIn : ByteArray := prog_7_method_53_code
def yX5_turnsIn : MethodName := ⟨RX5, "turnsIn", "()I"⟩
abbrev cX5_joinsIn : ByteArray := prog_7_method_54_code
def yX5_joinsIn : MethodName := ⟨RX5, "joinsIn", "()I"⟩
abbrev cX5_countOf : ByteArray := prog_7_method_55_code
def yX5_countOf : MethodName := ⟨RX5, "countOf", "(I)I"⟩
abbrev cX5_count : ByteArray := prog_7_method_56_code
def yX5_count : MethodName := ⟨RX5, "count", "(I)I"⟩
abbrev cX5_say : ByteArray := prog_7_method_57_code
def yX5_say : MethodName := ⟨RX5, "say", "(J)V"⟩
abbrev cX5_digest : ByteArray := prog_7_method_58_code
def yX5_digest : MethodName := ⟨RX5, "digest", "()J"⟩
def RJ9 : String := "java/lang/Math"
def TJ9 : u_T := fun k => match k with
  | _ => ("", "", "", false)
def tyJ9 : Nat → FieldType := fun k => match k with
  | _ => .int
theorem nmJ9 : ∀ a, a < 0 → ∀ b, b < 0 → a ≠ b → (TJ9 a).2.1 ≠ (TJ9 b).2.1 := by decide +kernel
theorem tyJ9_ok : ∀ k, k < 0 → parseFieldDescriptor (TJ9 k).2.2.1 = some (tyJ9 k) := by decide +kernel
abbrev cJ9_max_7cf53 : ByteArray := prog_8_method_65_code
def yJ9_max_7cf53 : MethodName := ⟨RJ9, "max", "(II)I"⟩
def RL : String := "BarRoutineLaw"
abbrev cL_law : ByteArray := code
def yL_law : MethodName := ⟨RL, "law", "([I)Z"⟩
abbrev vwCl : List vw_C := [(RX0, TX0, 4), (RX1, TX1, 2), (RX2, TX2, 3), (RX3, TX3, 5), (RX4, TX4, 13), (RX5, TX5, 21)]
end
section
/-! An abstract machine over a fixed world of 32 cells: places instead of addresses, one function for what they hold; a rule an instruction, proved once over the kit's rows. -/
-- words: all words of the tables that a call can hand on
def br_W0 : List Cond := lw_tbl.filter goodWord
theorem br_W0_in {w : Cond} {i : Nat} (h : lw_tbl[i]? = some w) (hg : goodWord w = true) : w ∈ br_W0 := List.mem_filter.mpr ⟨List.mem_of_getElem? h, hg⟩
theorem br_W0_good {w : Cond} (h : w ∈ br_W0) : (w.onTables && w.keeps) = true ∨ ∃ ty, w = .arrayClass ty := good_of_word (List.mem_filter.mp h).2
def br_nest : List (String × Nat × String × String × String × String) := [("BarRoutine$Gym", 25, "BarRoutine$Page", "length", "I", "BarRoutine"), ("BarRoutine", 68, "BarRoutine$Page", "length", "I", "BarRoutine"), ("BarRoutine", 91, "BarRoutine$Gym", "size", "I", "BarRoutine"), ("BarRoutine", 87, "BarRoutine$Routine", "size", "I", "BarRoutine"), ("BarRoutine", 90, "BarRoutine$Tries", "size", "I", "BarRoutine")]
def br_nw (w : String × Nat × String × String × String × String) : Cond := .fieldLinkNest w.1 w.2.1 w.2.2.1 w.2.2.2.1 w.2.2.2.2.1 w.2.2.2.2.2
def br_N (U : State) : Prop := ∀ w ∈ br_nest, va_Nw (br_nw w) U
theorem br_N.warm {s U : State} (hW : s.WarmedH U.vm) (h : br_N s) : br_N U := fun w hw => va_Nw.warmF hW (h w hw)
theorem br_N.same {u U : State} (e : u.vm = U.vm) (h : br_N u) : br_N U := fun w hw => va_Nw.same rfl e (h w hw)
-- values and worlds
abbrev br_V : Type := Int32 ⊕ (Int64 ⊕ Nat)
abbrev br_Wd : Type := (Nat → Nat → Int32) × Int64
abbrev br_i (x : Int32) : br_V := .inl x
abbrev br_l (x : Int64) : br_V := .inr (.inl x)
abbrev br_r (q : Nat) : br_V := .inr (.inr q)
def br_av (ad : Nat → Nat) : br_V → Value
  | .inl x => .int x
  | .inr (.inl x) => .long x
  | .inr (.inr q) => .ref (ad q)
def br_isl : br_V → Bool
  | .inr (.inl _) => true
  | _ => false
def br_up (σ : br_Wd) (q k : Nat) (v : Int32) : br_Wd := (fun q' k' => if q' = q then (if k' = k then v else σ.1 q' k') else σ.1 q' k', σ.2)
def br_upl (σ : br_Wd) (v : Int64) : br_Wd := (σ.1, v)
-- the shapes of the cells
abbrev br_FK : Type := Option (Option Nat)
abbrev br_Sh : Type := (Bool × Nat) ⊕ (Nat × List br_FK)
abbrev br_fr (q : Nat) : br_FK := some (some q)
def br_shps : List br_Sh := [
  .inr (4, [br_fr 1, br_fr 3, br_fr 7, br_fr 15, none, none, br_fr 9, br_fr 19, none, br_fr 11, br_fr 13, none, none]),
  .inr (1, [br_fr 2, none]), .inl (false, 30),
  .inr (0, [br_fr 4, br_fr 5, br_fr 6, none]), .inl (false, 7), .inl (false, 7), .inl (false, 7),
  .inr (2, [br_fr 3, br_fr 8, none]), .inl (false, 5),
  .inr (2, [br_fr 3, br_fr 10, none]), .inl (false, 5),
  .inr (2, [br_fr 3, br_fr 12, none]), .inl (false, 5),
  .inr (2, [br_fr 3, br_fr 14, none]), .inl (false, 5),
  .inr (3, [br_fr 3, br_fr 16, br_fr 17, br_fr 18, none]), .inl (false, 8), .inl (false, 8), .inl (true, 8),
  .inr (3, [br_fr 3, br_fr 20, br_fr 21, br_fr 22, none]), .inl (false, 8), .inl (false, 8), .inl (true, 8),
  .inr (5, [br_fr 24, none, none, none, none, br_fr 25, br_fr 26, none, none, br_fr 27, br_fr 28, none, br_fr 29, none, none, none, none, none, br_fr 30, br_fr 31, some none]),
  .inl (false, 30), .inl (false, 21), .inl (false, 5), .inl (false, 5), .inl (false, 5), .inl (false, 24), .inl (false, 5), .inl (false, 24)]
def br_fv (ad : Nat → Nat) (σ : br_Wd) (q k : Nat) : br_FK → Value
  | none => .int (σ.1 q k)
  | some none => .long σ.2
  | some (some r) => .ref (ad r)
def br_mkF (ad : Nat → Nat) (σ : br_Wd) (q : Nat) : Nat → List br_FK → List Value
  | _, [] => []
  | k, f :: fs => br_fv ad σ q k f :: br_mkF ad σ q (k + 1) fs
def br_mkE (cI cZ : ClassId) (ad : Nat → Nat) (σ : br_Wd) (q : Nat) : br_Sh → va_E
  | .inl (z, n) => .inl (cond z cZ cI, n, .inl (σ.1 q))
  | .inr (ci, fs) => .inr (ci, br_mkF ad σ q 0 fs)
def br_mkW (cI cZ : ClassId) (ad : Nat → Nat) (σ : br_Wd) : Nat → List br_Sh → va_W
  | _, [] => []
  | q, sh :: t => (ad q, br_mkE cI cZ ad σ q sh) :: br_mkW cI cZ ad σ (q + 1) t
def br_W (cI cZ : ClassId) (ad : Nat → Nat) (σ : br_Wd) : va_W := br_mkW cI cZ ad σ 0 br_shps
theorem br_mkF_get (ad : Nat → Nat) (σ : br_Wd) (q : Nat) : ∀ (fs : List br_FK) (k j : Nat), (br_mkF ad σ q k fs)[j]? = fs[j]?.map (br_fv ad σ q (k + j)) := by
  intro fs
  induction fs with
  | nil => intro k j; simp [br_mkF]
  | cons f fs ih =>
    intro k j
    cases j with
    | zero => simp [br_mkF]
    | succ j =>
      simp only [br_mkF, List.getElem?_cons_succ]
      rw [ih (k + 1) j, show k + 1 + j = k + (j + 1) by omega]
theorem br_mkW_get (cI cZ : ClassId) (ad : Nat → Nat) (σ : br_Wd) : ∀ (shs : List br_Sh) (q j : Nat), (br_mkW cI cZ ad σ q shs)[j]? = shs[j]?.map (fun sh => (ad (q + j), br_mkE cI cZ ad σ (q + j) sh)) := by
  intro shs
  induction shs with
  | nil => intro k j; simp [br_mkW]
  | cons f fs ih =>
    intro k j
    cases j with
    | zero => simp [br_mkW]
    | succ j =>
      simp only [br_mkW, List.getElem?_cons_succ]
      rw [ih (k + 1) j, show k + 1 + j = k + (j + 1) by omega]
theorem br_W_get {cI cZ : ClassId} {ad : Nat → Nat} {σ : br_Wd} {q : Nat} {sh : br_Sh} (h : br_shps[q]? = some sh) : (br_W cI cZ ad σ)[q]? = some (ad q, br_mkE cI cZ ad σ q sh) := by
  unfold br_W
  rw [br_mkW_get, h]
  simp
theorem br_mkF_put {ad : Nat → Nat} {σ : br_Wd} {q k : Nat} {v : Int32} {fs : List br_FK} (hk : fs[k]? = some none) : (br_mkF ad σ q 0 fs).set k (.int v) = br_mkF ad (br_up σ q k v) q 0 fs := by
  apply List.ext_getElem?
  intro j
  rw [List.getElem?_set, br_mkF_get, br_mkF_get]
  have hl : k < fs.length := (List.getElem?_eq_some_iff.mp hk).1
  have hl2 : k < (br_mkF ad σ q 0 fs).length := by
    have := br_mkF_get ad σ q fs 0 k
    rw [hk] at this
    exact (List.getElem?_eq_some_iff.mp this).1
  by_cases e : k = j
  · subst e
    rw [if_pos rfl, if_pos hl2, hk]
    simp [br_fv, br_up]
  · rw [if_neg e]
    have e' : ¬ j = k := fun h => e h.symm
    cases hj : fs[j]? with
    | none => simp
    | some f =>
      cases f with
      | none => simp [br_fv, br_up, e']
      | some f => cases f <;> simp [br_fv, br_up]
theorem br_mkE_up {cI cZ : ClassId} {ad : Nat → Nat} {σ : br_Wd} {q k j : Nat} {v : Int32} (sh : br_Sh) (h : ¬ j = q) : br_mkE cI cZ ad (br_up σ q k v) j sh = br_mkE cI cZ ad σ j sh := by
  have e1 : (br_up σ q k v).1 j = σ.1 j := by funext k'; simp [br_up, h]
  cases sh with
  | inl a => obtain ⟨z, n⟩ := a; simp [br_mkE, e1]
  | inr a =>
    obtain ⟨ci, fs⟩ := a
    simp only [br_mkE]
    congr 2
    apply List.ext_getElem?
    intro i
    rw [br_mkF_get, br_mkF_get]
    cases fs[i]? with
    | none => rfl
    | some f =>
      cases f with
      | none => simp [br_fv, e1]
      | some f => cases f <;> simp [br_fv, br_up]
theorem br_W_up {cI cZ : ClassId} {ad : Nat → Nat} {σ : br_Wd} {q k : Nat} {v : Int32} {sh : br_Sh} (h : br_shps[q]? = some sh) : (br_W cI cZ ad σ).set q (ad q, br_mkE cI cZ ad (br_up σ q k v) q sh) = br_W cI cZ ad (br_up σ q k v) := by
  apply List.ext_getElem?
  intro j
  have hl : q < (br_W cI cZ ad σ).length := (List.getElem?_eq_some_iff.mp (br_W_get h)).1
  rw [List.getElem?_set]
  by_cases e : q = j
  · subst e
    rw [if_pos rfl, if_pos hl, br_W_get h]
  · rw [if_neg e]
    unfold br_W
    rw [br_mkW_get, br_mkW_get]
    cases br_shps[j]? with
    | none => rfl
    | some s2 => simp only [Option.map_some]; rw [br_mkE_up s2 (by omega)]
theorem br_mkE_upl {cI cZ : ClassId} {ad : Nat → Nat} {σ : br_Wd} {j : Nat} {v : Int64} (sh : br_Sh) (h : ∀ ci fs, sh = .inr (ci, fs) → some none ∉ fs) : br_mkE cI cZ ad (br_upl σ v) j sh = br_mkE cI cZ ad σ j sh := by
  cases sh with
  | inl a => rfl
  | inr a =>
    obtain ⟨ci, fs⟩ := a
    have hn := h ci fs rfl
    simp only [br_mkE]
    congr 2
    apply List.ext_getElem?
    intro i
    rw [br_mkF_get, br_mkF_get]
    cases hf : fs[i]? with
    | none => rfl
    | some f =>
      cases f with
      | none => rfl
      | some f =>
        cases f with
        | none => exact absurd (List.mem_of_getElem? hf) hn
        | some r => rfl
theorem br_shps_long : ∀ j : Nat, j < 32 → j ≠ 23 → ∀ sh, br_shps[j]? = some sh → ∀ ci fs, sh = .inr (ci, fs) → some none ∉ fs := by
  intro j hj h23 sh hs ci fs e
  subst e
  have key : (br_shps.zipIdx.all fun q => q.2 == 23 || match q.1 with | .inl _ => true | .inr (_, fs) => !(fs.contains (some none))) = true := by decide +kernel
  have hm : ((Sum.inr (ci, fs) : br_Sh), j) ∈ br_shps.zipIdx := by
    rw [List.mem_zipIdx_iff_getElem?]
    exact hs
  have h1 := List.all_eq_true.mp key _ hm
  simp only [Bool.or_eq_true, beq_iff_eq, Bool.not_eq_true', List.contains_eq_mem, decide_eq_false_iff_not] at h1
  rcases h1 with h1 | h1
  · exact absurd h1 h23
  · exact h1
theorem br_W_upl {cI cZ : ClassId} {ad : Nat → Nat} {σ : br_Wd} {v : Int64} {sh : br_Sh} (h : br_shps[23]? = some sh) : (br_W cI cZ ad σ).set 23 (ad 23, br_mkE cI cZ ad (br_upl σ v) 23 sh) = br_W cI cZ ad (br_upl σ v) := by
  apply List.ext_getElem?
  intro j
  have hl : 23 < (br_W cI cZ ad σ).length := (List.getElem?_eq_some_iff.mp (br_W_get h)).1
  rw [List.getElem?_set]
  by_cases e : 23 = j
  · subst e
    rw [if_pos rfl, if_pos hl, br_W_get h]
  · rw [if_neg e]
    unfold br_W
    rw [br_mkW_get, br_mkW_get]
    cases hs : br_shps[j]? with
    | none => rfl
    | some s2 =>
      have hj : j < 32 := (List.getElem?_eq_some_iff.mp hs).1
      simp only [Option.map_some]
      rw [br_mkE_upl s2 (br_shps_long j hj (fun q => e q.symm) s2 hs)]
-- locals by their places
def br_asc (ad : Nat → Nat) : Nat → List (Option br_V) → List (Nat × Value)
  | _, [] => []
  | i, none :: t => br_asc ad (i + 1) t
  | i, some v :: t => (i, br_av ad v) :: br_asc ad (i + 1) t
theorem br_asc_mem {ad : Nat → Nat} : ∀ (L : List (Option br_V)) (k : Nat) (q : Nat × Value), q ∈ br_asc ad k L ↔ ∃ j v, L[j]? = some (some v) ∧ q = (k + j, br_av ad v) := by
  intro L
  induction L with
  | nil => intro k q; simp [br_asc]
  | cons a t ih =>
    intro k q
    cases a with
    | none =>
      simp only [br_asc]
      rw [ih]
      constructor
      · rintro ⟨j, v, h1, h2⟩
        exact ⟨j + 1, v, by simpa using h1, by rw [h2]; congr 1; omega⟩
      · rintro ⟨j, v, h1, h2⟩
        cases j with
        | zero => simp at h1
        | succ j => exact ⟨j, v, by simpa using h1, by rw [h2]; congr 1; omega⟩
    | some w =>
      simp only [br_asc, List.mem_cons]
      rw [ih]
      constructor
      · rintro (h | ⟨j, v, h1, h2⟩)
        · exact ⟨0, w, by simp, by simpa using h⟩
        · exact ⟨j + 1, v, by simpa using h1, by rw [h2]; congr 1; omega⟩
      · rintro ⟨j, v, h1, h2⟩
        cases j with
        | zero =>
          simp only [List.getElem?_cons_zero, Option.some.injEq] at h1
          subst h1
          exact Or.inl (by simpa using h2)
        | succ j => exact Or.inr ⟨j, v, by simpa using h1, by rw [h2]; congr 1; omega⟩
theorem br_loc {ad : Nat → Nat} {ls : Array Slot} {n : Nat} {L : List (Option br_V)} (h : lv_has ls n (br_asc ad 0 L)) {i : Nat} {v : br_V} (hl : L[i]? = some (some v)) : ls[i]? = some (.val (br_av ad v)) :=
  h.2.2 (i, br_av ad v) ((br_asc_mem L 0 _).mpr ⟨i, v, hl, by rw [Nat.zero_add]⟩)
/-- no long begins just ahead of place i -/
def br_okst (L : List (Option br_V)) : Nat → Bool
  | 0 => true
  | j + 1 => match L[j]? with
    | some (some v) => !(br_isl v)
    | _ => true
theorem br_cat (ad : Nat → Nat) (v : br_V) : (br_av ad v).category = 2 ↔ br_isl v = true := by
  match v with
  | .inl x => simp [br_av, br_isl, Value.category]
  | .inr (.inl x) => simp [br_av, br_isl, Value.category]
  | .inr (.inr q) => simp [br_av, br_isl, Value.category]
theorem br_keep1 {ad : Nat → Nat} {L : List (Option br_V)} {i : Nat} {q : Nat × Value} (ho : br_okst L i = true) (hq : q ∈ br_asc ad 0 L) (hne : ¬ q.1 = i) : (q.1 + 1 == i && q.2.category == 2) = false := by
  obtain ⟨j, v, h1, rfl⟩ := (br_asc_mem L 0 q).mp hq
  simp only [Nat.zero_add]
  by_cases e : j + 1 = i
  · subst e
    simp only [br_okst, h1, Bool.not_eq_true'] at ho
    have : ¬ (br_av ad v).category = 2 := fun h => by rw [(br_cat ad v).mp h] at ho; cases ho
    simp [this]
  · simp [e]
theorem br_set1 {ad : Nat → Nat} {ls : Array Slot} {n : Nat} {L : List (Option br_V)} {i : Nat} {v : br_V} (ho : br_okst L i = true)
    (h : lv_has ls n ((i, br_av ad v) :: (br_asc ad 0 L).filter (fun q => !(q.1 == i) && !(q.1 + 1 == i && q.2.category == 2)))) : lv_has ls n (br_asc ad 0 (L.set i (some v))) := by
  refine ⟨h.1, h.2.1, fun q hq => h.2.2 q ?_⟩
  obtain ⟨j, w, h1, rfl⟩ := (br_asc_mem _ 0 q).mp hq
  rw [List.getElem?_set] at h1
  by_cases e : i = j
  · subst e
    rw [if_pos rfl] at h1
    split at h1
    · cases h1
      simp
    · cases h1
  · rw [if_neg e] at h1
    refine List.mem_cons_of_mem _ (List.mem_filter.mpr ⟨(br_asc_mem L 0 _).mpr ⟨j, w, h1, rfl⟩, ?_⟩)
    have hne : ¬ ((0 + j, br_av ad w) : Nat × Value).1 = i := by simp; omega
    rw [br_keep1 ho ((br_asc_mem L 0 _).mpr ⟨j, w, h1, rfl⟩) hne]
    simpa using hne
theorem br_set2 {ad : Nat → Nat} {ls : Array Slot} {n : Nat} {L : List (Option br_V)} {i : Nat} {v : br_V} (ho : br_okst L i = true)
    (h : lv_has ls n ((i, br_av ad v) :: (br_asc ad 0 L).filter (fun q => !(q.1 == i) && (!(q.1 == i + 1) && !(q.1 + 1 == i && q.2.category == 2))))) : lv_has ls n (br_asc ad 0 ((L.set i (some v)).set (i + 1) none)) := by
  refine ⟨h.1, h.2.1, fun q hq => h.2.2 q ?_⟩
  obtain ⟨j, w, h1, rfl⟩ := (br_asc_mem _ 0 q).mp hq
  rw [List.getElem?_set] at h1
  by_cases e1 : i + 1 = j
  · rw [if_pos e1] at h1
    split at h1 <;> cases h1
  · rw [if_neg e1, List.getElem?_set] at h1
    by_cases e : i = j
    · subst e
      rw [if_pos rfl] at h1
      split at h1
      · cases h1
        simp
      · cases h1
    · rw [if_neg e] at h1
      refine List.mem_cons_of_mem _ (List.mem_filter.mpr ⟨(br_asc_mem L 0 _).mpr ⟨j, w, h1, rfl⟩, ?_⟩)
      have hne : ¬ ((0 + j, br_av ad w) : Nat × Value).1 = i := by simp; omega
      rw [br_keep1 ho ((br_asc_mem L 0 _).mpr ⟨j, w, h1, rfl⟩) hne]
      have hne2 : ¬ ((0 + j, br_av ad w) : Nat × Value).1 = i + 1 := by simp; omega
      simp only [Bool.not_false, Bool.and_true, Bool.and_eq_true, Bool.not_eq_true', beq_eq_false_iff_ne, ne_eq]
      exact ⟨hne, hne2⟩
-- fewer known locals
def br_sub (L' L : List (Option br_V)) : Prop := ∀ (j : Nat) (v : br_V), L'[j]? = some (some v) → L[j]? = some (some v)
theorem br_sub.has {ad : Nat → Nat} {ls : Array Slot} {n : Nat} {L L' : List (Option br_V)} (hs : br_sub L' L) (h : lv_has ls n (br_asc ad 0 L)) : lv_has ls n (br_asc ad 0 L') := by
  refine ⟨h.1, h.2.1, fun q hq => ?_⟩
  obtain ⟨j, w, h1, rfl⟩ := (br_asc_mem _ 0 q).mp hq
  exact h.2.2 _ ((br_asc_mem L 0 _).mpr ⟨j, w, hs j w h1, rfl⟩)
theorem br_sub.nil {L : List (Option br_V)} : br_sub [] L := fun j v h => by simp at h
theorem br_sub.same {L L' : List (Option br_V)} {a : Option br_V} (h : br_sub L' L) : br_sub (a :: L') (a :: L) := fun j v hj => by
  cases j with
  | zero => simpa using hj
  | succ j => simpa using h j v (by simpa using hj)
theorem br_sub.drop {L L' : List (Option br_V)} {a : Option br_V} (h : br_sub L' L) : br_sub (none :: L') (a :: L) := fun j v hj => by
  cases j with
  | zero => simp at hj
  | succ j => simpa using h j v (by simpa using hj)
theorem br_sub.rfl {L : List (Option br_V)} : br_sub L L := fun _ _ h => h
end
section
-- a method: its name, bytes, locals, return type
abbrev br_Y : Type := MethodName × ByteArray × Nat × Option FieldType
def br_ws (Y : br_Y) : List Cond := .code Y.1 Y.2.1 Y.2.2.1 Y.2.2.2 :: br_W0
def br_room (d : Nat) : Room := { frames := d, cells := 0, slots := 0, locals := 29 * d }
abbrev br_post : Type := Option br_V → br_Wd → Prop
abbrev br_tys (cI cZ : ClassId) : List (ClassId × FieldType) := [(cI, .int), (cZ, .boolean)]
def br_Q (D : va_G) (cI cZ : ClassId) (ad : Nat → Nat) (A : Nat → Prop) (P : br_post) : Array Value → State → Outcome → State → Prop := fun _ st oc t =>
  (∃ v τ, oc = .returned (v.map (br_av ad)) ∧ P v τ ∧ va_P D vwCl (br_W cI cZ ad τ) t.heap) ∧ va_F A st t
/-- a method's contract: from the world σ with these arguments it returns, with a value and a world of which P holds -/
def br_Met (d : Nat) (Y : br_Y) (args : List br_V) (σ : br_Wd) (P : br_post) : Prop :=
  ∀ (l : Launch) (D : va_G) (cI cZ : ClassId) (ad : Nat → Nat) (sz : Nat), Met l Y.1 (br_ws Y) (br_room d)
    (va_Pc (args.map (br_av ad)) (fun U => U.heap.size = sz ∧ va_P D vwCl (br_W cI cZ ad σ) U.heap ∧ va_K D vwCl (br_tys cI cZ) U ∧ va_D (fun _ => True) (br_W cI cZ ad σ) ∧ br_N U))
    (br_Q D cI cZ ad (va_A (br_W cI cZ ad σ) sz) P) 0 0 (va_A (br_W cI cZ ad σ) sz)
/-- at this instruction the method returns v -/
def br_isret (Y : br_Y) (pc : Nat) : Option br_V → Prop
  | none => Y.2.2.2 = none ∧ decode Y.2.1 pc = .ok (.return_, 1)
  | some (.inl x) => (∃ ty, Y.2.2.2 = some ty ∧ narrow ty (.int x) = .int x) ∧ decode Y.2.1 pc = .ok (.ireturn, 1)
  | some (.inr (.inl _)) => Y.2.2.2 = some .long ∧ decode Y.2.1 pc = .ok (.lreturn, 1)
  | some (.inr (.inr _)) => False
abbrev br_Jg : Type := Nat → List (Option br_V) → List br_V → br_Wd → Prop
/-- G is the walk of the body of Y, with room for calls of depth below d, to an end where P holds -/
def br_Ok (Y : br_Y) (d : Nat) (P : br_post) (G : br_Jg) : Prop :=
  ∃ (p : Program) (l : Launch) (e : Env) (R : Room) (s : State) (m : MethodId) (args : Array Value) (below : List Frame) (meth : Method) (c : Code) (cells slots : Nat) (Q : State → Prop) (D : va_G) (cI cZ : ClassId) (ad : Nat → Nat) (A : Nat → Prop) (H0 : Heap),
    (p.tables.exec = Jvm.exec ∧ c.code = Y.2.1 ∧ c.maxLocals = Y.2.2.1 ∧ s.vm.findClass Y.1.cls = some m.cls ∧ (∀ w ∈ br_W0, w.before args s = true)) ∧
    (va_K D vwCl (br_tys cI cZ) s ∧ (∀ σ, va_D A (br_W cI cZ ad σ)) ∧ (∀ q, H0.size ≤ q → A q) ∧ br_N s) ∧ (d ≤ R.frames ∧ 29 * d ≤ R.locals ∧ cells ≤ R.cells ∧ slots ≤ R.slots) ∧
    (∀ (v : Option br_V) (τ : br_Wd) (H : Heap) (locs : List Loc) (pc : Nat) (ls : Array Slot), P v τ → va_P D vwCl (br_W cI cZ ad τ) H → va_S A H0 H locs → br_isret Y pc v → W p l e R s m args below meth c H locs cells slots Q (F0 m pc ls (v.map (br_av ad)).toList)) ∧
    ∀ pc L st σ, G pc L st σ ↔ ∀ (H : Heap) (locs : List Loc) (ls : Array Slot), va_P D vwCl (br_W cI cZ ad σ) H → va_S A H0 H locs → lv_has ls Y.2.2.1 (br_asc ad 0 L) → W p l e R s m args below meth c H locs cells slots Q (F0 m pc ls (st.map (br_av ad)))
-- the locals of the entry
def br_ent : List br_V → List (Option br_V)
  | [] => []
  | .inr (.inl x) :: t => some (br_l x) :: none :: br_ent t
  | a :: t => some a :: br_ent t
theorem br_asc_rep (ad : Nat → Nat) : ∀ (n i : Nat), br_asc ad i (List.replicate n none) = [] := by
  intro n
  induction n with
  | zero => intro i; rfl
  | succ n ih => intro i; show br_asc ad (i + 1) (List.replicate n none) = []; exact ih (i + 1)
theorem br_asc_ent (ad : Nat → Nat) (n : Nat) : ∀ (args : List br_V) (i : Nat), br_asc ad i (br_ent args ++ List.replicate n none) = lv_args i (args.map (br_av ad)) := by
  intro args
  induction args with
  | nil => intro i; exact br_asc_rep ad n i
  | cons a t ih =>
    intro i
    match a with
    | .inl x =>
      show (i, Value.int x) :: br_asc ad (i + 1) (br_ent t ++ List.replicate n none) = _
      rw [ih (i + 1)]
      simp [lv_args, br_av, Value.category]
    | .inr (.inl x) =>
      show (i, Value.long x) :: br_asc ad (i + 1 + 1) (br_ent t ++ List.replicate n none) = _
      rw [ih (i + 1 + 1)]
      simp [lv_args, br_av, Value.category]
    | .inr (.inr x) =>
      show (i, Value.ref (ad x)) :: br_asc ad (i + 1) (br_ent t ++ List.replicate n none) = _
      rw [ih (i + 1)]
      simp [lv_args, br_av, Value.category]
theorem br_ent_len (ad : Nat → Nat) : ∀ (args : List br_V), (lg_sl (args.map (br_av ad))).length = (br_ent args).length := by
  intro args
  induction args with
  | nil => rfl
  | cons a t ih =>
    match a with
    | .inl x => simpa [lg_sl, br_ent, br_av, Value.category] using ih
    | .inr (.inl x) => simpa [lg_sl, br_ent, br_av, Value.category] using ih
    | .inr (.inr x) => simpa [lg_sl, br_ent, br_av, Value.category] using ih
theorem br_W_addr {cI cZ : ClassId} {ad : Nat → Nat} (σ τ : br_Wd) (k : Nat) (q : Nat × va_E) (h : (br_W cI cZ ad σ)[k]? = some q) : ∃ q', (br_W cI cZ ad τ)[k]? = some q' ∧ q'.1 = q.1 := by
  unfold br_W at h ⊢
  rw [br_mkW_get] at h ⊢
  cases hs : br_shps[k]? with
  | none => rw [hs] at h; cases h
  | some sh => rw [hs] at h; cases h; exact ⟨_, rfl, rfl⟩
theorem br_D_all {cI cZ : ClassId} {ad : Nat → Nat} {A : Nat → Prop} {σ : br_Wd} (h : va_D A (br_W cI cZ ad σ)) (τ : br_Wd) : va_D A (br_W cI cZ ad τ) := by
  refine ⟨fun i j p q hp hq e => ?_, fun k q hq => ?_⟩
  · obtain ⟨p', hp', e1⟩ := br_W_addr τ σ i p hp
    obtain ⟨q', hq', e2⟩ := br_W_addr τ σ j q hq
    exact h.1 i j p' q' hp' hq' (by rw [e1, e2]; exact e)
  · obtain ⟨q', hq', e⟩ := br_W_addr τ σ k q hq
    rw [← e]
    exact h.2 k q' hq'
theorem br_ofW {Y : br_Y} {d : Nat} {args : List br_V} {σ : br_Wd} {P : br_post} (hy : plainName Y.1.cls = true) (n : Nat) (hn : (br_ent args).length + n = Y.2.2.1)
    (h : ∀ G, br_Ok Y d P G → G 0 (br_ent args ++ List.replicate n none) [] σ) : br_Met d Y args σ P := by
  intro l D cI cZ ad sz
  refine Met.ofW (cc := Y.2.1) (maxL := Y.2.2.1) (ret := Y.2.2.2) hy rfl ?_
  intro p e s m args' below meth c s₁ B hml hv
  obtain ⟨rfl, hsz, hP, hK, hD0, hN⟩ := hv
  subst hsz
  have hx := B.exec
  have hb := B.bytes
  have hr := B.returns
  have hts := atoms_spec (ws := br_ws Y) B.pre
  have hown : s.vm.findClass Y.1.cls = some m.cls := findClass_of_methodNamed B.named
  have hlocks := B.notSynchronized
  have hD := hD0.self (sz := s.heap.size)
  rw [lg_entry_eq]
  have hl := lv_entry (args.map (br_av ad)) (n := Y.2.2.1) (by rw [br_ent_len]; omega)
  rw [← br_asc_ent ad n] at hl
  refine ((?_ : (fun pc L st τ => ∀ (H : Heap) (locs : List Loc) (ls : Array Slot), va_P D vwCl (br_W cI cZ ad τ) H → va_S (va_A (br_W cI cZ ad σ) s.heap.size) s.heap H locs → lv_has ls Y.2.2.1 (br_asc ad 0 L) → W p l e (headSpec (br_ws Y) (br_room d)).room s m (args.map (br_av ad)).toArray below meth c H locs 0 0 (MQ below (br_Q D cI cZ ad (va_A (br_W cI cZ ad σ) s.heap.size) P) (args.map (br_av ad)).toArray s 0 0 (va_A (br_W cI cZ ad σ) s.heap.size)) (F0 m pc ls (st.map (br_av ad)))) 0 (br_ent args ++ List.replicate n none) [] σ)) s.heap [] _ hP va_S.rf hl
  refine h _ ⟨p, l, e, _, s, m, _, below, meth, c, 0, 0, _, D, cI, cZ, ad, _, s.heap, ⟨hx, hb, hml, hown, fun w hw => hts w (List.mem_cons_of_mem _ hw)⟩, ⟨hK, fun τ => br_D_all hD τ, fun q hq => Or.inr hq, hN⟩, ⟨Nat.le_refl _, Nat.le_refl _, Nat.zero_le _, Nat.zero_le _⟩, ?_, fun pc L st τ => Iff.rfl⟩
  intro v τ H locs pc ls hp hPH hS hret
  have hq : ∀ t : State, t.heap = H → s.WarmedH t.vm → br_Q D cI cZ ad (va_A (br_W cI cZ ad σ) s.heap.size) P (args.map (br_av ad)).toArray s (.returned (v.map (br_av ad))) t := fun t ht hW => ⟨⟨v, τ, rfl, hp, by rw [ht]; exact hPH⟩, hS.F ht⟩
  match v, hret, hq with
  | none, hret, hq => exact W.vret hx hb (hr.trans hret.1) hq hS.2.2 hret.2
  | some (.inl x), hret, hq =>
    obtain ⟨⟨ty, h1, h2⟩, h3⟩ := hret
    exact W.zret (v := x) (ty := ty) hx hb (hr.trans h1) h2 hq hS.2.2 h3
  | some (.inr (.inl x)), hret, hq => exact W.lret (v := x) hx hb (hr.trans hret.1) hq hS.2.2 hret.2
  | some (.inr (.inr q)), hret, hq => exact hret.elim
end
section
theorem br_iload_n {Y : br_Y} {d : Nat} {P : br_post} {G : br_Jg} (C : br_Ok Y d P G) {k : Fin 4} {i : Nat} {x : Int32} {pc : Nat} {L : List (Option br_V)} {st : List br_V} {σ : br_Wd} (hd : decode Y.2.1 pc = .ok (.iload_n k, 1)) (hi : (k : Nat) = i) (hl : L[i]? = some (some (br_i x))) (kk : G (pc + 1) L (br_i x :: st) σ) : G pc L st σ := by
  obtain ⟨p, l, e, R, s, m, args, below, meth, c, cells, slots, Q, D, cI, cZ, ad, A, H0, ⟨hx, hb, hml, hown, hts⟩, ⟨hK, hD, hA, hN⟩, hR, hfin, hG⟩ := C
  rw [hG] at kk ⊢
  intro H locs ls hP hS hl'
  exact lv_iload_n hx hb hd hi (br_loc hl' hl) (kk H locs ls hP hS hl')
theorem br_iload {Y : br_Y} {d : Nat} {P : br_post} {G : br_Jg} (C : br_Ok Y d P G) {i : Nat} {x : Int32} {pc : Nat} {L : List (Option br_V)} {st : List br_V} {σ : br_Wd} (hd : decode Y.2.1 pc = .ok (.iload i, 2)) (hl : L[i]? = some (some (br_i x))) (kk : G (pc + 2) L (br_i x :: st) σ) : G pc L st σ := by
  obtain ⟨p, l, e, R, s, m, args, below, meth, c, cells, slots, Q, D, cI, cZ, ad, A, H0, ⟨hx, hb, hml, hown, hts⟩, ⟨hK, hD, hA, hN⟩, hR, hfin, hG⟩ := C
  rw [hG] at kk ⊢
  intro H locs ls hP hS hl'
  exact lv_iload hx hb hd (br_loc hl' hl) (kk H locs ls hP hS hl')
theorem br_lload_n {Y : br_Y} {d : Nat} {P : br_post} {G : br_Jg} (C : br_Ok Y d P G) {k : Fin 4} {i : Nat} {x : Int64} {pc : Nat} {L : List (Option br_V)} {st : List br_V} {σ : br_Wd} (hd : decode Y.2.1 pc = .ok (.lload_n k, 1)) (hi : (k : Nat) = i) (hl : L[i]? = some (some (br_l x))) (kk : G (pc + 1) L (br_l x :: st) σ) : G pc L st σ := by
  obtain ⟨p, l, e, R, s, m, args, below, meth, c, cells, slots, Q, D, cI, cZ, ad, A, H0, ⟨hx, hb, hml, hown, hts⟩, ⟨hK, hD, hA, hN⟩, hR, hfin, hG⟩ := C
  rw [hG] at kk ⊢
  intro H locs ls hP hS hl'
  exact lv_lload_n hx hb hd hi (br_loc hl' hl) (kk H locs ls hP hS hl')
theorem br_lload {Y : br_Y} {d : Nat} {P : br_post} {G : br_Jg} (C : br_Ok Y d P G) {i : Nat} {x : Int64} {pc : Nat} {L : List (Option br_V)} {st : List br_V} {σ : br_Wd} (hd : decode Y.2.1 pc = .ok (.lload i, 2)) (hl : L[i]? = some (some (br_l x))) (kk : G (pc + 2) L (br_l x :: st) σ) : G pc L st σ := by
  obtain ⟨p, l, e, R, s, m, args, below, meth, c, cells, slots, Q, D, cI, cZ, ad, A, H0, ⟨hx, hb, hml, hown, hts⟩, ⟨hK, hD, hA, hN⟩, hR, hfin, hG⟩ := C
  rw [hG] at kk ⊢
  intro H locs ls hP hS hl'
  exact lv_lload hx hb hd (br_loc hl' hl) (kk H locs ls hP hS hl')
theorem br_aload_n {Y : br_Y} {d : Nat} {P : br_post} {G : br_Jg} (C : br_Ok Y d P G) {k : Fin 4} {i : Nat} {x : Nat} {pc : Nat} {L : List (Option br_V)} {st : List br_V} {σ : br_Wd} (hd : decode Y.2.1 pc = .ok (.aload_n k, 1)) (hi : (k : Nat) = i) (hl : L[i]? = some (some (br_r x))) (kk : G (pc + 1) L (br_r x :: st) σ) : G pc L st σ := by
  obtain ⟨p, l, e, R, s, m, args, below, meth, c, cells, slots, Q, D, cI, cZ, ad, A, H0, ⟨hx, hb, hml, hown, hts⟩, ⟨hK, hD, hA, hN⟩, hR, hfin, hG⟩ := C
  rw [hG] at kk ⊢
  intro H locs ls hP hS hl'
  exact lv_aload_n hx hb hd hi (br_loc hl' hl) (kk H locs ls hP hS hl')
theorem br_aload {Y : br_Y} {d : Nat} {P : br_post} {G : br_Jg} (C : br_Ok Y d P G) {i : Nat} {x : Nat} {pc : Nat} {L : List (Option br_V)} {st : List br_V} {σ : br_Wd} (hd : decode Y.2.1 pc = .ok (.aload i, 2)) (hl : L[i]? = some (some (br_r x))) (kk : G (pc + 2) L (br_r x :: st) σ) : G pc L st σ := by
  obtain ⟨p, l, e, R, s, m, args, below, meth, c, cells, slots, Q, D, cI, cZ, ad, A, H0, ⟨hx, hb, hml, hown, hts⟩, ⟨hK, hD, hA, hN⟩, hR, hfin, hG⟩ := C
  rw [hG] at kk ⊢
  intro H locs ls hP hS hl'
  exact lv_aload hx hb hd (br_loc hl' hl) (kk H locs ls hP hS hl')
theorem br_iconst {Y : br_Y} {d : Nat} {P : br_post} {G : br_Jg} (C : br_Ok Y d P G) {n : Int} {v : Int32} {pc : Nat} {L : List (Option br_V)} {st : List br_V} {σ : br_Wd} (hd : decode Y.2.1 pc = .ok (.iconst n, 1)) (hv : Int32.ofInt n = v) (kk : G (pc + 1) L (br_i v :: st) σ) : G pc L st σ := by
  obtain ⟨p, l, e, R, s, m, args, below, meth, c, cells, slots, Q, D, cI, cZ, ad, A, H0, ⟨hx, hb, hml, hown, hts⟩, ⟨hK, hD, hA, hN⟩, hR, hfin, hG⟩ := C
  rw [hG] at kk ⊢
  intro H locs ls hP hS hl'
  exact lv_iconst hx hb hd hv (kk H locs ls hP hS hl')
theorem br_bipush {Y : br_Y} {d : Nat} {P : br_post} {G : br_Jg} (C : br_Ok Y d P G) {n : Int} {v : Int32} {pc : Nat} {L : List (Option br_V)} {st : List br_V} {σ : br_Wd} (hd : decode Y.2.1 pc = .ok (.bipush n, 2)) (hv : (Int8.ofInt n).toInt32 = v) (kk : G (pc + 2) L (br_i v :: st) σ) : G pc L st σ := by
  obtain ⟨p, l, e, R, s, m, args, below, meth, c, cells, slots, Q, D, cI, cZ, ad, A, H0, ⟨hx, hb, hml, hown, hts⟩, ⟨hK, hD, hA, hN⟩, hR, hfin, hG⟩ := C
  rw [hG] at kk ⊢
  intro H locs ls hP hS hl'
  exact lv_bipush hx hb hd hv (kk H locs ls hP hS hl')
theorem br_sipush {Y : br_Y} {d : Nat} {P : br_post} {G : br_Jg} (C : br_Ok Y d P G) {n : Int} {v : Int32} {pc : Nat} {L : List (Option br_V)} {st : List br_V} {σ : br_Wd} (hd : decode Y.2.1 pc = .ok (.sipush n, 3)) (hv : (Int16.ofInt n).toInt32 = v) (kk : G (pc + 3) L (br_i v :: st) σ) : G pc L st σ := by
  obtain ⟨p, l, e, R, s, m, args, below, meth, c, cells, slots, Q, D, cI, cZ, ad, A, H0, ⟨hx, hb, hml, hown, hts⟩, ⟨hK, hD, hA, hN⟩, hR, hfin, hG⟩ := C
  rw [hG] at kk ⊢
  intro H locs ls hP hS hl'
  exact lv_sipush hx hb hd hv (kk H locs ls hP hS hl')
theorem br_lconst {Y : br_Y} {d : Nat} {P : br_post} {G : br_Jg} (C : br_Ok Y d P G) {n : Fin 2} {v : Int64} {pc : Nat} {L : List (Option br_V)} {st : List br_V} {σ : br_Wd} (hd : decode Y.2.1 pc = .ok (.lconst n, 1)) (hv : Int64.ofNat (n : Nat) = v) (kk : G (pc + 1) L (br_l v :: st) σ) : G pc L st σ := by
  obtain ⟨p, l, e, R, s, m, args, below, meth, c, cells, slots, Q, D, cI, cZ, ad, A, H0, ⟨hx, hb, hml, hown, hts⟩, ⟨hK, hD, hA, hN⟩, hR, hfin, hG⟩ := C
  rw [hG] at kk ⊢
  intro H locs ls hP hS hl'
  exact lv_lconst hx hb hd hv (kk H locs ls hP hS hl')
theorem br_ldc {Y : br_Y} {d : Nat} {P : br_post} {G : br_Jg} (C : br_Ok Y d P G) {index : Nat} {v : Int32} {pc : Nat} {L : List (Option br_V)} {st : List br_V} {σ : br_Wd} (hd : decode Y.2.1 pc = .ok (.ldc index, 2)) (hw : Cond.constant Y.1.cls index v ∈ br_W0) (kk : G (pc + 2) L (br_i v :: st) σ) : G pc L st σ := by
  obtain ⟨p, l, e, R, s, m, args, below, meth, c, cells, slots, Q, D, cI, cZ, ad, A, H0, ⟨hx, hb, hml, hown, hts⟩, ⟨hK, hD, hA, hN⟩, hR, hfin, hG⟩ := C
  rw [hG] at kk ⊢
  intro H locs ls hP hS hl'
  exact lv_ldc hx hb hown (hts _ hw) hd (kk H locs ls hP hS hl')
theorem br_ldc2 {Y : br_Y} {d : Nat} {P : br_post} {G : br_Jg} (C : br_Ok Y d P G) {index : Nat} {v : Int64} {pc : Nat} {L : List (Option br_V)} {st : List br_V} {σ : br_Wd} (hd : decode Y.2.1 pc = .ok (.ldc2_w index, 3)) (hw : Cond.constantLong Y.1.cls index v ∈ br_W0) (kk : G (pc + 3) L (br_l v :: st) σ) : G pc L st σ := by
  obtain ⟨p, l, e, R, s, m, args, below, meth, c, cells, slots, Q, D, cI, cZ, ad, A, H0, ⟨hx, hb, hml, hown, hts⟩, ⟨hK, hD, hA, hN⟩, hR, hfin, hG⟩ := C
  rw [hG] at kk ⊢
  intro H locs ls hP hS hl'
  exact lv_ldc2 hx hb hown (hts _ hw) hd (kk H locs ls hP hS hl')
theorem br_istore_n {Y : br_Y} {d : Nat} {P : br_post} {G : br_Jg} (C : br_Ok Y d P G) {k : Fin 4} {i : Nat} {x : Int32} {L' : List (Option br_V)} {pc : Nat} {L : List (Option br_V)} {st : List br_V} {σ : br_Wd} (hd : decode Y.2.1 pc = .ok (.istore_n k, 1)) (hi : (k : Nat) = i) (hn : i < Y.2.2.1) (ho : br_okst L i = true) (hL : L.set i (some (br_i x)) = L') (kk : G (pc + 1) L' st σ) : G pc L (br_i x :: st) σ := by
  obtain ⟨p, l, e, R, s, m, args, below, meth, c, cells, slots, Q, D, cI, cZ, ad, A, H0, ⟨hx, hb, hml, hown, hts⟩, ⟨hK, hD, hA, hN⟩, hR, hfin, hG⟩ := C
  rw [hG] at kk ⊢
  intro H locs ls hP hS hl'
  exact lv_istore_n hx hb hd hi hl' hn rfl (fun ls h => kk H locs ls hP hS (by rw [← hL]; exact br_set1 (v := br_i x) ho h))
theorem br_istore {Y : br_Y} {d : Nat} {P : br_post} {G : br_Jg} (C : br_Ok Y d P G) {i : Nat} {x : Int32} {L' : List (Option br_V)} {pc : Nat} {L : List (Option br_V)} {st : List br_V} {σ : br_Wd} (hd : decode Y.2.1 pc = .ok (.istore i, 2)) (hn : i < Y.2.2.1) (ho : br_okst L i = true) (hL : L.set i (some (br_i x)) = L') (kk : G (pc + 2) L' st σ) : G pc L (br_i x :: st) σ := by
  obtain ⟨p, l, e, R, s, m, args, below, meth, c, cells, slots, Q, D, cI, cZ, ad, A, H0, ⟨hx, hb, hml, hown, hts⟩, ⟨hK, hD, hA, hN⟩, hR, hfin, hG⟩ := C
  rw [hG] at kk ⊢
  intro H locs ls hP hS hl'
  exact lv_istore hx hb hd hl' hn rfl (fun ls h => kk H locs ls hP hS (by rw [← hL]; exact br_set1 (v := br_i x) ho h))
theorem br_lstore_n {Y : br_Y} {d : Nat} {P : br_post} {G : br_Jg} (C : br_Ok Y d P G) {k : Fin 4} {i : Nat} {x : Int64} {L' : List (Option br_V)} {pc : Nat} {L : List (Option br_V)} {st : List br_V} {σ : br_Wd} (hd : decode Y.2.1 pc = .ok (.lstore_n k, 1)) (hi : (k : Nat) = i) (hn : i + 1 < Y.2.2.1) (ho : br_okst L i = true) (hL : (L.set i (some (br_l x))).set (i + 1) none = L') (kk : G (pc + 1) L' st σ) : G pc L (br_l x :: st) σ := by
  obtain ⟨p, l, e, R, s, m, args, below, meth, c, cells, slots, Q, D, cI, cZ, ad, A, H0, ⟨hx, hb, hml, hown, hts⟩, ⟨hK, hD, hA, hN⟩, hR, hfin, hG⟩ := C
  rw [hG] at kk ⊢
  intro H locs ls hP hS hl'
  exact lv_lstore_n hx hb hd hi hl' hn rfl (fun ls h => kk H locs ls hP hS (by rw [← hL]; exact br_set2 (v := br_l x) ho h))
theorem br_lstore {Y : br_Y} {d : Nat} {P : br_post} {G : br_Jg} (C : br_Ok Y d P G) {i : Nat} {x : Int64} {L' : List (Option br_V)} {pc : Nat} {L : List (Option br_V)} {st : List br_V} {σ : br_Wd} (hd : decode Y.2.1 pc = .ok (.lstore i, 2)) (hn : i + 1 < Y.2.2.1) (ho : br_okst L i = true) (hL : (L.set i (some (br_l x))).set (i + 1) none = L') (kk : G (pc + 2) L' st σ) : G pc L (br_l x :: st) σ := by
  obtain ⟨p, l, e, R, s, m, args, below, meth, c, cells, slots, Q, D, cI, cZ, ad, A, H0, ⟨hx, hb, hml, hown, hts⟩, ⟨hK, hD, hA, hN⟩, hR, hfin, hG⟩ := C
  rw [hG] at kk ⊢
  intro H locs ls hP hS hl'
  exact lv_lstore hx hb hd hl' hn rfl (fun ls h => kk H locs ls hP hS (by rw [← hL]; exact br_set2 (v := br_l x) ho h))
theorem br_iinc {Y : br_Y} {d : Nat} {P : br_post} {G : br_Jg} (C : br_Ok Y d P G) {i : Nat} {n : Int} {x v : Int32} {L' : List (Option br_V)} {pc : Nat} {L : List (Option br_V)} {st : List br_V} {σ : br_Wd} (hd : decode Y.2.1 pc = .ok (.iinc i n, 3)) (hl : L[i]? = some (some (br_i x))) (hv : x + Int32.ofInt n = v) (hn : i < Y.2.2.1) (ho : br_okst L i = true) (hL : L.set i (some (br_i v)) = L') (kk : G (pc + 3) L' st σ) : G pc L st σ := by
  obtain ⟨p, l, e, R, s, m, args, below, meth, c, cells, slots, Q, D, cI, cZ, ad, A, H0, ⟨hx, hb, hml, hown, hts⟩, ⟨hK, hD, hA, hN⟩, hR, hfin, hG⟩ := C
  rw [hG] at kk ⊢
  intro H locs ls hP hS hl'
  obtain ⟨k, hk⟩ := List.getElem?_of_mem ((br_asc_mem (ad := ad) L 0 (i, .int x)).mpr ⟨i, br_i x, hl, by rw [Nat.zero_add]; rfl⟩)
  exact lv_iinc hx hb hd hl' hk hv hn rfl (fun ls h => kk H locs ls hP hS (by rw [← hL]; exact br_set1 (v := br_i v) ho h))
theorem br_iadd {Y : br_Y} {d : Nat} {P : br_post} {G : br_Jg} (C : br_Ok Y d P G) {x y : Int32} {pc : Nat} {L : List (Option br_V)} {st : List br_V} {σ : br_Wd} (hd : decode Y.2.1 pc = .ok (.iadd, 1)) (kk : G (pc + 1) L (br_i (x + y) :: st) σ) : G pc L (br_i y :: br_i x :: st) σ := by
  obtain ⟨p, l, e, R, s, m, args, below, meth, c, cells, slots, Q, D, cI, cZ, ad, A, H0, ⟨hx, hb, hml, hown, hts⟩, ⟨hK, hD, hA, hN⟩, hR, hfin, hG⟩ := C
  rw [hG] at kk ⊢
  intro H locs ls hP hS hl'
  exact lv_iadd hx hb hd (kk H locs ls hP hS hl')
theorem br_isub {Y : br_Y} {d : Nat} {P : br_post} {G : br_Jg} (C : br_Ok Y d P G) {x y : Int32} {pc : Nat} {L : List (Option br_V)} {st : List br_V} {σ : br_Wd} (hd : decode Y.2.1 pc = .ok (.isub, 1)) (kk : G (pc + 1) L (br_i (x - y) :: st) σ) : G pc L (br_i y :: br_i x :: st) σ := by
  obtain ⟨p, l, e, R, s, m, args, below, meth, c, cells, slots, Q, D, cI, cZ, ad, A, H0, ⟨hx, hb, hml, hown, hts⟩, ⟨hK, hD, hA, hN⟩, hR, hfin, hG⟩ := C
  rw [hG] at kk ⊢
  intro H locs ls hP hS hl'
  exact lv_isub hx hb hd (kk H locs ls hP hS hl')
theorem br_imul {Y : br_Y} {d : Nat} {P : br_post} {G : br_Jg} (C : br_Ok Y d P G) {x y : Int32} {pc : Nat} {L : List (Option br_V)} {st : List br_V} {σ : br_Wd} (hd : decode Y.2.1 pc = .ok (.imul, 1)) (kk : G (pc + 1) L (br_i (x * y) :: st) σ) : G pc L (br_i y :: br_i x :: st) σ := by
  obtain ⟨p, l, e, R, s, m, args, below, meth, c, cells, slots, Q, D, cI, cZ, ad, A, H0, ⟨hx, hb, hml, hown, hts⟩, ⟨hK, hD, hA, hN⟩, hR, hfin, hG⟩ := C
  rw [hG] at kk ⊢
  intro H locs ls hP hS hl'
  exact lv_imul hx hb hd (kk H locs ls hP hS hl')
theorem br_iand {Y : br_Y} {d : Nat} {P : br_post} {G : br_Jg} (C : br_Ok Y d P G) {x y : Int32} {pc : Nat} {L : List (Option br_V)} {st : List br_V} {σ : br_Wd} (hd : decode Y.2.1 pc = .ok (.iand, 1)) (kk : G (pc + 1) L (br_i (x &&& y) :: st) σ) : G pc L (br_i y :: br_i x :: st) σ := by
  obtain ⟨p, l, e, R, s, m, args, below, meth, c, cells, slots, Q, D, cI, cZ, ad, A, H0, ⟨hx, hb, hml, hown, hts⟩, ⟨hK, hD, hA, hN⟩, hR, hfin, hG⟩ := C
  rw [hG] at kk ⊢
  intro H locs ls hP hS hl'
  exact lv_iand hx hb hd (kk H locs ls hP hS hl')
theorem br_ior {Y : br_Y} {d : Nat} {P : br_post} {G : br_Jg} (C : br_Ok Y d P G) {x y : Int32} {pc : Nat} {L : List (Option br_V)} {st : List br_V} {σ : br_Wd} (hd : decode Y.2.1 pc = .ok (.ior, 1)) (kk : G (pc + 1) L (br_i (x ||| y) :: st) σ) : G pc L (br_i y :: br_i x :: st) σ := by
  obtain ⟨p, l, e, R, s, m, args, below, meth, c, cells, slots, Q, D, cI, cZ, ad, A, H0, ⟨hx, hb, hml, hown, hts⟩, ⟨hK, hD, hA, hN⟩, hR, hfin, hG⟩ := C
  rw [hG] at kk ⊢
  intro H locs ls hP hS hl'
  exact lv_ior hx hb hd (kk H locs ls hP hS hl')
theorem br_ishl {Y : br_Y} {d : Nat} {P : br_post} {G : br_Jg} (C : br_Ok Y d P G) {x y : Int32} {pc : Nat} {L : List (Option br_V)} {st : List br_V} {σ : br_Wd} (hd : decode Y.2.1 pc = .ok (.ishl, 1)) (kk : G (pc + 1) L (br_i (x <<< (y &&& 31)) :: st) σ) : G pc L (br_i y :: br_i x :: st) σ := by
  obtain ⟨p, l, e, R, s, m, args, below, meth, c, cells, slots, Q, D, cI, cZ, ad, A, H0, ⟨hx, hb, hml, hown, hts⟩, ⟨hK, hD, hA, hN⟩, hR, hfin, hG⟩ := C
  rw [hG] at kk ⊢
  intro H locs ls hP hS hl'
  exact lv_ishl hx hb hd (kk H locs ls hP hS hl')
theorem br_ishr {Y : br_Y} {d : Nat} {P : br_post} {G : br_Jg} (C : br_Ok Y d P G) {x y : Int32} {pc : Nat} {L : List (Option br_V)} {st : List br_V} {σ : br_Wd} (hd : decode Y.2.1 pc = .ok (.ishr, 1)) (kk : G (pc + 1) L (br_i (x >>> (y &&& 31)) :: st) σ) : G pc L (br_i y :: br_i x :: st) σ := by
  obtain ⟨p, l, e, R, s, m, args, below, meth, c, cells, slots, Q, D, cI, cZ, ad, A, H0, ⟨hx, hb, hml, hown, hts⟩, ⟨hK, hD, hA, hN⟩, hR, hfin, hG⟩ := C
  rw [hG] at kk ⊢
  intro H locs ls hP hS hl'
  exact lv_ishr hx hb hd (kk H locs ls hP hS hl')
theorem br_idiv {Y : br_Y} {d : Nat} {P : br_post} {G : br_Jg} (C : br_Ok Y d P G) {x y : Int32} {pc : Nat} {L : List (Option br_V)} {st : List br_V} {σ : br_Wd} (hne : ¬ y = 0) (hd : decode Y.2.1 pc = .ok (.idiv, 1)) (kk : G (pc + 1) L (br_i (x / y) :: st) σ) : G pc L (br_i y :: br_i x :: st) σ := by
  obtain ⟨p, l, e, R, s, m, args, below, meth, c, cells, slots, Q, D, cI, cZ, ad, A, H0, ⟨hx, hb, hml, hown, hts⟩, ⟨hK, hD, hA, hN⟩, hR, hfin, hG⟩ := C
  rw [hG] at kk ⊢
  intro H locs ls hP hS hl'
  exact lv_idiv hx hb hd hne (kk H locs ls hP hS hl')
theorem br_irem {Y : br_Y} {d : Nat} {P : br_post} {G : br_Jg} (C : br_Ok Y d P G) {x y : Int32} {pc : Nat} {L : List (Option br_V)} {st : List br_V} {σ : br_Wd} (hne : ¬ y = 0) (hd : decode Y.2.1 pc = .ok (.irem, 1)) (kk : G (pc + 1) L (br_i (x - x / y * y) :: st) σ) : G pc L (br_i y :: br_i x :: st) σ := by
  obtain ⟨p, l, e, R, s, m, args, below, meth, c, cells, slots, Q, D, cI, cZ, ad, A, H0, ⟨hx, hb, hml, hown, hts⟩, ⟨hK, hD, hA, hN⟩, hR, hfin, hG⟩ := C
  rw [hG] at kk ⊢
  intro H locs ls hP hS hl'
  exact lv_irem hx hb hd hne (kk H locs ls hP hS hl')
theorem br_ladd {Y : br_Y} {d : Nat} {P : br_post} {G : br_Jg} (C : br_Ok Y d P G) {x y : Int64} {pc : Nat} {L : List (Option br_V)} {st : List br_V} {σ : br_Wd} (hd : decode Y.2.1 pc = .ok (.ladd, 1)) (kk : G (pc + 1) L (br_l (x + y) :: st) σ) : G pc L (br_l y :: br_l x :: st) σ := by
  obtain ⟨p, l, e, R, s, m, args, below, meth, c, cells, slots, Q, D, cI, cZ, ad, A, H0, ⟨hx, hb, hml, hown, hts⟩, ⟨hK, hD, hA, hN⟩, hR, hfin, hG⟩ := C
  rw [hG] at kk ⊢
  intro H locs ls hP hS hl'
  exact lv_ladd hx hb hd (kk H locs ls hP hS hl')
theorem br_lmul {Y : br_Y} {d : Nat} {P : br_post} {G : br_Jg} (C : br_Ok Y d P G) {x y : Int64} {pc : Nat} {L : List (Option br_V)} {st : List br_V} {σ : br_Wd} (hd : decode Y.2.1 pc = .ok (.lmul, 1)) (kk : G (pc + 1) L (br_l (x * y) :: st) σ) : G pc L (br_l y :: br_l x :: st) σ := by
  obtain ⟨p, l, e, R, s, m, args, below, meth, c, cells, slots, Q, D, cI, cZ, ad, A, H0, ⟨hx, hb, hml, hown, hts⟩, ⟨hK, hD, hA, hN⟩, hR, hfin, hG⟩ := C
  rw [hG] at kk ⊢
  intro H locs ls hP hS hl'
  exact lv_lmul hx hb hd (kk H locs ls hP hS hl')
theorem br_land {Y : br_Y} {d : Nat} {P : br_post} {G : br_Jg} (C : br_Ok Y d P G) {x y : Int64} {pc : Nat} {L : List (Option br_V)} {st : List br_V} {σ : br_Wd} (hd : decode Y.2.1 pc = .ok (.land, 1)) (kk : G (pc + 1) L (br_l (x &&& y) :: st) σ) : G pc L (br_l y :: br_l x :: st) σ := by
  obtain ⟨p, l, e, R, s, m, args, below, meth, c, cells, slots, Q, D, cI, cZ, ad, A, H0, ⟨hx, hb, hml, hown, hts⟩, ⟨hK, hD, hA, hN⟩, hR, hfin, hG⟩ := C
  rw [hG] at kk ⊢
  intro H locs ls hP hS hl'
  exact lv_land hx hb hd (kk H locs ls hP hS hl')
theorem br_lrem {Y : br_Y} {d : Nat} {P : br_post} {G : br_Jg} (C : br_Ok Y d P G) {x y : Int64} {pc : Nat} {L : List (Option br_V)} {st : List br_V} {σ : br_Wd} (hne : ¬ y = 0) (hd : decode Y.2.1 pc = .ok (.lrem, 1)) (kk : G (pc + 1) L (br_l (x - x / y * y) :: st) σ) : G pc L (br_l y :: br_l x :: st) σ := by
  obtain ⟨p, l, e, R, s, m, args, below, meth, c, cells, slots, Q, D, cI, cZ, ad, A, H0, ⟨hx, hb, hml, hown, hts⟩, ⟨hK, hD, hA, hN⟩, hR, hfin, hG⟩ := C
  rw [hG] at kk ⊢
  intro H locs ls hP hS hl'
  exact lv_lrem hx hb hd hne (kk H locs ls hP hS hl')
theorem br_i2l {Y : br_Y} {d : Nat} {P : br_post} {G : br_Jg} (C : br_Ok Y d P G) {x : Int32} {pc : Nat} {L : List (Option br_V)} {st : List br_V} {σ : br_Wd} (hd : decode Y.2.1 pc = .ok (.i2l, 1)) (kk : G (pc + 1) L (br_l x.toInt64 :: st) σ) : G pc L (br_i x :: st) σ := by
  obtain ⟨p, l, e, R, s, m, args, below, meth, c, cells, slots, Q, D, cI, cZ, ad, A, H0, ⟨hx, hb, hml, hown, hts⟩, ⟨hK, hD, hA, hN⟩, hR, hfin, hG⟩ := C
  rw [hG] at kk ⊢
  intro H locs ls hP hS hl'
  exact lv_i2l hx hb hd rfl (kk H locs ls hP hS hl')
theorem br_l2i {Y : br_Y} {d : Nat} {P : br_post} {G : br_Jg} (C : br_Ok Y d P G) {x : Int64} {pc : Nat} {L : List (Option br_V)} {st : List br_V} {σ : br_Wd} (hd : decode Y.2.1 pc = .ok (.l2i, 1)) (kk : G (pc + 1) L (br_i x.toInt32 :: st) σ) : G pc L (br_l x :: st) σ := by
  obtain ⟨p, l, e, R, s, m, args, below, meth, c, cells, slots, Q, D, cI, cZ, ad, A, H0, ⟨hx, hb, hml, hown, hts⟩, ⟨hK, hD, hA, hN⟩, hR, hfin, hG⟩ := C
  rw [hG] at kk ⊢
  intro H locs ls hP hS hl'
  exact lv_l2i hx hb hd rfl (kk H locs ls hP hS hl')
theorem br_lcmp {Y : br_Y} {d : Nat} {P : br_post} {G : br_Jg} (C : br_Ok Y d P G) {x y : Int64} {pc : Nat} {L : List (Option br_V)} {st : List br_V} {σ : br_Wd} (hd : decode Y.2.1 pc = .ok (.lcmp, 1)) (kk : G (pc + 1) L (br_i (lg_cmp x y) :: st) σ) : G pc L (br_l y :: br_l x :: st) σ := by
  obtain ⟨p, l, e, R, s, m, args, below, meth, c, cells, slots, Q, D, cI, cZ, ad, A, H0, ⟨hx, hb, hml, hown, hts⟩, ⟨hK, hD, hA, hN⟩, hR, hfin, hG⟩ := C
  rw [hG] at kk ⊢
  intro H locs ls hP hS hl'
  exact W.lcmp hx hb hd (kk H locs ls hP hS hl')
theorem br_dup {Y : br_Y} {d : Nat} {P : br_post} {G : br_Jg} (C : br_Ok Y d P G) {v : br_V} {pc : Nat} {L : List (Option br_V)} {st : List br_V} {σ : br_Wd} (hd : decode Y.2.1 pc = .ok (.dup, 1)) (hv : br_isl v = false) (kk : G (pc + 1) L (v :: v :: st) σ) : G pc L (v :: st) σ := by
  obtain ⟨p, l, e, R, s, m, args, below, meth, c, cells, slots, Q, D, cI, cZ, ad, A, H0, ⟨hx, hb, hml, hown, hts⟩, ⟨hK, hD, hA, hN⟩, hR, hfin, hG⟩ := C
  rw [hG] at kk ⊢
  intro H locs ls hP hS hl'
  refine lv_dup hx hb hd ?_ (kk H locs ls hP hS hl')
  match v, hv with
  | .inl x, _ => rfl
  | .inr (.inr q), _ => rfl
theorem br_goto {Y : br_Y} {d : Nat} {P : br_post} {G : br_Jg} (C : br_Ok Y d P G) {off : Int} {tgt : Nat} {pc : Nat} {L : List (Option br_V)} {st : List br_V} {σ : br_Wd} (hd : decode Y.2.1 pc = .ok (.goto off, 3)) (ht : (pc : Int) + off = (tgt : Int)) (kk : G tgt L st σ) : G pc L st σ := by
  obtain ⟨p, l, e, R, s, m, args, below, meth, c, cells, slots, Q, D, cI, cZ, ad, A, H0, ⟨hx, hb, hml, hown, hts⟩, ⟨hK, hD, hA, hN⟩, hR, hfin, hG⟩ := C
  rw [hG] at kk ⊢
  intro H locs ls hP hS hl'
  exact lv_goto hx hb hd ht (kk H locs ls hP hS hl')
theorem br_name {α : Sort _} {Q : α → Prop} (x : α) (h : ∀ y, y = x → Q y) : Q x := h x rfl
theorem br_if_eq {Y : br_Y} {d : Nat} {P : br_post} {G : br_Jg} (C : br_Ok Y d P G) {x : Int32} {off : Int} {tgt : Nat} {pc : Nat} {L : List (Option br_V)} {st : List br_V} {σ : br_Wd} (hd : decode Y.2.1 pc = .ok (.ifCond .eq off, 3)) (ht : (pc : Int) + off = (tgt : Int)) (kt : x = 0 → G tgt L st σ) (kf : ¬ x = 0 → G (pc + 3) L st σ) : G pc L (br_i x :: st) σ := by
  obtain ⟨p, l, e, R, s, m, args, below, meth, c, cells, slots, Q, D, cI, cZ, ad, A, H0, ⟨hx, hb, hml, hown, hts⟩, ⟨hK, hD, hA, hN⟩, hR, hfin, hG⟩ := C
  rw [hG]
  intro H locs ls hP hS hl'
  exact lv_if_eq hx hb hd ht (fun h => (hG _ _ _ _).mp (kt h) H locs ls hP hS hl') (fun h => (hG _ _ _ _).mp (kf h) H locs ls hP hS hl')
theorem br_icmp_eq {Y : br_Y} {d : Nat} {P : br_post} {G : br_Jg} (C : br_Ok Y d P G) {x y : Int32} {off : Int} {tgt : Nat} {pc : Nat} {L : List (Option br_V)} {st : List br_V} {σ : br_Wd} (hd : decode Y.2.1 pc = .ok (.if_icmp .eq off, 3)) (ht : (pc : Int) + off = (tgt : Int)) (kt : x = y → G tgt L st σ) (kf : ¬ x = y → G (pc + 3) L st σ) : G pc L (br_i y :: br_i x :: st) σ := by
  obtain ⟨p, l, e, R, s, m, args, below, meth, c, cells, slots, Q, D, cI, cZ, ad, A, H0, ⟨hx, hb, hml, hown, hts⟩, ⟨hK, hD, hA, hN⟩, hR, hfin, hG⟩ := C
  rw [hG]
  intro H locs ls hP hS hl'
  exact lv_icmp_eq hx hb hd ht (fun h => (hG _ _ _ _).mp (kt h) H locs ls hP hS hl') (fun h => (hG _ _ _ _).mp (kf h) H locs ls hP hS hl')
theorem br_if_ne {Y : br_Y} {d : Nat} {P : br_post} {G : br_Jg} (C : br_Ok Y d P G) {x : Int32} {off : Int} {tgt : Nat} {pc : Nat} {L : List (Option br_V)} {st : List br_V} {σ : br_Wd} (hd : decode Y.2.1 pc = .ok (.ifCond .ne off, 3)) (ht : (pc : Int) + off = (tgt : Int)) (kt : ¬ x = 0 → G tgt L st σ) (kf : x = 0 → G (pc + 3) L st σ) : G pc L (br_i x :: st) σ := by
  obtain ⟨p, l, e, R, s, m, args, below, meth, c, cells, slots, Q, D, cI, cZ, ad, A, H0, ⟨hx, hb, hml, hown, hts⟩, ⟨hK, hD, hA, hN⟩, hR, hfin, hG⟩ := C
  rw [hG]
  intro H locs ls hP hS hl'
  exact lv_if_ne hx hb hd ht (fun h => (hG _ _ _ _).mp (kt h) H locs ls hP hS hl') (fun h => (hG _ _ _ _).mp (kf h) H locs ls hP hS hl')
theorem br_icmp_ne {Y : br_Y} {d : Nat} {P : br_post} {G : br_Jg} (C : br_Ok Y d P G) {x y : Int32} {off : Int} {tgt : Nat} {pc : Nat} {L : List (Option br_V)} {st : List br_V} {σ : br_Wd} (hd : decode Y.2.1 pc = .ok (.if_icmp .ne off, 3)) (ht : (pc : Int) + off = (tgt : Int)) (kt : ¬ x = y → G tgt L st σ) (kf : x = y → G (pc + 3) L st σ) : G pc L (br_i y :: br_i x :: st) σ := by
  obtain ⟨p, l, e, R, s, m, args, below, meth, c, cells, slots, Q, D, cI, cZ, ad, A, H0, ⟨hx, hb, hml, hown, hts⟩, ⟨hK, hD, hA, hN⟩, hR, hfin, hG⟩ := C
  rw [hG]
  intro H locs ls hP hS hl'
  exact lv_icmp_ne hx hb hd ht (fun h => (hG _ _ _ _).mp (kt h) H locs ls hP hS hl') (fun h => (hG _ _ _ _).mp (kf h) H locs ls hP hS hl')
theorem br_if_lt {Y : br_Y} {d : Nat} {P : br_post} {G : br_Jg} (C : br_Ok Y d P G) {x : Int32} {off : Int} {tgt : Nat} {pc : Nat} {L : List (Option br_V)} {st : List br_V} {σ : br_Wd} (hd : decode Y.2.1 pc = .ok (.ifCond .lt off, 3)) (ht : (pc : Int) + off = (tgt : Int)) (kt : x < 0 → G tgt L st σ) (kf : ¬ x < 0 → G (pc + 3) L st σ) : G pc L (br_i x :: st) σ := by
  obtain ⟨p, l, e, R, s, m, args, below, meth, c, cells, slots, Q, D, cI, cZ, ad, A, H0, ⟨hx, hb, hml, hown, hts⟩, ⟨hK, hD, hA, hN⟩, hR, hfin, hG⟩ := C
  rw [hG]
  intro H locs ls hP hS hl'
  exact lv_if_lt hx hb hd ht (fun h => (hG _ _ _ _).mp (kt h) H locs ls hP hS hl') (fun h => (hG _ _ _ _).mp (kf h) H locs ls hP hS hl')
theorem br_icmp_lt {Y : br_Y} {d : Nat} {P : br_post} {G : br_Jg} (C : br_Ok Y d P G) {x y : Int32} {off : Int} {tgt : Nat} {pc : Nat} {L : List (Option br_V)} {st : List br_V} {σ : br_Wd} (hd : decode Y.2.1 pc = .ok (.if_icmp .lt off, 3)) (ht : (pc : Int) + off = (tgt : Int)) (kt : x < y → G tgt L st σ) (kf : ¬ x < y → G (pc + 3) L st σ) : G pc L (br_i y :: br_i x :: st) σ := by
  obtain ⟨p, l, e, R, s, m, args, below, meth, c, cells, slots, Q, D, cI, cZ, ad, A, H0, ⟨hx, hb, hml, hown, hts⟩, ⟨hK, hD, hA, hN⟩, hR, hfin, hG⟩ := C
  rw [hG]
  intro H locs ls hP hS hl'
  exact lv_icmp_lt hx hb hd ht (fun h => (hG _ _ _ _).mp (kt h) H locs ls hP hS hl') (fun h => (hG _ _ _ _).mp (kf h) H locs ls hP hS hl')
theorem br_if_ge {Y : br_Y} {d : Nat} {P : br_post} {G : br_Jg} (C : br_Ok Y d P G) {x : Int32} {off : Int} {tgt : Nat} {pc : Nat} {L : List (Option br_V)} {st : List br_V} {σ : br_Wd} (hd : decode Y.2.1 pc = .ok (.ifCond .ge off, 3)) (ht : (pc : Int) + off = (tgt : Int)) (kt : 0 ≤ x → G tgt L st σ) (kf : ¬ 0 ≤ x → G (pc + 3) L st σ) : G pc L (br_i x :: st) σ := by
  obtain ⟨p, l, e, R, s, m, args, below, meth, c, cells, slots, Q, D, cI, cZ, ad, A, H0, ⟨hx, hb, hml, hown, hts⟩, ⟨hK, hD, hA, hN⟩, hR, hfin, hG⟩ := C
  rw [hG]
  intro H locs ls hP hS hl'
  exact lv_if_ge hx hb hd ht (fun h => (hG _ _ _ _).mp (kt h) H locs ls hP hS hl') (fun h => (hG _ _ _ _).mp (kf h) H locs ls hP hS hl')
theorem br_icmp_ge {Y : br_Y} {d : Nat} {P : br_post} {G : br_Jg} (C : br_Ok Y d P G) {x y : Int32} {off : Int} {tgt : Nat} {pc : Nat} {L : List (Option br_V)} {st : List br_V} {σ : br_Wd} (hd : decode Y.2.1 pc = .ok (.if_icmp .ge off, 3)) (ht : (pc : Int) + off = (tgt : Int)) (kt : y ≤ x → G tgt L st σ) (kf : ¬ y ≤ x → G (pc + 3) L st σ) : G pc L (br_i y :: br_i x :: st) σ := by
  obtain ⟨p, l, e, R, s, m, args, below, meth, c, cells, slots, Q, D, cI, cZ, ad, A, H0, ⟨hx, hb, hml, hown, hts⟩, ⟨hK, hD, hA, hN⟩, hR, hfin, hG⟩ := C
  rw [hG]
  intro H locs ls hP hS hl'
  exact lv_icmp_ge hx hb hd ht (fun h => (hG _ _ _ _).mp (kt h) H locs ls hP hS hl') (fun h => (hG _ _ _ _).mp (kf h) H locs ls hP hS hl')
theorem br_if_gt {Y : br_Y} {d : Nat} {P : br_post} {G : br_Jg} (C : br_Ok Y d P G) {x : Int32} {off : Int} {tgt : Nat} {pc : Nat} {L : List (Option br_V)} {st : List br_V} {σ : br_Wd} (hd : decode Y.2.1 pc = .ok (.ifCond .gt off, 3)) (ht : (pc : Int) + off = (tgt : Int)) (kt : 0 < x → G tgt L st σ) (kf : ¬ 0 < x → G (pc + 3) L st σ) : G pc L (br_i x :: st) σ := by
  obtain ⟨p, l, e, R, s, m, args, below, meth, c, cells, slots, Q, D, cI, cZ, ad, A, H0, ⟨hx, hb, hml, hown, hts⟩, ⟨hK, hD, hA, hN⟩, hR, hfin, hG⟩ := C
  rw [hG]
  intro H locs ls hP hS hl'
  exact lv_if_gt hx hb hd ht (fun h => (hG _ _ _ _).mp (kt h) H locs ls hP hS hl') (fun h => (hG _ _ _ _).mp (kf h) H locs ls hP hS hl')
theorem br_icmp_gt {Y : br_Y} {d : Nat} {P : br_post} {G : br_Jg} (C : br_Ok Y d P G) {x y : Int32} {off : Int} {tgt : Nat} {pc : Nat} {L : List (Option br_V)} {st : List br_V} {σ : br_Wd} (hd : decode Y.2.1 pc = .ok (.if_icmp .gt off, 3)) (ht : (pc : Int) + off = (tgt : Int)) (kt : y < x → G tgt L st σ) (kf : ¬ y < x → G (pc + 3) L st σ) : G pc L (br_i y :: br_i x :: st) σ := by
  obtain ⟨p, l, e, R, s, m, args, below, meth, c, cells, slots, Q, D, cI, cZ, ad, A, H0, ⟨hx, hb, hml, hown, hts⟩, ⟨hK, hD, hA, hN⟩, hR, hfin, hG⟩ := C
  rw [hG]
  intro H locs ls hP hS hl'
  exact lv_icmp_gt hx hb hd ht (fun h => (hG _ _ _ _).mp (kt h) H locs ls hP hS hl') (fun h => (hG _ _ _ _).mp (kf h) H locs ls hP hS hl')
theorem br_if_le {Y : br_Y} {d : Nat} {P : br_post} {G : br_Jg} (C : br_Ok Y d P G) {x : Int32} {off : Int} {tgt : Nat} {pc : Nat} {L : List (Option br_V)} {st : List br_V} {σ : br_Wd} (hd : decode Y.2.1 pc = .ok (.ifCond .le off, 3)) (ht : (pc : Int) + off = (tgt : Int)) (kt : x ≤ 0 → G tgt L st σ) (kf : ¬ x ≤ 0 → G (pc + 3) L st σ) : G pc L (br_i x :: st) σ := by
  obtain ⟨p, l, e, R, s, m, args, below, meth, c, cells, slots, Q, D, cI, cZ, ad, A, H0, ⟨hx, hb, hml, hown, hts⟩, ⟨hK, hD, hA, hN⟩, hR, hfin, hG⟩ := C
  rw [hG]
  intro H locs ls hP hS hl'
  exact lv_if_le hx hb hd ht (fun h => (hG _ _ _ _).mp (kt h) H locs ls hP hS hl') (fun h => (hG _ _ _ _).mp (kf h) H locs ls hP hS hl')
theorem br_icmp_le {Y : br_Y} {d : Nat} {P : br_post} {G : br_Jg} (C : br_Ok Y d P G) {x y : Int32} {off : Int} {tgt : Nat} {pc : Nat} {L : List (Option br_V)} {st : List br_V} {σ : br_Wd} (hd : decode Y.2.1 pc = .ok (.if_icmp .le off, 3)) (ht : (pc : Int) + off = (tgt : Int)) (kt : x ≤ y → G tgt L st σ) (kf : ¬ x ≤ y → G (pc + 3) L st σ) : G pc L (br_i y :: br_i x :: st) σ := by
  obtain ⟨p, l, e, R, s, m, args, below, meth, c, cells, slots, Q, D, cI, cZ, ad, A, H0, ⟨hx, hb, hml, hown, hts⟩, ⟨hK, hD, hA, hN⟩, hR, hfin, hG⟩ := C
  rw [hG]
  intro H locs ls hP hS hl'
  exact lv_icmp_le hx hb hd ht (fun h => (hG _ _ _ _).mp (kt h) H locs ls hP hS hl') (fun h => (hG _ _ _ _).mp (kf h) H locs ls hP hS hl')
theorem br_tableIn {Y : br_Y} {d : Nat} {P : br_post} {G : br_Jg} (C : br_Ok Y d P G) {dflt lo hi : Int} {offs : Array Int} {len : Nat} {x : Int32} {off : Int} {tgt : Nat} {pc : Nat} {L : List (Option br_V)} {st : List br_V} {σ : br_Wd} (hd : decode Y.2.1 pc = .ok (.tableswitch dflt lo hi offs, len)) (h1 : ¬ x.toInt < lo) (h2 : ¬ hi < x.toInt) (ho : offs[(x.toInt - lo).toNat]? = some off) (ht : (pc : Int) + off = (tgt : Int)) (kk : G tgt L st σ) : G pc L (br_i x :: st) σ := by
  obtain ⟨p, l, e, R, s, m, args, below, meth, c, cells, slots, Q, D, cI, cZ, ad, A, H0, ⟨hx, hb, hml, hown, hts⟩, ⟨hK, hD, hA, hN⟩, hR, hfin, hG⟩ := C
  rw [hG] at kk ⊢
  intro H locs ls hP hS hl'
  exact lv_tableIn hx hb hd h1 h2 ho ht (kk H locs ls hP hS hl')
theorem br_tableOut {Y : br_Y} {d : Nat} {P : br_post} {G : br_Jg} (C : br_Ok Y d P G) {dflt lo hi : Int} {offs : Array Int} {len : Nat} {x : Int32} {tgt : Nat} {pc : Nat} {L : List (Option br_V)} {st : List br_V} {σ : br_Wd} (hd : decode Y.2.1 pc = .ok (.tableswitch dflt lo hi offs, len)) (h : x.toInt < lo ∨ hi < x.toInt) (ht : (pc : Int) + dflt = (tgt : Int)) (kk : G tgt L st σ) : G pc L (br_i x :: st) σ := by
  obtain ⟨p, l, e, R, s, m, args, below, meth, c, cells, slots, Q, D, cI, cZ, ad, A, H0, ⟨hx, hb, hml, hown, hts⟩, ⟨hK, hD, hA, hN⟩, hR, hfin, hG⟩ := C
  rw [hG] at kk ⊢
  intro H locs ls hP hS hl'
  exact lv_tableOut hx hb hd h ht (kk H locs ls hP hS hl')
theorem br_sub1 {Y : br_Y} {d : Nat} {P : br_post} {G : br_Jg} (C : br_Ok Y d P G) {L' : List (Option br_V)} {pc : Nat} {L : List (Option br_V)} {st : List br_V} {σ : br_Wd} (hs : br_sub L' L) (kk : G pc L' st σ) : G pc L st σ := by
  obtain ⟨p, l, e, R, s, m, args, below, meth, c, cells, slots, Q, D, cI, cZ, ad, A, H0, ⟨hx, hb, hml, hown, hts⟩, ⟨hK, hD, hA, hN⟩, hR, hfin, hG⟩ := C
  rw [hG] at kk ⊢
  intro H locs ls hP hS hl'
  exact kk H locs ls hP hS (hs.has hl')
-- a class of the world: its rows; a field: its link, its place, its type
def br_Cl (ci : Nat) (Cn : String) (T : u_T) (N : Nat) : Prop := vwCl[ci]? = some (Cn, T, N) ∧ (∀ w ∈ u_ws Cn T N, w ∈ br_W0) ∧ ∃ ty : Nat → FieldType, (∀ k, k < N → parseFieldDescriptor (T k).2.2.1 = some (ty k)) ∧ ∀ a, a < N → ∀ b, b < N → a ≠ b → (T a).2.1 ≠ (T b).2.1
def br_FL (own : String) (idx : Nat) (f : String × String × String × Bool) : Prop := Cond.fieldLink own idx f.1 f.2.1 f.2.2.1 ∈ br_W0 ∨ (own, idx, f.1, f.2.1, f.2.2.1, "BarRoutine") ∈ br_nest
def br_fd (own : String) (idx ci k : Nat) (fin : Bool) (ty : FieldType) : Prop := ∃ (Cn : String) (T : u_T) (N : Nat), br_Cl ci Cn T N ∧ k < N ∧ br_FL own idx (T k) ∧ (T k).2.2.2 = fin ∧ parseFieldDescriptor (T k).2.2.1 = some ty
theorem br_get {Y : br_Y} {d : Nat} {P : br_post} {G : br_Jg} (C : br_Ok Y d P G) {idx ci k : Nat} {fin : Bool} {ty : FieldType} (hf : br_fd Y.1.cls idx ci k fin ty) {q : Nat} {fs : List br_FK} {fk : br_FK} {v : br_V} {pc : Nat} {L : List (Option br_V)} {st : List br_V} {σ : br_Wd} (hd : decode Y.2.1 pc = .ok (.getfield idx, 3)) (hs : br_shps[q]? = some (.inr (ci, fs))) (hk : fs[k]? = some fk) (hv : ∀ ad, br_fv ad σ q k fk = br_av ad v) (kk : G (pc + 3) L (v :: st) σ) : G pc L (br_r q :: st) σ := by
  obtain ⟨p, l, e, R, s, m, args, below, meth, c, cells, slots, Q, D, cI, cZ, ad, A, H0, ⟨hx, hb, hml, hown, hts⟩, ⟨hK, hD, hA, hN⟩, hR, hfin, hG⟩ := C
  rw [hG] at kk ⊢
  intro H locs ls hP hS hl'
  obtain ⟨Cn, T, N, ⟨hc, hin, -⟩, hkN, hfl, -, -⟩ := hf
  have he : (br_W cI cZ ad σ)[q]? = some (ad q, .inr (ci, br_mkF ad σ q 0 fs)) := br_W_get hs
  have hvv : (br_mkF ad σ q 0 fs)[k]? = some (br_av ad v) := by rw [br_mkF_get, hk, Nat.zero_add]; exact congrArg some (hv ad)
  rcases hfl with hfl | hfl
  · exact va_get hx hb hts hin hown hK hP q he hc k hkN (hts _ hfl) (fun _ h => h) hvv hd (kk H locs ls hP hS hl')
  · exact va_getN (host := "BarRoutine") hx hb hts hin hown hK hP q he hc k hkN (va_Nw.use rfl (hN _ hfl)) (fun _ h => h) hvv hd (kk H locs ls hP hS hl')
theorem br_getI {Y : br_Y} {d : Nat} {P : br_post} {G : br_Jg} (C : br_Ok Y d P G) {idx ci k : Nat} {fin : Bool} {ty : FieldType} (hf : br_fd Y.1.cls idx ci k fin ty) {q : Nat} {fs : List br_FK} {x : Int32} {pc : Nat} {L : List (Option br_V)} {st : List br_V} {σ : br_Wd} (hd : decode Y.2.1 pc = .ok (.getfield idx, 3)) (hs : br_shps[q]? = some (.inr (ci, fs))) (hk : fs[k]? = some none) (hv : σ.1 q k = x) (kk : G (pc + 3) L (br_i x :: st) σ) : G pc L (br_r q :: st) σ :=
  br_get C hf hd hs hk (fun ad => by subst hv; rfl) kk
theorem br_getR {Y : br_Y} {d : Nat} {P : br_post} {G : br_Jg} (C : br_Ok Y d P G) {idx ci k : Nat} {fin : Bool} {ty : FieldType} (hf : br_fd Y.1.cls idx ci k fin ty) {q r : Nat} {fs : List br_FK} {pc : Nat} {L : List (Option br_V)} {st : List br_V} {σ : br_Wd} (hd : decode Y.2.1 pc = .ok (.getfield idx, 3)) (hs : br_shps[q]? = some (.inr (ci, fs))) (hk : fs[k]? = some (some (some r))) (kk : G (pc + 3) L (br_r r :: st) σ) : G pc L (br_r q :: st) σ :=
  br_get C hf hd hs hk (fun ad => rfl) kk
theorem br_getL {Y : br_Y} {d : Nat} {P : br_post} {G : br_Jg} (C : br_Ok Y d P G) {idx ci k : Nat} {fin : Bool} {ty : FieldType} (hf : br_fd Y.1.cls idx ci k fin ty) {q : Nat} {fs : List br_FK} {x : Int64} {pc : Nat} {L : List (Option br_V)} {st : List br_V} {σ : br_Wd} (hd : decode Y.2.1 pc = .ok (.getfield idx, 3)) (hs : br_shps[q]? = some (.inr (ci, fs))) (hk : fs[k]? = some (some none)) (hv : σ.2 = x) (kk : G (pc + 3) L (br_l x :: st) σ) : G pc L (br_r q :: st) σ :=
  br_get C hf hd hs hk (fun ad => by subst hv; rfl) kk
theorem br_put {Y : br_Y} {d : Nat} {P : br_post} {G : br_Jg} (C : br_Ok Y d P G) {idx ci k : Nat} {ty : FieldType} (hf : br_fd Y.1.cls idx ci k false ty) {q : Nat} {fs : List br_FK} {x : Int32} {pc : Nat} {L : List (Option br_V)} {st : List br_V} {σ σ' : br_Wd} (hd : decode Y.2.1 pc = .ok (.putfield idx, 3)) (hs : br_shps[q]? = some (.inr (ci, fs))) (hk : fs[k]? = some none) (hn : narrow ty (.int x) = .int x) (hfit : fits ty (.int x) = true) (hu : br_up σ q k x = σ') (kk : G (pc + 3) L st σ') : G pc L (br_i x :: br_r q :: st) σ := by
  obtain ⟨p, l, e, R, s, m, args, below, meth, c, cells, slots, Q, D, cI, cZ, ad, A, H0, ⟨hx, hb, hml, hown, hts⟩, ⟨hK, hD, hA, hN⟩, hR, hfin, hG⟩ := C
  rw [hG] at kk ⊢
  intro H locs ls hP hS hl'
  subst hu
  obtain ⟨Cn, T, N, ⟨hc, hin, ty0, hty, hnm⟩, hkN, hfl, hfin2, hpt⟩ := hf
  have he : (br_W cI cZ ad σ)[q]? = some (ad q, .inr (ci, br_mkF ad σ q 0 fs)) := br_W_get hs
  have hlen : k < (br_mkF ad σ q 0 fs).length := by
    have := br_mkF_get ad σ q fs 0 k
    rw [hk] at this
    exact (List.getElem?_eq_some_iff.mp this).1
  have eq : (br_W cI cZ ad σ).set q (ad q, .inr (ci, (br_mkF ad σ q 0 fs).set k (.int x))) = br_W cI cZ ad (br_up σ q k x) := by rw [br_mkF_put hk]; exact br_W_up hs
  rcases hfl with hfl | hfl
  · exact va_put hx hb hts hin ty0 hty hnm hown hK hP (hD σ) hS q he hc k hkN (hts _ hfl) (fun _ h => h) hfin2 hpt hn hfit hlen hd (fun H1 locs1 hP1 _ hS1 => kk H1 locs1 ls (by rw [← eq]; exact hP1) hS1 hl')
  · exact va_putN (host := "BarRoutine") hx hb hts hin ty0 hty hnm hown hK hP (hD σ) hS q he hc k hkN (va_Nw.use rfl (hN _ hfl)) (fun _ h => h) hfin2 hpt hn hfit hlen hd (fun H1 locs1 hP1 _ hS1 => kk H1 locs1 ls (by rw [← eq]; exact hP1) hS1 hl')
theorem br_putI {Y : br_Y} {d : Nat} {P : br_post} {G : br_Jg} (C : br_Ok Y d P G) {idx ci k : Nat} (hf : br_fd Y.1.cls idx ci k false .int) {q : Nat} {fs : List br_FK} {x : Int32} {pc : Nat} {L : List (Option br_V)} {st : List br_V} {σ σ' : br_Wd} (hd : decode Y.2.1 pc = .ok (.putfield idx, 3)) (hs : br_shps[q]? = some (.inr (ci, fs))) (hk : fs[k]? = some none) (hu : br_up σ q k x = σ') (kk : G (pc + 3) L st σ') : G pc L (br_i x :: br_r q :: st) σ :=
  br_put C hf hd hs hk rfl rfl hu kk
theorem br_mkF_putl {ad : Nat → Nat} {σ : br_Wd} {q k : Nat} {v : Int64} {fs : List br_FK} (hk : fs[k]? = some (some none)) (h1 : ∀ j : Nat, fs[j]? = some (some none) → j = k) : (br_mkF ad σ q 0 fs).set k (.long v) = br_mkF ad (br_upl σ v) q 0 fs := by
  apply List.ext_getElem?
  intro j
  rw [List.getElem?_set, br_mkF_get, br_mkF_get]
  have hl2 : k < (br_mkF ad σ q 0 fs).length := by
    have := br_mkF_get ad σ q fs 0 k
    rw [hk] at this
    exact (List.getElem?_eq_some_iff.mp this).1
  by_cases e : k = j
  · subst e
    rw [if_pos rfl, if_pos hl2, hk]
    rfl
  · rw [if_neg e]
    cases hj : fs[j]? with
    | none => rfl
    | some f =>
      cases f with
      | none => rfl
      | some f =>
        cases f with
        | none => exact absurd (h1 j hj).symm e
        | some r => rfl
theorem br_putL {Y : br_Y} {d : Nat} {P : br_post} {G : br_Jg} (C : br_Ok Y d P G) {idx : Nat} (hf : br_fd Y.1.cls idx 5 20 false .long) {x : Int64} {pc : Nat} {L : List (Option br_V)} {st : List br_V} {σ σ' : br_Wd} (hd : decode Y.2.1 pc = .ok (.putfield idx, 3)) (hu : br_upl σ x = σ') (kk : G (pc + 3) L st σ') : G pc L (br_l x :: br_r 23 :: st) σ := by
  obtain ⟨p, l, e, R, s, m, args, below, meth, c, cells, slots, Q, D, cI, cZ, ad, A, H0, ⟨hx, hb, hml, hown, hts⟩, ⟨hK, hD, hA, hN⟩, hR, hfin, hG⟩ := C
  rw [hG] at kk ⊢
  intro H locs ls hP hS hl'
  subst hu
  obtain ⟨Cn, T, N, ⟨hc, hin, ty0, hty, hnm⟩, hkN, hfl, hfin2, hpt⟩ := hf
  obtain ⟨fs, hs, hk, h1⟩ : ∃ fs, br_shps[23]? = some (.inr (5, fs)) ∧ fs[20]? = some (some none) ∧ ∀ j : Nat, fs[j]? = some (some none) → j = 20 := by
    refine ⟨_, rfl, rfl, fun j hj => ?_⟩
    have hl : j < 21 := (List.getElem?_eq_some_iff.mp hj).1
    have key : ∀ j : Fin 21, ([br_fr 24, none, none, none, none, br_fr 25, br_fr 26, none, none, br_fr 27, br_fr 28, none, br_fr 29, none, none, none, none, none, br_fr 30, br_fr 31, some none] : List br_FK)[(j : Nat)]? = some (some none) → (j : Nat) = 20 := by decide +kernel
    exact key ⟨j, hl⟩ hj
  have he : (br_W cI cZ ad σ)[23]? = some (ad 23, .inr (5, br_mkF ad σ 23 0 fs)) := br_W_get hs
  have hlen : 20 < (br_mkF ad σ 23 0 fs).length := by
    have := br_mkF_get ad σ 23 fs 0 20
    rw [hk] at this
    exact (List.getElem?_eq_some_iff.mp this).1
  have eq : (br_W cI cZ ad σ).set 23 (ad 23, .inr (5, (br_mkF ad σ 23 0 fs).set 20 (.long x))) = br_W cI cZ ad (br_upl σ x) := by rw [br_mkF_putl hk h1]; exact br_W_upl hs
  rcases hfl with hfl | hfl
  · exact va_put hx hb hts hin ty0 hty hnm hown hK hP (hD σ) hS 23 he hc 20 hkN (hts _ hfl) (fun _ h => h) hfin2 hpt rfl rfl hlen hd (fun H1 locs1 hP1 _ hS1 => kk H1 locs1 ls (by rw [← eq]; exact hP1) hS1 hl')
  · exact va_putN (host := "BarRoutine") hx hb hts hin ty0 hty hnm hown hK hP (hD σ) hS 23 he hc 20 hkN (va_Nw.use rfl (hN _ hfl)) (fun _ h => h) hfin2 hpt rfl rfl hlen hd (fun H1 locs1 hP1 _ hS1 => kk H1 locs1 ls (by rw [← eq]; exact hP1) hS1 hl')
theorem br_iald {Y : br_Y} {d : Nat} {P : br_post} {G : br_Jg} (C : br_Ok Y d P G) {q n : Nat} {i x : Int32} {pc : Nat} {L : List (Option br_V)} {st : List br_V} {σ : br_Wd} (hs : br_shps[q]? = some (.inl (false, n))) (hin : vp_in i n) (hv : σ.1 q i.toNatClampNeg = x) (hd : decode Y.2.1 pc = .ok (.iaload, 1)) (kk : G (pc + 1) L (br_i x :: st) σ) : G pc L (br_i i :: br_r q :: st) σ := by
  obtain ⟨p, l, e, R, s, m, args, below, meth, c, cells, slots, Q, D, cI, cZ, ad, A, H0, ⟨hx, hb, hml, hown, hts⟩, ⟨hK, hD, hA, hN⟩, hR, hfin, hG⟩ := C
  rw [hG] at kk ⊢
  intro H locs ls hP hS hl'
  subst hv
  exact va_iald (t0 := 0) (n := n) (f := σ.1 q) hx hb hK hP q (br_W_get hs) rfl hin hd (kk H locs ls hP hS hl')
theorem br_zald {Y : br_Y} {d : Nat} {P : br_post} {G : br_Jg} (C : br_Ok Y d P G) {q n : Nat} {i x : Int32} {pc : Nat} {L : List (Option br_V)} {st : List br_V} {σ : br_Wd} (hs : br_shps[q]? = some (.inl (true, n))) (hin : vp_in i n) (hv : σ.1 q i.toNatClampNeg = x) (hd : decode Y.2.1 pc = .ok (.baload, 1)) (kk : G (pc + 1) L (br_i x :: st) σ) : G pc L (br_i i :: br_r q :: st) σ := by
  obtain ⟨p, l, e, R, s, m, args, below, meth, c, cells, slots, Q, D, cI, cZ, ad, A, H0, ⟨hx, hb, hml, hown, hts⟩, ⟨hK, hD, hA, hN⟩, hR, hfin, hG⟩ := C
  rw [hG] at kk ⊢
  intro H locs ls hP hS hl'
  subst hv
  exact va_zald (t0 := 1) (n := n) (f := σ.1 q) hx hb hK hP q (br_W_get hs) rfl hin hd (kk H locs ls hP hS hl')
theorem br_ast_eq {cI cZ : ClassId} {ad : Nat → Nat} {σ : br_Wd} {q n : Nat} {z : Bool} {i : Nat} {x : Int32} (hs : br_shps[q]? = some (.inl (z, n))) : (br_W cI cZ ad σ).set q (ad q, .inl (cond z cZ cI, n, .inl (upd (σ.1 q) i x))) = br_W cI cZ ad (br_up σ q i x) := by
  rw [← br_W_up hs]
  congr 1
  show (ad q, Sum.inl (cond z cZ cI, n, Sum.inl (upd (σ.1 q) i x))) = (ad q, Sum.inl (cond z cZ cI, n, Sum.inl ((br_up σ q i x).1 q)))
  congr 4
  apply congrArg
  funext j
  simp [upd, br_up]
theorem br_iast {Y : br_Y} {d : Nat} {P : br_post} {G : br_Jg} (C : br_Ok Y d P G) {q n : Nat} {i x : Int32} {σ' : br_Wd} {pc : Nat} {L : List (Option br_V)} {st : List br_V} {σ : br_Wd} (hs : br_shps[q]? = some (.inl (false, n))) (hin : vp_in i n) (hu : br_up σ q i.toNatClampNeg x = σ') (hd : decode Y.2.1 pc = .ok (.iastore, 1)) (kk : G (pc + 1) L st σ') : G pc L (br_i x :: br_i i :: br_r q :: st) σ := by
  obtain ⟨p, l, e, R, s, m, args, below, meth, c, cells, slots, Q, D, cI, cZ, ad, A, H0, ⟨hx, hb, hml, hown, hts⟩, ⟨hK, hD, hA, hN⟩, hR, hfin, hG⟩ := C
  rw [hG] at kk ⊢
  intro H locs ls hP hS hl'
  subst hu
  exact va_iast (t0 := 0) (n := n) (f := σ.1 q) hx hb hK hP (hD σ) hS q (br_W_get hs) rfl hin hd (fun H1 locs1 hP1 _ hS1 => kk H1 locs1 ls (by rw [← br_ast_eq hs]; exact hP1) hS1 hl')
theorem br_zast {Y : br_Y} {d : Nat} {P : br_post} {G : br_Jg} (C : br_Ok Y d P G) {q n : Nat} {i x : Int32} {σ' : br_Wd} {pc : Nat} {L : List (Option br_V)} {st : List br_V} {σ : br_Wd} (hs : br_shps[q]? = some (.inl (true, n))) (hin : vp_in i n) (hu : br_up σ q i.toNatClampNeg (vp_nar .boolean x) = σ') (hd : decode Y.2.1 pc = .ok (.bastore, 1)) (kk : G (pc + 1) L st σ') : G pc L (br_i x :: br_i i :: br_r q :: st) σ := by
  obtain ⟨p, l, e, R, s, m, args, below, meth, c, cells, slots, Q, D, cI, cZ, ad, A, H0, ⟨hx, hb, hml, hown, hts⟩, ⟨hK, hD, hA, hN⟩, hR, hfin, hG⟩ := C
  rw [hG] at kk ⊢
  intro H locs ls hP hS hl'
  subst hu
  exact va_zast (t0 := 1) (n := n) (f := σ.1 q) hx hb hK hP (hD σ) hS q (br_W_get hs) rfl hin hd (fun H1 locs1 hP1 _ hS1 => kk H1 locs1 ls (by rw [← br_ast_eq hs]; exact hP1) hS1 hl')
theorem br_alen {Y : br_Y} {d : Nat} {P : br_post} {G : br_Jg} (C : br_Ok Y d P G) {q n : Nat} {v : Int32} {pc : Nat} {L : List (Option br_V)} {st : List br_V} {σ : br_Wd} (hs : br_shps[q]? = some (.inl (false, n))) (hv : Int32.ofNat n = v) (hd : decode Y.2.1 pc = .ok (.arraylength, 1)) (kk : G (pc + 1) L (br_i v :: st) σ) : G pc L (br_r q :: st) σ := by
  obtain ⟨p, l, e, R, s, m, args, below, meth, c, cells, slots, Q, D, cI, cZ, ad, A, H0, ⟨hx, hb, hml, hown, hts⟩, ⟨hK, hD, hA, hN⟩, hR, hfin, hG⟩ := C
  rw [hG] at kk ⊢
  intro H locs ls hP hS hl'
  exact va_alen (t0 := 0) (x := (n, .inl (σ.1 q))) hx hb hK hP q (br_W_get hs) rfl hv hd (kk H locs ls hP hS hl')
-- calls
theorem br_callU {p : Program} {l : Launch} {e : Env} {R : Room} {s : State} {m : MethodId} {args : Array Value} {below : List Frame} {meth : Method} {c : Code} {H : Heap} {locs : List Loc} {cells slots : Nat} {Q : State → Prop} {pc : Nat} {ls : Array Slot} {rest st0 : List Value} {a : Array Value} {A0 A1 : Nat → Prop} {H0 : Heap} {free : Addr → Prop} {D : va_G} {cI cZ : ClassId} {ad : Nat → Nat} {P : br_post}
    (hr : va_Run p l e R s m args below meth c H locs cells slots 0 0 (F0 m pc ls st0) rest (br_Q D cI cZ ad A1 P a) free) (hS : va_S A0 H0 H locs) (hA : ∀ q, q < H.size → A1 q → A0 q) (hf : ∀ q, free q → A0 q)
    (kk : ∀ (v : Option br_V) (τ : br_Wd) (H1 : Heap) (locs1 : List Loc), P v τ → va_P D vwCl (br_W cI cZ ad τ) H1 → va_S A0 H0 H1 locs1 → W p l e R s m args below meth c H1 locs1 cells slots Q (F0 m (pc + 3) ls ((v.map (br_av ad)).toList ++ rest))) : W p l e R s m args below meth c H locs cells slots Q (F0 m pc ls st0) := by
  intro T hT X
  obtain ⟨v, st₀, t, T', L, h0, X', hL, e1, e2, ⟨⟨w, τ, hv, hp, hb⟩, hz, hk⟩, st⟩ := hr T hT X
  cases hv
  rw [h0] at hz hk
  obtain ⟨t2, a1, b1⟩ := kk w τ T'.heap (locs ++ L) hp (by rw [e1]; exact hb)
    ⟨Nat.le_trans hS.1 (by rw [e1]; exact hz), fun q h1 h2 => by rw [e1, hk q (Nat.lt_of_lt_of_le h1 hS.1) (fun z => h2 (hA q (Nat.lt_of_lt_of_le h1 hS.1) z))]; exact hS.2.1 q h1 h2, fun q hq => by
      rcases List.mem_append.mp hq with h | h
      · exact hS.2.2 q h
      · exact hf _ (hL q h)⟩ T' rfl X'
  exact ⟨t2, st t2 a1, b1⟩
def br_vc (own : String) (idx : Nat) (Y : br_Y) (n : Nat) : Prop := (Cond.methodLink own idx Y.1 ∈ br_W0 ∧ Cond.initialized Y.1.cls ∈ br_W0 ∧ Cond.code Y.1 Y.2.1 Y.2.2.1 Y.2.2.2 ∈ br_W0) ∧ (Cond.instanceMethod Y.1 ∈ br_W0 ∧ Cond.selects Y.1.cls Y.1 Y.1 ∈ br_W0) ∧ (Y.1.cls ≠ "java/lang/invoke/MethodHandle" ∧ Y.1.cls ≠ "java/lang/invoke/VarHandle" ∧ (parseMethodDescriptor Y.1.desc).map (fun d => d.parameters.length) = some n) ∧ Y.2.2.1 ≤ 10
def br_sc (own : String) (idx : Nat) (Y : br_Y) (n : Nat) : Prop := (Cond.methodLink own idx Y.1 ∈ br_W0 ∧ Cond.initialized Y.1.cls ∈ br_W0 ∧ Cond.code Y.1 Y.2.1 Y.2.2.1 Y.2.2.2 ∈ br_W0) ∧ Cond.static Y.1 ∈ br_W0 ∧ (Y.1.cls ≠ "java/lang/invoke/MethodHandle" ∧ Y.1.cls ≠ "java/lang/invoke/VarHandle" ∧ (parseMethodDescriptor Y.1.desc).map (fun d => d.parameters.length) = some n) ∧ Y.2.2.1 ≤ 10
theorem br_ws_good {Y : br_Y} (h : Cond.code Y.1 Y.2.1 Y.2.2.1 Y.2.2.2 ∈ br_W0) : GoodIn br_W0 (br_ws Y) := by
  intro w hw
  rcases List.mem_cons.mp hw with rfl | hw
  · exact ⟨h, br_W0_good h⟩
  · exact ⟨hw, br_W0_good hw⟩
theorem br_callV {Y : br_Y} {d : Nat} {P : br_post} {G : br_Jg} (C : br_Ok Y d P G) {idx : Nat} {Y2 : br_Y} {n d2 : Nat} (hvc : br_vc Y.1.cls idx Y2 n) {q : Nat} {As : List br_V} {σ : br_Wd} {P2 : br_post} (hM : br_Met d2 Y2 (br_r q :: As) σ P2) (hd2 : d2 < d) {ci : Nat} {fs : List br_FK} {T : u_T} {N : Nat} (hs : br_shps[q]? = some (.inr (ci, fs))) (hc : vwCl[ci]? = some (Y2.1.cls, T, N)) {pc : Nat} {L : List (Option br_V)} {st : List br_V} (hn : As.length = n) (hst : ∀ ad, (st.map (fun v => (br_av ad v).category)).sum ≤ 8) (hd : decode Y.2.1 pc = .ok (.invokevirtual idx, 3)) (kk : ∀ v τ, P2 v τ → G (pc + 3) L (v.toList ++ st) τ) : G pc L (As.reverse ++ br_r q :: st) σ := by
  obtain ⟨p, l, e, R, s, m, args, below, meth, c, cells, slots, Q, D, cI, cZ, ad, A, H0, ⟨hx, hb, hml, hown, hts⟩, ⟨hK, hD, hA, hN⟩, hR, hfin, hG⟩ := C
  rw [hG]
  intro H locs ls hP hS hl'
  obtain ⟨⟨w1, w2, w3⟩, ⟨w4, w5⟩, hcl, hml2⟩ := hvc
  have hn' : ∀ (v : Option br_V) , ((v.map (br_av ad)).toList ++ st.map (br_av ad)) = (v.toList ++ st).map (br_av ad) := fun v => by cases v <;> simp
  have hfree : ∀ x, va_A (br_W cI cZ ad σ) H.size x → A x := fun x hx2 => by
    rcases hx2 with ⟨k, e2, hk⟩ | hge
    · exact (hD σ).2 k _ hk
    · exact hA x (Nat.le_trans hS.1 hge)
  have hroom : (br_room d2).frames + 1 ≤ R.frames ∧ 8 + (Y2.2.2.1 + 11) + (br_room d2).locals ≤ R.locals := by
    have h1 := hR.1
    have h2 := hR.2.1
    simp only [br_room]
    omega
  refine br_callU (va_runV (As := As.map (br_av ad)) (rest := st.map (br_av ad)) (b := ad q) (C := Y2.1.cls) (n := n) ⟨hx, hb, hml, hown, hts⟩ (hM l D cI cZ ad H.size) (cwV n hts (fun w hw => ?_) rfl rfl rfl ⟨rfl, hcl⟩ hroom) ⟨?_, va_recv hK hP (q0 := q) hc (br_W_get hs), ?_⟩ rfl (by rw [List.length_map]; exact hn) hl'.1 (by show List.map (br_av ad) _ = _; simp [br_av]) (lv_room (by rw [List.map_map]; exact hst ad)) hd ⟨by omega, by omega⟩) hS (fun q2 _ h => hfree q2 h) hfree ?_
  · rcases List.mem_append.mp (show w ∈ ([.methodLink Y.1.cls idx Y2.1, .instanceMethod Y2.1, .selects Y2.1.cls Y2.1 Y2.1, .initialized Y2.1.cls] : List Cond) ++ br_ws Y2 from hw) with h | h
    · simp only [List.mem_cons, List.not_mem_nil, or_false] at h
      rcases h with rfl | rfl | rfl | rfl
      · exact ⟨w1, br_W0_good w1⟩
      · exact ⟨w4, br_W0_good w4⟩
      · exact ⟨w5, br_W0_good w5⟩
      · exact ⟨w2, br_W0_good w2⟩
    · exact br_ws_good w3 w h
  · rintro a U g mk ⟨q0, q1, qP, qK, qD, qN⟩
    exact ⟨q0, q1, qP, va_K.moved (u := U) (U := U.calling g mk a) (Vm.Alike.refl U.vm) qK, qD, br_N.same (u := U) (U := U.calling g mk a) rfl qN⟩
  · intro U hU hW
    exact ⟨rfl, by rw [hU], by rw [hU]; exact hP, va_K.moved hW.alike hK, (hD σ).weaken (fun _ _ _ _ => trivial), hN.warm hW⟩
  · intro v τ H1 locs1 hp hP1 hS1
    rw [hn']
    exact (hG _ _ _ _).mp (kk v τ hp) H1 locs1 ls hP1 hS1 hl'
theorem br_callS {Y : br_Y} {d : Nat} {P : br_post} {G : br_Jg} (C : br_Ok Y d P G) {idx : Nat} {Y2 : br_Y} {n d2 : Nat} (hvc : br_sc Y.1.cls idx Y2 n) {As : List br_V} {σ : br_Wd} {P2 : br_post} (hM : br_Met d2 Y2 As σ P2) (hd2 : d2 < d) {pc : Nat} {L : List (Option br_V)} {st : List br_V} (hn : As.length = n) (hst : ∀ ad, (st.map (fun v => (br_av ad v).category)).sum ≤ 8) (hd : decode Y.2.1 pc = .ok (.invokestatic idx, 3)) (kk : ∀ v τ, P2 v τ → G (pc + 3) L (v.toList ++ st) τ) : G pc L (As.reverse ++ st) σ := by
  obtain ⟨p, l, e, R, s, m, args, below, meth, c, cells, slots, Q, D, cI, cZ, ad, A, H0, ⟨hx, hb, hml, hown, hts⟩, ⟨hK, hD, hA, hN⟩, hR, hfin, hG⟩ := C
  rw [hG]
  intro H locs ls hP hS hl'
  obtain ⟨⟨w1, w2, w3⟩, w4, hcl, hml2⟩ := hvc
  have hn' : ∀ (v : Option br_V) , ((v.map (br_av ad)).toList ++ st.map (br_av ad)) = (v.toList ++ st).map (br_av ad) := fun v => by cases v <;> simp
  have hfree : ∀ x, va_A (br_W cI cZ ad σ) H.size x → A x := fun x hx2 => by
    rcases hx2 with ⟨k, e2, hk⟩ | hge
    · exact (hD σ).2 k _ hk
    · exact hA x (Nat.le_trans hS.1 hge)
  have hroom : (br_room d2).frames + 1 ≤ R.frames ∧ 8 + (Y2.2.2.1 + 11) + (br_room d2).locals ≤ R.locals := by
    have h1 := hR.1
    have h2 := hR.2.1
    simp only [br_room]
    omega
  refine br_callU (va_runS (As := As.map (br_av ad)) (rest := st.map (br_av ad)) (n := n) ⟨hx, hb, hml, hown, hts⟩ (hM l D cI cZ ad H.size) ⟨callB_of n hts (br_ws_good w3) rfl rfl rfl (hts _ w2) (hts _ w1) hcl hroom, hts _ w4⟩ ⟨?_, ?_⟩ rfl (by rw [List.length_map]; exact hn) hl'.1 (by show List.map (br_av ad) _ = _; simp [br_av]) (lv_room (by rw [List.map_map]; exact hst ad)) hd ⟨by omega, by omega⟩) hS (fun q2 _ h => hfree q2 h) hfree ?_
  · rintro a U g mk ⟨q0, q1, qP, qK, qD, qN⟩
    exact ⟨q0, q1, qP, va_K.moved (u := U) (U := U.calling g mk a) (Vm.Alike.refl U.vm) qK, qD, br_N.same (u := U) (U := U.calling g mk a) rfl qN⟩
  · intro U hU hW
    exact ⟨rfl, by rw [hU], by rw [hU]; exact hP, va_K.moved hW.alike hK, (hD σ).weaken (fun _ _ _ _ => trivial), hN.warm hW⟩
  · intro v τ H1 locs1 hp hP1 hS1
    rw [hn']
    exact (hG _ _ _ _).mp (kk v τ hp) H1 locs1 ls hP1 hS1 hl'
-- returns
theorem br_ret {Y : br_Y} {d : Nat} {P : br_post} {G : br_Jg} (C : br_Ok Y d P G) {v : Option br_V} {pc : Nat} {L : List (Option br_V)} {σ : br_Wd} (hr : br_isret Y pc v) (hp : P v σ) : G pc L v.toList σ := by
  obtain ⟨p, l, e, R, s, m, args, below, meth, c, cells, slots, Q, D, cI, cZ, ad, A, H0, ⟨hx, hb, hml, hown, hts⟩, ⟨hK, hD, hA, hN⟩, hR, hfin, hG⟩ := C
  rw [hG]
  intro H locs ls hP hS hl'
  have := hfin v σ H locs pc ls hp hP hS hr
  cases v <;> exact this
theorem br_iret {Y : br_Y} {d : Nat} {P : br_post} {G : br_Jg} (C : br_Ok Y d P G) {x : Int32} {pc : Nat} {L : List (Option br_V)} {σ : br_Wd} (hr : Y.2.2.2 = some .int) (hd : decode Y.2.1 pc = .ok (.ireturn, 1)) (hp : P (some (br_i x)) σ) : G pc L [br_i x] σ :=
  br_ret C (v := some (br_i x)) ⟨⟨.int, hr, rfl⟩, hd⟩ hp
theorem br_zret {Y : br_Y} {d : Nat} {P : br_post} {G : br_Jg} (C : br_Ok Y d P G) {x : Int32} {pc : Nat} {L : List (Option br_V)} {σ : br_Wd} (hx : x = 0 ∨ x = 1) (hr : Y.2.2.2 = some .boolean) (hd : decode Y.2.1 pc = .ok (.ireturn, 1)) (hp : P (some (br_i x)) σ) : G pc L [br_i x] σ :=
  br_ret C (v := some (br_i x)) ⟨⟨.boolean, hr, by rcases hx with rfl | rfl <;> decide⟩, hd⟩ hp
theorem br_lret {Y : br_Y} {d : Nat} {P : br_post} {G : br_Jg} (C : br_Ok Y d P G) {x : Int64} {pc : Nat} {L : List (Option br_V)} {σ : br_Wd} (hr : Y.2.2.2 = some .long) (hd : decode Y.2.1 pc = .ok (.lreturn, 1)) (hp : P (some (br_l x)) σ) : G pc L [br_l x] σ :=
  br_ret C (v := some (br_l x)) ⟨hr, hd⟩ hp
theorem br_vret {Y : br_Y} {d : Nat} {P : br_post} {G : br_Jg} (C : br_Ok Y d P G) {pc : Nat} {L : List (Option br_V)} {σ : br_Wd} (hr : Y.2.2.2 = none) (hd : decode Y.2.1 pc = .ok (.return_, 1)) (hp : P none σ) : G pc L [] σ :=
  br_ret C (v := none) ⟨hr, hd⟩ hp
end
