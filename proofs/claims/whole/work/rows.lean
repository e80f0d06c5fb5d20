section
-- ===== PART A: goes FIRST, ahead of the names: the tables' words, and 'selects' of the private methods out of them =====
/-- a private method of a class that the tables say can be made, by its rows of tables_1 -/
def lw_okq (q : MethodName × Nat) : Prop := (q.1.cls ≠ "java/lang/invoke/MethodHandle" ∧ q.1.cls ≠ "java/lang/invoke/VarHandle") ∧ Cond.instantiable q.1.cls q.2 ∈ tables_1 ∧ Cond.privateMethod q.1 ∈ tables_1 ∧ Cond.instanceMethod q.1 ∈ tables_1
theorem lw_p0 : lw_okq (⟨"BarRoutine$Tries", "likelihood", "(II)I"⟩, 5) := ⟨⟨by decide +kernel, by decide +kernel⟩, List.mem_of_getElem? (i := 70) (by decide +kernel), List.mem_of_getElem? (i := 232) (by decide +kernel), List.mem_of_getElem? (i := 233) (by decide +kernel)⟩
theorem lw_p1 : lw_okq (⟨"BarRoutine", "noGym", "()Z"⟩, 13) := ⟨⟨by decide +kernel, by decide +kernel⟩, List.mem_of_getElem? (i := 9) (by decide +kernel), List.mem_of_getElem? (i := 284) (by decide +kernel), List.mem_of_getElem? (i := 285) (by decide +kernel)⟩
theorem lw_p2 : lw_okq (⟨"BarRoutine$Routine", "gained", "(I)I"⟩, 3) := ⟨⟨by decide +kernel, by decide +kernel⟩, List.mem_of_getElem? (i := 53) (by decide +kernel), List.mem_of_getElem? (i := 292) (by decide +kernel), List.mem_of_getElem? (i := 293) (by decide +kernel)⟩
theorem lw_p3 : lw_okq (⟨"BarRoutine$Routine", "joinWorth", "(I)I"⟩, 3) := ⟨⟨by decide +kernel, by decide +kernel⟩, List.mem_of_getElem? (i := 53) (by decide +kernel), List.mem_of_getElem? (i := 297) (by decide +kernel), List.mem_of_getElem? (i := 298) (by decide +kernel)⟩
theorem lw_p4 : lw_okq (⟨"BarRoutine$Routine", "lackingPenalty", "()I"⟩, 3) := ⟨⟨by decide +kernel, by decide +kernel⟩, List.mem_of_getElem? (i := 53) (by decide +kernel), List.mem_of_getElem? (i := 302) (by decide +kernel), List.mem_of_getElem? (i := 303) (by decide +kernel)⟩
theorem lw_p5 : lw_okq (⟨"BarRoutine$Routine", "partsOf", "(I)I"⟩, 3) := ⟨⟨by decide +kernel, by decide +kernel⟩, List.mem_of_getElem? (i := 53) (by decide +kernel), List.mem_of_getElem? (i := 339) (by decide +kernel), List.mem_of_getElem? (i := 340) (by decide +kernel)⟩
theorem lw_p6 : lw_okq (⟨"BarRoutine", "findFinest", "(I)V"⟩, 13) := ⟨⟨by decide +kernel, by decide +kernel⟩, List.mem_of_getElem? (i := 9) (by decide +kernel), List.mem_of_getElem? (i := 351) (by decide +kernel), List.mem_of_getElem? (i := 352) (by decide +kernel)⟩
theorem lw_p7 : lw_okq (⟨"BarRoutine", "picksOf", "(I)I"⟩, 13) := ⟨⟨by decide +kernel, by decide +kernel⟩, List.mem_of_getElem? (i := 9) (by decide +kernel), List.mem_of_getElem? (i := 355) (by decide +kernel), List.mem_of_getElem? (i := 356) (by decide +kernel)⟩
theorem lw_p8 : lw_okq (⟨"BarRoutine", "pickByNumber", "(II)Z"⟩, 13) := ⟨⟨by decide +kernel, by decide +kernel⟩, List.mem_of_getElem? (i := 9) (by decide +kernel), List.mem_of_getElem? (i := 359) (by decide +kernel), List.mem_of_getElem? (i := 360) (by decide +kernel)⟩
theorem lw_p9 : lw_okq (⟨"BarRoutineModel", "faultOf", "()I"⟩, 21) := ⟨⟨by decide +kernel, by decide +kernel⟩, List.mem_of_getElem? (i := 433) (by decide +kernel), List.mem_of_getElem? (i := 519) (by decide +kernel), List.mem_of_getElem? (i := 520) (by decide +kernel)⟩
theorem lw_p10 : lw_okq (⟨"BarRoutineModel", "isPiece", "(I)Z"⟩, 21) := ⟨⟨by decide +kernel, by decide +kernel⟩, List.mem_of_getElem? (i := 433) (by decide +kernel), List.mem_of_getElem? (i := 539) (by decide +kernel), List.mem_of_getElem? (i := 540) (by decide +kernel)⟩
theorem lw_p11 : lw_okq (⟨"BarRoutineModel", "tell", "(II)I"⟩, 21) := ⟨⟨by decide +kernel, by decide +kernel⟩, List.mem_of_getElem? (i := 433) (by decide +kernel), List.mem_of_getElem? (i := 543) (by decide +kernel), List.mem_of_getElem? (i := 544) (by decide +kernel)⟩
theorem lw_p12 : lw_okq (⟨"BarRoutineModel", "placeOf", "(I)I"⟩, 21) := ⟨⟨by decide +kernel, by decide +kernel⟩, List.mem_of_getElem? (i := 433) (by decide +kernel), List.mem_of_getElem? (i := 547) (by decide +kernel), List.mem_of_getElem? (i := 548) (by decide +kernel)⟩
theorem lw_p13 : lw_okq (⟨"BarRoutineModel", "tenthsOf", "(II)I"⟩, 21) := ⟨⟨by decide +kernel, by decide +kernel⟩, List.mem_of_getElem? (i := 433) (by decide +kernel), List.mem_of_getElem? (i := 551) (by decide +kernel), List.mem_of_getElem? (i := 552) (by decide +kernel)⟩
theorem lw_p14 : lw_okq (⟨"BarRoutineModel", "sureOf", "(I)I"⟩, 21) := ⟨⟨by decide +kernel, by decide +kernel⟩, List.mem_of_getElem? (i := 433) (by decide +kernel), List.mem_of_getElem? (i := 558) (by decide +kernel), List.mem_of_getElem? (i := 559) (by decide +kernel)⟩
theorem lw_p15 : lw_okq (⟨"BarRoutineModel", "triedWays", "(II)J"⟩, 21) := ⟨⟨by decide +kernel, by decide +kernel⟩, List.mem_of_getElem? (i := 433) (by decide +kernel), List.mem_of_getElem? (i := 562) (by decide +kernel), List.mem_of_getElem? (i := 563) (by decide +kernel)⟩
def lw_privs_1 : List (MethodName × Nat) := [(⟨"BarRoutine$Tries", "likelihood", "(II)I"⟩, 5), (⟨"BarRoutine", "noGym", "()Z"⟩, 13), (⟨"BarRoutine$Routine", "gained", "(I)I"⟩, 3), (⟨"BarRoutine$Routine", "joinWorth", "(I)I"⟩, 3), (⟨"BarRoutine$Routine", "lackingPenalty", "()I"⟩, 3), (⟨"BarRoutine$Routine", "partsOf", "(I)I"⟩, 3), (⟨"BarRoutine", "findFinest", "(I)V"⟩, 13), (⟨"BarRoutine", "picksOf", "(I)I"⟩, 13), (⟨"BarRoutine", "pickByNumber", "(II)Z"⟩, 13), (⟨"BarRoutineModel", "faultOf", "()I"⟩, 21), (⟨"BarRoutineModel", "isPiece", "(I)Z"⟩, 21), (⟨"BarRoutineModel", "tell", "(II)I"⟩, 21), (⟨"BarRoutineModel", "placeOf", "(I)I"⟩, 21), (⟨"BarRoutineModel", "tenthsOf", "(II)I"⟩, 21), (⟨"BarRoutineModel", "sureOf", "(I)I"⟩, 21), (⟨"BarRoutineModel", "triedWays", "(II)J"⟩, 21)]
theorem lw_r1 : ∀ q ∈ lw_privs_1, lw_okq q := List.forall_mem_cons.mpr ⟨lw_p0, List.forall_mem_cons.mpr ⟨lw_p1, List.forall_mem_cons.mpr ⟨lw_p2, List.forall_mem_cons.mpr ⟨lw_p3, List.forall_mem_cons.mpr ⟨lw_p4, List.forall_mem_cons.mpr ⟨lw_p5, List.forall_mem_cons.mpr ⟨lw_p6, List.forall_mem_cons.mpr ⟨lw_p7, List.forall_mem_cons.mpr ⟨lw_p8, List.forall_mem_cons.mpr ⟨lw_p9, List.forall_mem_cons.mpr ⟨lw_p10, List.forall_mem_cons.mpr ⟨lw_p11, List.forall_mem_cons.mpr ⟨lw_p12, List.forall_mem_cons.mpr ⟨lw_p13, List.forall_mem_cons.mpr ⟨lw_p14, List.forall_mem_cons.mpr ⟨lw_p15, fun _ h => absurd h List.not_mem_nil⟩⟩⟩⟩⟩⟩⟩⟩⟩⟩⟩⟩⟩⟩⟩⟩
theorem lw_p16 : lw_okq (⟨"BarRoutineModel", "likelyOf", "(I)I"⟩, 21) := ⟨⟨by decide +kernel, by decide +kernel⟩, List.mem_of_getElem? (i := 433) (by decide +kernel), List.mem_of_getElem? (i := 566) (by decide +kernel), List.mem_of_getElem? (i := 567) (by decide +kernel)⟩
theorem lw_p17 : lw_okq (⟨"BarRoutineModel", "isPlace", "(I)Z"⟩, 21) := ⟨⟨by decide +kernel, by decide +kernel⟩, List.mem_of_getElem? (i := 433) (by decide +kernel), List.mem_of_getElem? (i := 583) (by decide +kernel), List.mem_of_getElem? (i := 584) (by decide +kernel)⟩
theorem lw_p18 : lw_okq (⟨"BarRoutineModel", "lacks", "()Z"⟩, 21) := ⟨⟨by decide +kernel, by decide +kernel⟩, List.mem_of_getElem? (i := 433) (by decide +kernel), List.mem_of_getElem? (i := 599) (by decide +kernel), List.mem_of_getElem? (i := 600) (by decide +kernel)⟩
theorem lw_p19 : lw_okq (⟨"BarRoutineModel", "scoreOf", "([III)I"⟩, 21) := ⟨⟨by decide +kernel, by decide +kernel⟩, List.mem_of_getElem? (i := 433) (by decide +kernel), List.mem_of_getElem? (i := 603) (by decide +kernel), List.mem_of_getElem? (i := 604) (by decide +kernel)⟩
theorem lw_p20 : lw_okq (⟨"BarRoutineModel", "isFlight", "(I)Z"⟩, 21) := ⟨⟨by decide +kernel, by decide +kernel⟩, List.mem_of_getElem? (i := 433) (by decide +kernel), List.mem_of_getElem? (i := 607) (by decide +kernel), List.mem_of_getElem? (i := 608) (by decide +kernel)⟩
theorem lw_p21 : lw_okq (⟨"BarRoutineModel", "isTurn", "(I)Z"⟩, 21) := ⟨⟨by decide +kernel, by decide +kernel⟩, List.mem_of_getElem? (i := 433) (by decide +kernel), List.mem_of_getElem? (i := 611) (by decide +kernel), List.mem_of_getElem? (i := 612) (by decide +kernel)⟩
theorem lw_p22 : lw_okq (⟨"BarRoutineModel", "joins", "([III)Z"⟩, 21) := ⟨⟨by decide +kernel, by decide +kernel⟩, List.mem_of_getElem? (i := 433) (by decide +kernel), List.mem_of_getElem? (i := 615) (by decide +kernel), List.mem_of_getElem? (i := 616) (by decide +kernel)⟩
theorem lw_p23 : lw_okq (⟨"BarRoutineModel", "meanOf", "([III)I"⟩, 21) := ⟨⟨by decide +kernel, by decide +kernel⟩, List.mem_of_getElem? (i := 433) (by decide +kernel), List.mem_of_getElem? (i := 623) (by decide +kernel), List.mem_of_getElem? (i := 624) (by decide +kernel)⟩
theorem lw_p24 : lw_okq (⟨"BarRoutineModel", "meanUp", "([II)I"⟩, 21) := ⟨⟨by decide +kernel, by decide +kernel⟩, List.mem_of_getElem? (i := 433) (by decide +kernel), List.mem_of_getElem? (i := 627) (by decide +kernel), List.mem_of_getElem? (i := 628) (by decide +kernel)⟩
theorem lw_p25 : lw_okq (⟨"BarRoutineModel", "waysOf", "([III)I"⟩, 21) := ⟨⟨by decide +kernel, by decide +kernel⟩, List.mem_of_getElem? (i := 433) (by decide +kernel), List.mem_of_getElem? (i := 631) (by decide +kernel), List.mem_of_getElem? (i := 632) (by decide +kernel)⟩
theorem lw_p26 : lw_okq (⟨"BarRoutineModel", "oddsOf", "(II)I"⟩, 21) := ⟨⟨by decide +kernel, by decide +kernel⟩, List.mem_of_getElem? (i := 433) (by decide +kernel), List.mem_of_getElem? (i := 647) (by decide +kernel), List.mem_of_getElem? (i := 648) (by decide +kernel)⟩
theorem lw_p27 : lw_okq (⟨"BarRoutineModel", "oddsUp", "([III)I"⟩, 21) := ⟨⟨by decide +kernel, by decide +kernel⟩, List.mem_of_getElem? (i := 433) (by decide +kernel), List.mem_of_getElem? (i := 651) (by decide +kernel), List.mem_of_getElem? (i := 652) (by decide +kernel)⟩
theorem lw_p28 : lw_okq (⟨"BarRoutineModel", "bestOf", "(II)I"⟩, 21) := ⟨⟨by decide +kernel, by decide +kernel⟩, List.mem_of_getElem? (i := 433) (by decide +kernel), List.mem_of_getElem? (i := 662) (by decide +kernel), List.mem_of_getElem? (i := 663) (by decide +kernel)⟩
theorem lw_p29 : lw_okq (⟨"BarRoutineModel", "layRow", "(II)Z"⟩, 21) := ⟨⟨by decide +kernel, by decide +kernel⟩, List.mem_of_getElem? (i := 433) (by decide +kernel), List.mem_of_getElem? (i := 666) (by decide +kernel), List.mem_of_getElem? (i := 667) (by decide +kernel)⟩
theorem lw_p30 : lw_okq (⟨"BarRoutineModel", "moreOf", "(I)I"⟩, 21) := ⟨⟨by decide +kernel, by decide +kernel⟩, List.mem_of_getElem? (i := 433) (by decide +kernel), List.mem_of_getElem? (i := 677) (by decide +kernel), List.mem_of_getElem? (i := 678) (by decide +kernel)⟩
theorem lw_p31 : lw_okq (⟨"BarRoutineModel", "draw", "(I)I"⟩, 21) := ⟨⟨by decide +kernel, by decide +kernel⟩, List.mem_of_getElem? (i := 433) (by decide +kernel), List.mem_of_getElem? (i := 695) (by decide +kernel), List.mem_of_getElem? (i := 696) (by decide +kernel)⟩
def lw_privs_2 : List (MethodName × Nat) := [(⟨"BarRoutineModel", "likelyOf", "(I)I"⟩, 21), (⟨"BarRoutineModel", "isPlace", "(I)Z"⟩, 21), (⟨"BarRoutineModel", "lacks", "()Z"⟩, 21), (⟨"BarRoutineModel", "scoreOf", "([III)I"⟩, 21), (⟨"BarRoutineModel", "isFlight", "(I)Z"⟩, 21), (⟨"BarRoutineModel", "isTurn", "(I)Z"⟩, 21), (⟨"BarRoutineModel", "joins", "([III)Z"⟩, 21), (⟨"BarRoutineModel", "meanOf", "([III)I"⟩, 21), (⟨"BarRoutineModel", "meanUp", "([II)I"⟩, 21), (⟨"BarRoutineModel", "waysOf", "([III)I"⟩, 21), (⟨"BarRoutineModel", "oddsOf", "(II)I"⟩, 21), (⟨"BarRoutineModel", "oddsUp", "([III)I"⟩, 21), (⟨"BarRoutineModel", "bestOf", "(II)I"⟩, 21), (⟨"BarRoutineModel", "layRow", "(II)Z"⟩, 21), (⟨"BarRoutineModel", "moreOf", "(I)I"⟩, 21), (⟨"BarRoutineModel", "draw", "(I)I"⟩, 21)]
theorem lw_r2 : ∀ q ∈ lw_privs_2, lw_okq q := List.forall_mem_cons.mpr ⟨lw_p16, List.forall_mem_cons.mpr ⟨lw_p17, List.forall_mem_cons.mpr ⟨lw_p18, List.forall_mem_cons.mpr ⟨lw_p19, List.forall_mem_cons.mpr ⟨lw_p20, List.forall_mem_cons.mpr ⟨lw_p21, List.forall_mem_cons.mpr ⟨lw_p22, List.forall_mem_cons.mpr ⟨lw_p23, List.forall_mem_cons.mpr ⟨lw_p24, List.forall_mem_cons.mpr ⟨lw_p25, List.forall_mem_cons.mpr ⟨lw_p26, List.forall_mem_cons.mpr ⟨lw_p27, List.forall_mem_cons.mpr ⟨lw_p28, List.forall_mem_cons.mpr ⟨lw_p29, List.forall_mem_cons.mpr ⟨lw_p30, List.forall_mem_cons.mpr ⟨lw_p31, fun _ h => absurd h List.not_mem_nil⟩⟩⟩⟩⟩⟩⟩⟩⟩⟩⟩⟩⟩⟩⟩⟩
theorem lw_p32 : lw_okq (⟨"BarRoutineModel", "countOf", "(I)I"⟩, 21) := ⟨⟨by decide +kernel, by decide +kernel⟩, List.mem_of_getElem? (i := 433) (by decide +kernel), List.mem_of_getElem? (i := 715) (by decide +kernel), List.mem_of_getElem? (i := 716) (by decide +kernel)⟩
theorem lw_p33 : lw_okq (⟨"BarRoutineModel", "flightsIn", "()I"⟩, 21) := ⟨⟨by decide +kernel, by decide +kernel⟩, List.mem_of_getElem? (i := 433) (by decide +kernel), List.mem_of_getElem? (i := 719) (by decide +kernel), List.mem_of_getElem? (i := 720) (by decide +kernel)⟩
theorem lw_p34 : lw_okq (⟨"BarRoutineModel", "turnsIn", "()I"⟩, 21) := ⟨⟨by decide +kernel, by decide +kernel⟩, List.mem_of_getElem? (i := 433) (by decide +kernel), List.mem_of_getElem? (i := 723) (by decide +kernel), List.mem_of_getElem? (i := 724) (by decide +kernel)⟩
theorem lw_p35 : lw_okq (⟨"BarRoutineModel", "joinsIn", "()I"⟩, 21) := ⟨⟨by decide +kernel, by decide +kernel⟩, List.mem_of_getElem? (i := 433) (by decide +kernel), List.mem_of_getElem? (i := 727) (by decide +kernel), List.mem_of_getElem? (i := 728) (by decide +kernel)⟩
theorem lw_p36 : lw_okq (⟨"BarRoutineModel", "say", "(J)V"⟩, 21) := ⟨⟨by decide +kernel, by decide +kernel⟩, List.mem_of_getElem? (i := 433) (by decide +kernel), List.mem_of_getElem? (i := 736) (by decide +kernel), List.mem_of_getElem? (i := 737) (by decide +kernel)⟩
def lw_privs_3 : List (MethodName × Nat) := [(⟨"BarRoutineModel", "countOf", "(I)I"⟩, 21), (⟨"BarRoutineModel", "flightsIn", "()I"⟩, 21), (⟨"BarRoutineModel", "turnsIn", "()I"⟩, 21), (⟨"BarRoutineModel", "joinsIn", "()I"⟩, 21), (⟨"BarRoutineModel", "say", "(J)V"⟩, 21)]
theorem lw_r3 : ∀ q ∈ lw_privs_3, lw_okq q := List.forall_mem_cons.mpr ⟨lw_p32, List.forall_mem_cons.mpr ⟨lw_p33, List.forall_mem_cons.mpr ⟨lw_p34, List.forall_mem_cons.mpr ⟨lw_p35, List.forall_mem_cons.mpr ⟨lw_p36, fun _ h => absurd h List.not_mem_nil⟩⟩⟩⟩⟩
def lw_privs : List (MethodName × Nat) := lw_privs_1 ++ (lw_privs_2 ++ (lw_privs_3))
def lw_tbl : List Cond := k2_sels lw_privs ++ tables_1
theorem lw_privs_ok : ∀ q ∈ lw_privs, lw_okq q := by
  show ∀ q ∈ lw_privs_1 ++ (lw_privs_2 ++ (lw_privs_3)), lw_okq q
  exact List.forall_mem_append.mpr ⟨lw_r1, List.forall_mem_append.mpr ⟨lw_r2, lw_r3⟩⟩
-- ===== end of PART A; then your names; then what follows =====
/-! ===== BEGIN words of one list among another's, by their places ===== -/
theorem goodIn_r {big : List Cond} (ws : List Cond) (ps : List Nat) (hp : ws = ps.filterMap (fun i => big[i]?)) (h : ws.all goodWord = true) : GoodIn big ws := by
  intro w hw
  have h1 := List.all_eq_true.mp h w hw
  rw [hp] at hw
  obtain ⟨i, -, hi⟩ := List.mem_filterMap.mp hw
  have hm : w ∈ big := by first | exact List.mem_of_getElem? hi | exact List.getElem?_mem hi
  exact ⟨hm, good_of_word h1⟩
theorem goodIn_app {big a b : List Cond} (ha : GoodIn big a) (hb : GoodIn big b) : GoodIn big (a ++ b) := fun w h => (List.mem_append.mp h).elim (ha w) (hb w)
theorem goodIn_ca {big a b : List Cond} {c : Cond} (ha : GoodIn big (c :: a)) (hb : GoodIn big b) : GoodIn big (c :: (a ++ b)) := fun w h => (List.mem_cons.mp h).elim (fun e => ha w (List.mem_cons.mpr (Or.inl e))) (fun h => (List.mem_append.mp h).elim (fun h => ha w (List.mem_cons.mpr (Or.inr h))) (hb w))
theorem goodIn_sub {big ws : List Cond} (hm : ∀ w ∈ ws, w ∈ big) (h : ws.all goodWord = true) : GoodIn big ws := fun w hw => ⟨hm w hw, good_of_word (List.all_eq_true.mp h w hw)⟩
/-! ===== END ===== -/

/-! ===== BEGIN printed: names, fields, word lists, decode rows ===== -/
def RX0 : String := "BarRoutine$Gym"
def TX0 : u_T := fun k => match k with
  | 0 => ("BarRoutine$Gym", "kinds", "[I", true)
  | 1 => ("BarRoutine$Gym", "worths", "[I", true)
  | 2 => ("BarRoutine$Gym", "sures", "[I", true)
  | _ => ("BarRoutine$Gym", "size", "I", false)
def tyX0 : Nat → FieldType := fun k => match k with
  | 0 => .array .int
  | 1 => .array .int
  | 2 => .array .int
  | _ => .int
abbrev wsX00 : List Cond := u_ws RX0 TX0 4
theorem nmX0 : ∀ a, a < 4 → ∀ b, b < 4 → a ≠ b → (TX0 a).2.1 ≠ (TX0 b).2.1 := by decide +kernel
theorem tyX0_ok : ∀ k, k < 4 → parseFieldDescriptor (TX0 k).2.2.1 = some (tyX0 k) := by decide +kernel
abbrev cX0_init : ByteArray := prog_2_method_1_code
def yX0_init : MethodName := ⟨RX0, "<init>", "()V"⟩
abbrev cX0_read : ByteArray := prog_2_method_2_code
def yX0_read : MethodName := ⟨RX0, "read", "(LBarRoutine$Page;)V"⟩
abbrev cX0_has : ByteArray := prog_2_method_3_code
def yX0_has : MethodName := ⟨RX0, "has", "(I)Z"⟩
abbrev cX0_kindOf : ByteArray := prog_2_method_4_code
def yX0_kindOf : MethodName := ⟨RX0, "kindOf", "(I)I"⟩
abbrev cX0_worthOf : ByteArray := prog_2_method_5_code
def yX0_worthOf : MethodName := ⟨RX0, "worthOf", "(I)I"⟩
abbrev cX0_sureOf : ByteArray := prog_2_method_6_code
def yX0_sureOf : MethodName := ⟨RX0, "sureOf", "(I)I"⟩
abbrev cX0_isA : ByteArray := prog_2_method_7_code
def yX0_isA : MethodName := ⟨RX0, "isA", "(II)Z"⟩
def RX1 : String := "BarRoutine$Page"
def TX1 : u_T := fun k => match k with
  | 0 => ("BarRoutine$Page", "codes", "[I", true)
  | _ => ("BarRoutine$Page", "length", "I", false)
def tyX1 : Nat → FieldType := fun k => match k with
  | 0 => .array .int
  | _ => .int
abbrev wsX10 : List Cond := u_ws RX1 TX1 2
theorem nmX1 : ∀ a, a < 2 → ∀ b, b < 2 → a ≠ b → (TX1 a).2.1 ≠ (TX1 b).2.1 := by decide +kernel
theorem tyX1_ok : ∀ k, k < 2 → parseFieldDescriptor (TX1 k).2.2.1 = some (tyX1 k) := by decide +kernel
abbrev cX1_init : ByteArray := prog_3_method_1_code
def yX1_init : MethodName := ⟨RX1, "<init>", "()V"⟩
abbrev cX1_add : ByteArray := prog_3_method_2_code
def yX1_add : MethodName := ⟨RX1, "add", "(I)V"⟩
abbrev cX1_codeAt : ByteArray := prog_3_method_3_code
def yX1_codeAt : MethodName := ⟨RX1, "codeAt", "(I)I"⟩
abbrev cX1_firstFault : ByteArray := prog_3_method_4_code
def yX1_firstFault : MethodName := ⟨RX1, "firstFault", "()I"⟩
abbrev cX1_tellsGym : ByteArray := prog_3_method_5_code
def yX1_tellsGym : MethodName := ⟨RX1, "tellsGym", "()Z"⟩
abbrev cX1_fits : ByteArray := prog_3_method_6_code
def yX1_fits : MethodName := ⟨RX1, "fits", "(II)Z"⟩
abbrev cX1_kindByLetter : ByteArray := prog_3_method_7_code
def yX1_kindByLetter : MethodName := ⟨RX1, "kindByLetter", "(I)I"⟩
def RX2 : String := "BarRoutine$Routine"
def TX2 : u_T := fun k => match k with
  | 0 => ("BarRoutine$Routine", "gym", "LBarRoutine$Gym;", true)
  | 1 => ("BarRoutine$Routine", "pieces", "[I", true)
  | _ => ("BarRoutine$Routine", "size", "I", false)
def tyX2 : Nat → FieldType := fun k => match k with
  | 0 => .object "BarRoutine$Gym"
  | 1 => .array .int
  | _ => .int
abbrev wsX20 : List Cond := u_ws RX2 TX2 3
theorem nmX2 : ∀ a, a < 3 → ∀ b, b < 3 → a ≠ b → (TX2 a).2.1 ≠ (TX2 b).2.1 := by decide +kernel
theorem tyX2_ok : ∀ k, k < 3 → parseFieldDescriptor (TX2 k).2.2.1 = some (tyX2 k) := by decide +kernel
abbrev cX2_init : ByteArray := prog_4_method_1_code
def yX2_init : MethodName := ⟨RX2, "<init>", "(LBarRoutine$Gym;)V"⟩
abbrev cX2_reaches : ByteArray := prog_4_method_2_code
def yX2_reaches : MethodName := ⟨RX2, "reaches", "(I)Z"⟩
abbrev cX2_pieceAt : ByteArray := prog_4_method_3_code
def yX2_pieceAt : MethodName := ⟨RX2, "pieceAt", "(I)I"⟩
abbrev cX2_placeOf : ByteArray := prog_4_method_4_code
def yX2_placeOf : MethodName := ⟨RX2, "placeOf", "(I)I"⟩
abbrev cX2_holds : ByteArray := prog_4_method_5_code
def yX2_holds : MethodName := ⟨RX2, "holds", "(I)Z"⟩
abbrev cX2_append : ByteArray := prog_4_method_6_code
def yX2_append : MethodName := ⟨RX2, "append", "(I)V"⟩
abbrev cX2_removeAt : ByteArray := prog_4_method_7_code
def yX2_removeAt : MethodName := ⟨RX2, "removeAt", "(I)I"⟩
abbrev cX2_exchange : ByteArray := prog_4_method_8_code
def yX2_exchange : MethodName := ⟨RX2, "exchange", "(II)V"⟩
abbrev cX2_copyFrom : ByteArray := prog_4_method_9_code
def yX2_copyFrom : MethodName := ⟨RX2, "copyFrom", "(LBarRoutine$Routine;)V"⟩
abbrev cX2_howMany : ByteArray := prog_4_method_10_code
def yX2_howMany : MethodName := ⟨RX2, "howMany", "(I)I"⟩
abbrev cX2_joins : ByteArray := prog_4_method_11_code
def yX2_joins : MethodName := ⟨RX2, "joins", "()I"⟩
abbrev cX2_joinWorth : ByteArray := prog_4_method_12_code
def yX2_joinWorth : MethodName := ⟨RX2, "joinWorth", "(I)I"⟩
abbrev cX2_lackingPenalty : ByteArray := prog_4_method_13_code
def yX2_lackingPenalty : MethodName := ⟨RX2, "lackingPenalty", "()I"⟩
abbrev cX2_chanceAt : ByteArray := prog_4_method_14_code
def yX2_chanceAt : MethodName := ⟨RX2, "chanceAt", "(I)I"⟩
abbrev cX2_points : ByteArray := prog_4_method_15_code
def yX2_points : MethodName := ⟨RX2, "points", "(I)I"⟩
abbrev cX2_gained : ByteArray := prog_4_method_16_code
def yX2_gained : MethodName := ⟨RX2, "gained", "(I)I"⟩
abbrev cX2_meanInHundredths : ByteArray := prog_4_method_17_code
def yX2_meanInHundredths : MethodName := ⟨RX2, "meanInHundredths", "()I"⟩
abbrev cX2_allParts : ByteArray := prog_4_method_18_code
def yX2_allParts : MethodName := ⟨RX2, "allParts", "()I"⟩
abbrev cX2_partsWith : ByteArray := prog_4_method_19_code
def yX2_partsWith : MethodName := ⟨RX2, "partsWith", "(I)I"⟩
abbrev cX2_partsOf : ByteArray := prog_4_method_20_code
def yX2_partsOf : MethodName := ⟨RX2, "partsOf", "(I)I"⟩
def RX3 : String := "BarRoutine$Tries"
def TX3 : u_T := fun k => match k with
  | 0 => ("BarRoutine$Tries", "gym", "LBarRoutine$Gym;", true)
  | 1 => ("BarRoutine$Tries", "pieces", "[I", true)
  | 2 => ("BarRoutine$Tries", "behinds", "[I", true)
  | 3 => ("BarRoutine$Tries", "successes", "[Z", true)
  | _ => ("BarRoutine$Tries", "size", "I", false)
def tyX3 : Nat → FieldType := fun k => match k with
  | 0 => .object "BarRoutine$Gym"
  | 1 => .array .int
  | 2 => .array .int
  | 3 => .array .boolean
  | _ => .int
abbrev wsX30 : List Cond := u_ws RX3 TX3 5
theorem nmX3 : ∀ a, a < 5 → ∀ b, b < 5 → a ≠ b → (TX3 a).2.1 ≠ (TX3 b).2.1 := by decide +kernel
theorem tyX3_ok : ∀ k, k < 5 → parseFieldDescriptor (TX3 k).2.2.1 = some (tyX3 k) := by decide +kernel
abbrev cX3_init : ByteArray := prog_5_method_1_code
def yX3_init : MethodName := ⟨RX3, "<init>", "(LBarRoutine$Gym;)V"⟩
abbrev cX3_add : ByteArray := prog_5_method_2_code
def yX3_add : MethodName := ⟨RX3, "add", "(IIZ)V"⟩
abbrev cX3_copyFrom : ByteArray := prog_5_method_3_code
def yX3_copyFrom : MethodName := ⟨RX3, "copyFrom", "(LBarRoutine$Tries;)V"⟩
abbrev cX3_possibleSures : ByteArray := prog_5_method_4_code
def yX3_possibleSures : MethodName := ⟨RX3, "possibleSures", "(I)I"⟩
abbrev cX3_likeliestSure : ByteArray := prog_5_method_5_code
def yX3_likeliestSure : MethodName := ⟨RX3, "likeliestSure", "(I)I"⟩
abbrev cX3_likelihood : ByteArray := prog_5_method_6_code
def yX3_likelihood : MethodName := ⟨RX3, "likelihood", "(II)I"⟩
def RX4 : String := "BarRoutine"
def TX4 : u_T := fun k => match k with
  | 0 => ("BarRoutine", "page", "LBarRoutine$Page;", true)
  | 1 => ("BarRoutine", "gym", "LBarRoutine$Gym;", true)
  | 2 => ("BarRoutine", "routine", "LBarRoutine$Routine;", true)
  | 3 => ("BarRoutine", "tries", "LBarRoutine$Tries;", true)
  | 4 => ("BarRoutine", "changes", "I", false)
  | 5 => ("BarRoutine", "imageKept", "Z", false)
  | 6 => ("BarRoutine", "imageRoutine", "LBarRoutine$Routine;", true)
  | 7 => ("BarRoutine", "imageTries", "LBarRoutine$Tries;", true)
  | 8 => ("BarRoutine", "imageChanges", "I", false)
  | 9 => ("BarRoutine", "trial", "LBarRoutine$Routine;", true)
  | 10 => ("BarRoutine", "finest", "LBarRoutine$Routine;", true)
  | 11 => ("BarRoutine", "gymsRead", "I", false)
  | _ => ("BarRoutine", "bestsDone", "I", false)
def tyX4 : Nat → FieldType := fun k => match k with
  | 0 => .object "BarRoutine$Page"
  | 1 => .object "BarRoutine$Gym"
  | 2 => .object "BarRoutine$Routine"
  | 3 => .object "BarRoutine$Tries"
  | 4 => .int
  | 5 => .boolean
  | 6 => .object "BarRoutine$Routine"
  | 7 => .object "BarRoutine$Tries"
  | 8 => .int
  | 9 => .object "BarRoutine$Routine"
  | 10 => .object "BarRoutine$Routine"
  | 11 => .int
  | _ => .int
abbrev wsX40 : List Cond := u_ws RX4 TX4 13
theorem nmX4 : ∀ a, a < 13 → ∀ b, b < 13 → a ≠ b → (TX4 a).2.1 ≠ (TX4 b).2.1 := by decide +kernel
theorem tyX4_ok : ∀ k, k < 13 → parseFieldDescriptor (TX4 k).2.2.1 = some (tyX4 k) := by decide +kernel
abbrev cX4_init : ByteArray := prog_1_method_1_code
def yX4_init : MethodName := ⟨RX4, "<init>", "()V"⟩
abbrev cX4_letter : ByteArray := prog_1_method_2_code
def yX4_letter : MethodName := ⟨RX4, "letter", "(I)I"⟩
abbrev cX4_blank : ByteArray := prog_1_method_3_code
def yX4_blank : MethodName := ⟨RX4, "blank", "()I"⟩
abbrev cX4_fault : ByteArray := prog_1_method_4_code
def yX4_fault : MethodName := ⟨RX4, "fault", "()I"⟩
abbrev cX4_gym : ByteArray := prog_1_method_5_code
def yX4_gym : MethodName := ⟨RX4, "gym", "()I"⟩
abbrev cX4_piece : ByteArray := prog_1_method_6_code
def yX4_piece : MethodName := ⟨RX4, "piece", "(II)I"⟩
abbrev cX4_as : ByteArray := prog_1_method_7_code
def yX4_as : MethodName := ⟨RX4, "as", "(II)I"⟩
abbrev cX4_put : ByteArray := prog_1_method_8_code
def yX4_put : MethodName := ⟨RX4, "put", "(I)I"⟩
abbrev cX4_take : ByteArray := prog_1_method_9_code
def yX4_take : MethodName := ⟨RX4, "take", "(I)I"⟩
abbrev cX4_swap : ByteArray := prog_1_method_10_code
def yX4_swap : MethodName := ⟨RX4, "swap", "(II)I"⟩
abbrev cX4_at : ByteArray := prog_1_method_11_code
def yX4_at : MethodName := ⟨RX4, "at", "(I)I"⟩
abbrev cX4_score : ByteArray := prog_1_method_12_code
def yX4_score : MethodName := ⟨RX4, "score", "(I)I"⟩
abbrev cX4_mean : ByteArray := prog_1_method_13_code
def yX4_mean : MethodName := ⟨RX4, "mean", "(I)I"⟩
abbrev cX4_odds : ByteArray := prog_1_method_14_code
def yX4_odds : MethodName := ⟨RX4, "odds", "(II)I"⟩
abbrev cX4_best : ByteArray := prog_1_method_15_code
def yX4_best : MethodName := ⟨RX4, "best", "(II)I"⟩
abbrev cX4_more : ByteArray := prog_1_method_16_code
def yX4_more : MethodName := ⟨RX4, "more", "(I)I"⟩
abbrev cX4_tryIt : ByteArray := prog_1_method_17_code
def yX4_tryIt : MethodName := ⟨RX4, "tryIt", "(IIZ)I"⟩
abbrev cX4_forget : ByteArray := prog_1_method_18_code
def yX4_forget : MethodName := ⟨RX4, "forget", "()I"⟩
abbrev cX4_meets : ByteArray := prog_1_method_19_code
def yX4_meets : MethodName := ⟨RX4, "meets", "(III)I"⟩
abbrev cX4_image : ByteArray := prog_1_method_20_code
def yX4_image : MethodName := ⟨RX4, "image", "()I"⟩
abbrev cX4_restore : ByteArray := prog_1_method_21_code
def yX4_restore : MethodName := ⟨RX4, "restore", "()I"⟩
abbrev cX4_count : ByteArray := prog_1_method_22_code
def yX4_count : MethodName := ⟨RX4, "count", "(I)I"⟩
abbrev cX4_digest : ByteArray := prog_1_method_23_code
def yX4_digest : MethodName := ⟨RX4, "digest", "()J"⟩
abbrev cX4_noGym : ByteArray := prog_1_method_24_code
def yX4_noGym : MethodName := ⟨RX4, "noGym", "()Z"⟩
abbrev cX4_isScore : ByteArray := prog_1_method_25_code
def yX4_isScore : MethodName := ⟨RX4, "isScore", "(I)Z"⟩
abbrev cX4_asksAboveOrBelow : ByteArray := prog_1_method_26_code
def yX4_asksAboveOrBelow : MethodName := ⟨RX4, "asksAboveOrBelow", "(I)Z"⟩
abbrev cX4_mixed : ByteArray := prog_1_method_27_code
def yX4_mixed : MethodName := ⟨RX4, "mixed", "(JJ)J"⟩
abbrev cX4_nextSeed : ByteArray := prog_1_method_28_code
def yX4_nextSeed : MethodName := ⟨RX4, "nextSeed", "(I)I"⟩
abbrev cX4_drawOfTen : ByteArray := prog_1_method_29_code
def yX4_drawOfTen : MethodName := ⟨RX4, "drawOfTen", "(I)I"⟩
abbrev cX4_inLowestTerms : ByteArray := prog_1_method_30_code
def yX4_inLowestTerms : MethodName := ⟨RX4, "inLowestTerms", "(III)I"⟩
abbrev cX4_commonDivisor : ByteArray := prog_1_method_31_code
def yX4_commonDivisor : MethodName := ⟨RX4, "commonDivisor", "(II)I"⟩
abbrev cX4_findFinest : ByteArray := prog_1_method_32_code
def yX4_findFinest : MethodName := ⟨RX4, "findFinest", "(I)V"⟩
abbrev cX4_picksOf : ByteArray := prog_1_method_33_code
def yX4_picksOf : MethodName := ⟨RX4, "picksOf", "(I)I"⟩
abbrev cX4_pickByNumber : ByteArray := prog_1_method_34_code
def yX4_pickByNumber : MethodName := ⟨RX4, "pickByNumber", "(II)Z"⟩
abbrev cX4_chanceOf : ByteArray := prog_1_method_35_code
def yX4_chanceOf : MethodName := ⟨RX4, "chanceOf", "(III)I"⟩
def RX5 : String := "BarRoutineModel"
def TX5 : u_T := fun k => match k with
  | 0 => ("BarRoutineModel", "page", "[I", true)
  | 1 => ("BarRoutineModel", "pageMany", "I", false)
  | 2 => ("BarRoutineModel", "pieces", "I", false)
  | 3 => ("BarRoutineModel", "changes", "I", false)
  | 4 => ("BarRoutineModel", "gymsRead", "I", false)
  | 5 => ("BarRoutineModel", "rows", "[I", true)
  | 6 => ("BarRoutineModel", "routine", "[I", true)
  | 7 => ("BarRoutineModel", "places", "I", false)
  | 8 => ("BarRoutineModel", "bestDone", "I", false)
  | 9 => ("BarRoutineModel", "row", "[I", true)
  | 10 => ("BarRoutineModel", "bestRow", "[I", true)
  | 11 => ("BarRoutineModel", "triedMany", "I", false)
  | 12 => ("BarRoutineModel", "tries", "[I", true)
  | 13 => ("BarRoutineModel", "seedNow", "I", false)
  | 14 => ("BarRoutineModel", "keptGym", "I", false)
  | 15 => ("BarRoutineModel", "keptPlaces", "I", false)
  | 16 => ("BarRoutineModel", "keptChanges", "I", false)
  | 17 => ("BarRoutineModel", "keptTried", "I", false)
  | 18 => ("BarRoutineModel", "keptRoutine", "[I", true)
  | 19 => ("BarRoutineModel", "keptTries", "[I", true)
  | _ => ("BarRoutineModel", "hash", "J", false)
def tyX5 : Nat → FieldType := fun k => match k with
  | 0 => .array .int
  | 1 => .int
  | 2 => .int
  | 3 => .int
  | 4 => .int
  | 5 => .array .int
  | 6 => .array .int
  | 7 => .int
  | 8 => .int
  | 9 => .array .int
  | 10 => .array .int
  | 11 => .int
  | 12 => .array .int
  | 13 => .int
  | 14 => .int
  | 15 => .int
  | 16 => .int
  | 17 => .int
  | 18 => .array .int
  | 19 => .array .int
  | _ => .long
abbrev wsX50 : List Cond := u_ws RX5 TX5 21
theorem nmX5 : ∀ a, a < 21 → ∀ b, b < 21 → a ≠ b → (TX5 a).2.1 ≠ (TX5 b).2.1 := by decide +kernel
theorem tyX5_ok : ∀ k, k < 21 → parseFieldDescriptor (TX5 k).2.2.1 = some (tyX5 k) := by decide +kernel
abbrev cX5_init : ByteArray := prog_7_method_1_code
def yX5_init : MethodName := ⟨RX5, "<init>", "()V"⟩
abbrev cX5_in : ByteArray := prog_7_method_2_code
def yX5_in : MethodName := ⟨RX5, "in", "(JJJ)Z"⟩
abbrev cX5_copy : ByteArray := prog_7_method_3_code
def yX5_copy : MethodName := ⟨RX5, "copy", "([I[I)V"⟩
abbrev cX5_common : ByteArray := prog_7_method_4_code
def yX5_common : MethodName := ⟨RX5, "common", "(II)I"⟩
abbrev cX5_letter : ByteArray := prog_7_method_5_code
def yX5_letter : MethodName := ⟨RX5, "letter", "(I)I"⟩
abbrev cX5_blank : ByteArray := prog_7_method_6_code
def yX5_blank : MethodName := ⟨RX5, "blank", "()I"⟩
abbrev cX5_kindBy : ByteArray := prog_7_method_7_code
def yX5_kindBy : MethodName := ⟨RX5, "kindBy", "(I)I"⟩
abbrev cX5_isGood : ByteArray := prog_7_method_8_code
def yX5_isGood : MethodName := ⟨RX5, "isGood", "(II)Z"⟩
abbrev cX5_faultOf : ByteArray := prog_7_method_9_code
def yX5_faultOf : MethodName := ⟨RX5, "faultOf", "()I"⟩
abbrev cX5_fault : ByteArray := prog_7_method_10_code
def yX5_fault : MethodName := ⟨RX5, "fault", "()I"⟩
abbrev cX5_gym : ByteArray := prog_7_method_11_code
def yX5_gym : MethodName := ⟨RX5, "gym", "()I"⟩
abbrev cX5_lacks : ByteArray := prog_7_method_12_code
def yX5_lacks : MethodName := ⟨RX5, "lacks", "()Z"⟩
abbrev cX5_isPiece : ByteArray := prog_7_method_13_code
def yX5_isPiece : MethodName := ⟨RX5, "isPiece", "(I)Z"⟩
abbrev cX5_isPlace : ByteArray := prog_7_method_14_code
def yX5_isPlace : MethodName := ⟨RX5, "isPlace", "(I)Z"⟩
abbrev cX5_tenthsBy : ByteArray := prog_7_method_15_code
def yX5_tenthsBy : MethodName := ⟨RX5, "tenthsBy", "(III)I"⟩
abbrev cX5_tenthsOf : ByteArray := prog_7_method_16_code
def yX5_tenthsOf : MethodName := ⟨RX5, "tenthsOf", "(II)I"⟩
abbrev cX5_placeOf : ByteArray := prog_7_method_17_code
def yX5_placeOf : MethodName := ⟨RX5, "placeOf", "(I)I"⟩
abbrev cX5_tell : ByteArray := prog_7_method_18_code
def yX5_tell : MethodName := ⟨RX5, "tell", "(II)I"⟩
abbrev cX5_piece : ByteArray := prog_7_method_19_code
def yX5_piece : MethodName := ⟨RX5, "piece", "(II)I"⟩
abbrev cX5_as : ByteArray := prog_7_method_20_code
def yX5_as : MethodName := ⟨RX5, "as", "(II)I"⟩
abbrev cX5_put : ByteArray := prog_7_method_21_code
def yX5_put : MethodName := ⟨RX5, "put", "(I)I"⟩
abbrev cX5_take : ByteArray := prog_7_method_22_code
def yX5_take : MethodName := ⟨RX5, "take", "(I)I"⟩
abbrev cX5_swap : ByteArray := prog_7_method_23_code
def yX5_swap : MethodName := ⟨RX5, "swap", "(II)I"⟩
abbrev cX5_at : ByteArray := prog_7_method_24_code
def yX5_at : MethodName := ⟨RX5, "at", "(I)I"⟩
abbrev cX5_isFlight : ByteArray := prog_7_method_25_code
def yX5_isFlight : MethodName := ⟨RX5, "isFlight", "(I)Z"⟩
abbrev cX5_isTurn : ByteArray := prog_7_method_26_code
def yX5_isTurn : MethodName := ⟨RX5, "isTurn", "(I)Z"⟩
abbrev cX5_joins : ByteArray := prog_7_method_27_code
def yX5_joins : MethodName := ⟨RX5, "joins", "([III)Z"⟩
abbrev cX5_scoreOf : ByteArray := prog_7_method_28_code
def yX5_scoreOf : MethodName := ⟨RX5, "scoreOf", "([III)I"⟩
abbrev cX5_waysOf : ByteArray := prog_7_method_29_code
def yX5_waysOf : MethodName := ⟨RX5, "waysOf", "([III)I"⟩
abbrev cX5_powerOf : ByteArray := prog_7_method_30_code
def yX5_powerOf : MethodName := ⟨RX5, "powerOf", "(I)I"⟩
abbrev cX5_score : ByteArray := prog_7_method_31_code
def yX5_score : MethodName := ⟨RX5, "score", "(I)I"⟩
abbrev cX5_meanUp : ByteArray := prog_7_method_32_code
def yX5_meanUp : MethodName := ⟨RX5, "meanUp", "([II)I"⟩
abbrev cX5_meanOf : ByteArray := prog_7_method_33_code
def yX5_meanOf : MethodName := ⟨RX5, "meanOf", "([III)I"⟩
abbrev cX5_mean : ByteArray := prog_7_method_34_code
def yX5_mean : MethodName := ⟨RX5, "mean", "(I)I"⟩
abbrev cX5_oddsUp : ByteArray := prog_7_method_35_code
def yX5_oddsUp : MethodName := ⟨RX5, "oddsUp", "([III)I"⟩
abbrev cX5_oddsOf : ByteArray := prog_7_method_36_code
def yX5_oddsOf : MethodName := ⟨RX5, "oddsOf", "(II)I"⟩
abbrev cX5_odds : ByteArray := prog_7_method_37_code
def yX5_odds : MethodName := ⟨RX5, "odds", "(II)I"⟩
abbrev cX5_layRow : ByteArray := prog_7_method_38_code
def yX5_layRow : MethodName := ⟨RX5, "layRow", "(II)Z"⟩
abbrev cX5_bestOf : ByteArray := prog_7_method_39_code
def yX5_bestOf : MethodName := ⟨RX5, "bestOf", "(II)I"⟩
abbrev cX5_best : ByteArray := prog_7_method_40_code
def yX5_best : MethodName := ⟨RX5, "best", "(II)I"⟩
abbrev cX5_moreOf : ByteArray := prog_7_method_41_code
def yX5_moreOf : MethodName := ⟨RX5, "moreOf", "(I)I"⟩
abbrev cX5_more : ByteArray := prog_7_method_42_code
def yX5_more : MethodName := ⟨RX5, "more", "(I)I"⟩
abbrev cX5_tryIt : ByteArray := prog_7_method_43_code
def yX5_tryIt : MethodName := ⟨RX5, "tryIt", "(IIZ)I"⟩
abbrev cX5_forget : ByteArray := prog_7_method_44_code
def yX5_forget : MethodName := ⟨RX5, "forget", "()I"⟩
abbrev cX5_triedWays : ByteArray := prog_7_method_45_code
def yX5_triedWays : MethodName := ⟨RX5, "triedWays", "(II)J"⟩
abbrev cX5_sureOf : ByteArray := prog_7_method_46_code
def yX5_sureOf : MethodName := ⟨RX5, "sureOf", "(I)I"⟩
abbrev cX5_likelyOf : ByteArray := prog_7_method_47_code
def yX5_likelyOf : MethodName := ⟨RX5, "likelyOf", "(I)I"⟩
abbrev cX5_draw : ByteArray := prog_7_method_48_code
def yX5_draw : MethodName := ⟨RX5, "draw", "(I)I"⟩
abbrev cX5_meets : ByteArray := prog_7_method_49_code
def yX5_meets : MethodName := ⟨RX5, "meets", "(III)I"⟩
abbrev cX5_image : ByteArray := prog_7_method_50_code
def yX5_image : MethodName := ⟨RX5, "image", "()I"⟩
abbrev cX5_restore : ByteArray := prog_7_method_51_code
def yX5_restore : MethodName := ⟨RX5, "restore", "()I"⟩
abbrev cX5_flightsIn : ByteArray := prog_7_method_52_code
def yX5_flightsIn : MethodName := ⟨RX5, "flightsIn", "()I"⟩
abbrev cX5_turnsIn : ByteArray := prog_7_method_53_code
def yX5_turnsIn : MethodName := ⟨RX5, "turnsIn", "()I"⟩
abbrev cX5_joinsIn : ByteArray := prog_7_method_54_code
def yX5_joinsIn : MethodName := ⟨RX5, "joinsIn", "()I"⟩
abbrev cX5_countOf : ByteArray := prog_7_method_55_code
def yX5_countOf : MethodName := ⟨RX5, "countOf", "(I)I"⟩
abbrev cX5_count : ByteArray := prog_7_method_56_code
def yX5_count : MethodName := ⟨RX5, "count", "(I)I"⟩
abbrev cX5_say : ByteArray := prog_7_method_57_code
def yX5_say : MethodName := ⟨RX5, "say", "(J)V"⟩
abbrev cX5_digest : ByteArray := prog_7_method_58_code
def yX5_digest : MethodName := ⟨RX5, "digest", "()J"⟩
def RJ9 : String := "java/lang/Math"
def TJ9 : u_T := fun k => match k with
  | _ => ("", "", "", false)
def tyJ9 : Nat → FieldType := fun k => match k with
  | _ => .int
theorem nmJ9 : ∀ a, a < 0 → ∀ b, b < 0 → a ≠ b → (TJ9 a).2.1 ≠ (TJ9 b).2.1 := by decide +kernel
theorem tyJ9_ok : ∀ k, k < 0 → parseFieldDescriptor (TJ9 k).2.2.1 = some (tyJ9 k) := by decide +kernel
abbrev cJ9_max_7cf53 : ByteArray := prog_8_method_65_code
def yJ9_max_7cf53 : MethodName := ⟨RJ9, "max", "(II)I"⟩
def RL : String := "BarRoutineLaw"
abbrev cL_law : ByteArray := code
def yL_law : MethodName := ⟨RL, "law", "([I)Z"⟩
abbrev vwCl : List vw_C := [(RX0, TX0, 4), (RX1, TX1, 2), (RX2, TX2, 3), (RX3, TX3, 5), (RX4, TX4, 13), (RX5, TX5, 21)]
end
section
/-! An abstract machine over a fixed world of 32 cells: places instead of addresses, one function for what they hold; a rule an instruction, proved once over the kit's rows. -/
-- words: all words of the tables that a call can hand on
def br_W0 : List Cond := lw_tbl.filter goodWord
theorem br_W0_in {w : Cond} {i : Nat} (h : lw_tbl[i]? = some w) (hg : goodWord w = true) : w ∈ br_W0 := List.mem_filter.mpr ⟨List.mem_of_getElem? h, hg⟩
theorem br_W0_good {w : Cond} (h : w ∈ br_W0) : (w.onTables && w.keeps) = true ∨ ∃ ty, w = .arrayClass ty := good_of_word (List.mem_filter.mp h).2
def br_nest : List (String × Nat × String × String × String × String) := [("BarRoutine$Gym", 25, "BarRoutine$Page", "length", "I", "BarRoutine"), ("BarRoutine", 68, "BarRoutine$Page", "length", "I", "BarRoutine"), ("BarRoutine", 91, "BarRoutine$Gym", "size", "I", "BarRoutine"), ("BarRoutine", 87, "BarRoutine$Routine", "size", "I", "BarRoutine"), ("BarRoutine", 90, "BarRoutine$Tries", "size", "I", "BarRoutine")]
def br_nw (w : String × Nat × String × String × String × String) : Cond := .fieldLinkNest w.1 w.2.1 w.2.2.1 w.2.2.2.1 w.2.2.2.2.1 w.2.2.2.2.2
def br_N (U : State) : Prop := ∀ w ∈ br_nest, va_Nw (br_nw w) U
theorem br_N.warm {s U : State} (hW : s.WarmedH U.vm) (h : br_N s) : br_N U := fun w hw => va_Nw.warmF hW (h w hw)
theorem br_N.same {u U : State} (e : u.vm = U.vm) (h : br_N u) : br_N U := fun w hw => va_Nw.same rfl e (h w hw)
-- values and worlds
abbrev br_V : Type := Int32 ⊕ (Int64 ⊕ Nat)
abbrev br_Wd : Type := (Nat → Nat → Int32) × Int64
abbrev br_i (x : Int32) : br_V := .inl x
abbrev br_l (x : Int64) : br_V := .inr (.inl x)
abbrev br_r (q : Nat) : br_V := .inr (.inr q)
def br_av (ad : Nat → Nat) : br_V → Value
  | .inl x => .int x
  | .inr (.inl x) => .long x
  | .inr (.inr q) => .ref (ad q)
def br_isl : br_V → Bool
  | .inr (.inl _) => true
  | _ => false
def br_up (σ : br_Wd) (q k : Nat) (v : Int32) : br_Wd := (fun q' k' => if q' = q then (if k' = k then v else σ.1 q' k') else σ.1 q' k', σ.2)
def br_upl (σ : br_Wd) (v : Int64) : br_Wd := (σ.1, v)
-- the shapes of the cells
abbrev br_FK : Type := Option (Option Nat)
abbrev br_Sh : Type := (Bool × Nat) ⊕ (Nat × List br_FK)
abbrev br_fr (q : Nat) : br_FK := some (some q)
def br_shps : List br_Sh := [
  .inr (4, [br_fr 1, br_fr 3, br_fr 7, br_fr 15, none, none, br_fr 9, br_fr 19, none, br_fr 11, br_fr 13, none, none]),
  .inr (1, [br_fr 2, none]), .inl (false, 30),
  .inr (0, [br_fr 4, br_fr 5, br_fr 6, none]), .inl (false, 7), .inl (false, 7), .inl (false, 7),
  .inr (2, [br_fr 3, br_fr 8, none]), .inl (false, 5),
  .inr (2, [br_fr 3, br_fr 10, none]), .inl (false, 5),
  .inr (2, [br_fr 3, br_fr 12, none]), .inl (false, 5),
  .inr (2, [br_fr 3, br_fr 14, none]), .inl (false, 5),
  .inr (3, [br_fr 3, br_fr 16, br_fr 17, br_fr 18, none]), .inl (false, 8), .inl (false, 8), .inl (true, 8),
  .inr (3, [br_fr 3, br_fr 20, br_fr 21, br_fr 22, none]), .inl (false, 8), .inl (false, 8), .inl (true, 8),
  .inr (5, [br_fr 24, none, none, none, none, br_fr 25, br_fr 26, none, none, br_fr 27, br_fr 28, none, br_fr 29, none, none, none, none, none, br_fr 30, br_fr 31, some none]),
  .inl (false, 30), .inl (false, 21), .inl (false, 5), .inl (false, 5), .inl (false, 5), .inl (false, 24), .inl (false, 5), .inl (false, 24)]
def br_fv (ad : Nat → Nat) (σ : br_Wd) (q k : Nat) : br_FK → Value
  | none => .int (σ.1 q k)
  | some none => .long σ.2
  | some (some r) => .ref (ad r)
def br_mkF (ad : Nat → Nat) (σ : br_Wd) (q : Nat) : Nat → List br_FK → List Value
  | _, [] => []
  | k, f :: fs => br_fv ad σ q k f :: br_mkF ad σ q (k + 1) fs
def br_mkE (cI cZ : ClassId) (ad : Nat → Nat) (σ : br_Wd) (q : Nat) : br_Sh → va_E
  | .inl (z, n) => .inl (cond z cZ cI, n, .inl (σ.1 q))
  | .inr (ci, fs) => .inr (ci, br_mkF ad σ q 0 fs)
def br_mkW (cI cZ : ClassId) (ad : Nat → Nat) (σ : br_Wd) : Nat → List br_Sh → va_W
  | _, [] => []
  | q, sh :: t => (ad q, br_mkE cI cZ ad σ q sh) :: br_mkW cI cZ ad σ (q + 1) t
def br_W (cI cZ : ClassId) (ad : Nat → Nat) (σ : br_Wd) : va_W := br_mkW cI cZ ad σ 0 br_shps
theorem br_mkF_get (ad : Nat → Nat) (σ : br_Wd) (q : Nat) : ∀ (fs : List br_FK) (k j : Nat), (br_mkF ad σ q k fs)[j]? = fs[j]?.map (br_fv ad σ q (k + j)) := by
  intro fs
  induction fs with
  | nil => intro k j; simp [br_mkF]
  | cons f fs ih =>
    intro k j
    cases j with
    | zero => simp [br_mkF]
    | succ j =>
      simp only [br_mkF, List.getElem?_cons_succ]
      rw [ih (k + 1) j, show k + 1 + j = k + (j + 1) by omega]
theorem br_mkW_get (cI cZ : ClassId) (ad : Nat → Nat) (σ : br_Wd) : ∀ (shs : List br_Sh) (q j : Nat), (br_mkW cI cZ ad σ q shs)[j]? = shs[j]?.map (fun sh => (ad (q + j), br_mkE cI cZ ad σ (q + j) sh)) := by
  intro shs
  induction shs with
  | nil => intro k j; simp [br_mkW]
  | cons f fs ih =>
    intro k j
    cases j with
    | zero => simp [br_mkW]
    | succ j =>
      simp only [br_mkW, List.getElem?_cons_succ]
      rw [ih (k + 1) j, show k + 1 + j = k + (j + 1) by omega]
theorem br_W_get {cI cZ : ClassId} {ad : Nat → Nat} {σ : br_Wd} {q : Nat} {sh : br_Sh} (h : br_shps[q]? = some sh) : (br_W cI cZ ad σ)[q]? = some (ad q, br_mkE cI cZ ad σ q sh) := by
  unfold br_W
  rw [br_mkW_get, h]
  simp
theorem br_mkF_put {ad : Nat → Nat} {σ : br_Wd} {q k : Nat} {v : Int32} {fs : List br_FK} (hk : fs[k]? = some none) : (br_mkF ad σ q 0 fs).set k (.int v) = br_mkF ad (br_up σ q k v) q 0 fs := by
  apply List.ext_getElem?
  intro j
  rw [List.getElem?_set, br_mkF_get, br_mkF_get]
  have hl : k < fs.length := (List.getElem?_eq_some_iff.mp hk).1
  have hl2 : k < (br_mkF ad σ q 0 fs).length := by
    have := br_mkF_get ad σ q fs 0 k
    rw [hk] at this
    exact (List.getElem?_eq_some_iff.mp this).1
  by_cases e : k = j
  · subst e
    rw [if_pos rfl, if_pos hl2, hk]
    simp [br_fv, br_up]
  · rw [if_neg e]
    have e' : ¬ j = k := fun h => e h.symm
    cases hj : fs[j]? with
    | none => simp
    | some f =>
      cases f with
      | none => simp [br_fv, br_up, e']
      | some f => cases f <;> simp [br_fv, br_up]
theorem br_mkE_up {cI cZ : ClassId} {ad : Nat → Nat} {σ : br_Wd} {q k j : Nat} {v : Int32} (sh : br_Sh) (h : ¬ j = q) : br_mkE cI cZ ad (br_up σ q k v) j sh = br_mkE cI cZ ad σ j sh := by
  have e1 : (br_up σ q k v).1 j = σ.1 j := by funext k'; simp [br_up, h]
  cases sh with
  | inl a => obtain ⟨z, n⟩ := a; simp [br_mkE, e1]
  | inr a =>
    obtain ⟨ci, fs⟩ := a
    simp only [br_mkE]
    congr 2
    apply List.ext_getElem?
    intro i
    rw [br_mkF_get, br_mkF_get]
    cases fs[i]? with
    | none => rfl
    | some f =>
      cases f with
      | none => simp [br_fv, e1]
      | some f => cases f <;> simp [br_fv, br_up]
theorem br_W_up {cI cZ : ClassId} {ad : Nat → Nat} {σ : br_Wd} {q k : Nat} {v : Int32} {sh : br_Sh} (h : br_shps[q]? = some sh) : (br_W cI cZ ad σ).set q (ad q, br_mkE cI cZ ad (br_up σ q k v) q sh) = br_W cI cZ ad (br_up σ q k v) := by
  apply List.ext_getElem?
  intro j
  have hl : q < (br_W cI cZ ad σ).length := (List.getElem?_eq_some_iff.mp (br_W_get h)).1
  rw [List.getElem?_set]
  by_cases e : q = j
  · subst e
    rw [if_pos rfl, if_pos hl, br_W_get h]
  · rw [if_neg e]
    unfold br_W
    rw [br_mkW_get, br_mkW_get]
    cases br_shps[j]? with
    | none => rfl
    | some s2 => simp only [Option.map_some]; rw [br_mkE_up s2 (by omega)]
theorem br_mkE_upl {cI cZ : ClassId} {ad : Nat → Nat} {σ : br_Wd} {j : Nat} {v : Int64} (sh : br_Sh) (h : ∀ ci fs, sh = .inr (ci, fs) → some none ∉ fs) : br_mkE cI cZ ad (br_upl σ v) j sh = br_mkE cI cZ ad σ j sh := by
  cases sh with
  | inl a => rfl
  | inr a =>
    obtain ⟨ci, fs⟩ := a
    have hn := h ci fs rfl
    simp only [br_mkE]
    congr 2
    apply List.ext_getElem?
    intro i
    rw [br_mkF_get, br_mkF_get]
    cases hf : fs[i]? with
    | none => rfl
    | some f =>
      cases f with
      | none => rfl
      | some f =>
        cases f with
        | none => exact absurd (List.mem_of_getElem? hf) hn
        | some r => rfl
theorem br_shps_long : ∀ j : Nat, j < 32 → j ≠ 23 → ∀ sh, br_shps[j]? = some sh → ∀ ci fs, sh = .inr (ci, fs) → some none ∉ fs := by
  intro j hj h23 sh hs ci fs e
  subst e
  have key : (br_shps.zipIdx.all fun q => q.2 == 23 || match q.1 with | .inl _ => true | .inr (_, fs) => !(fs.contains (some none))) = true := by decide +kernel
  have hm : ((Sum.inr (ci, fs) : br_Sh), j) ∈ br_shps.zipIdx := by
    rw [List.mem_zipIdx_iff_getElem?]
    exact hs
  have h1 := List.all_eq_true.mp key _ hm
  simp only [Bool.or_eq_true, beq_iff_eq, Bool.not_eq_true', List.contains_eq_mem, decide_eq_false_iff_not] at h1
  rcases h1 with h1 | h1
  · exact absurd h1 h23
  · exact h1
theorem br_W_upl {cI cZ : ClassId} {ad : Nat → Nat} {σ : br_Wd} {v : Int64} {sh : br_Sh} (h : br_shps[23]? = some sh) : (br_W cI cZ ad σ).set 23 (ad 23, br_mkE cI cZ ad (br_upl σ v) 23 sh) = br_W cI cZ ad (br_upl σ v) := by
  apply List.ext_getElem?
  intro j
  have hl : 23 < (br_W cI cZ ad σ).length := (List.getElem?_eq_some_iff.mp (br_W_get h)).1
  rw [List.getElem?_set]
  by_cases e : 23 = j
  · subst e
    rw [if_pos rfl, if_pos hl, br_W_get h]
  · rw [if_neg e]
    unfold br_W
    rw [br_mkW_get, br_mkW_get]
    cases hs : br_shps[j]? with
    | none => rfl
    | some s2 =>
      have hj : j < 32 := (List.getElem?_eq_some_iff.mp hs).1
      simp only [Option.map_some]
      rw [br_mkE_upl s2 (br_shps_long j hj (fun q => e q.symm) s2 hs)]
-- locals by their places
def br_asc (ad : Nat → Nat) : Nat → List (Option br_V) → List (Nat × Value)
  | _, [] => []
  | i, none :: t => br_asc ad (i + 1) t
  | i, some v :: t => (i, br_av ad v) :: br_asc ad (i + 1) t
theorem br_asc_mem {ad : Nat → Nat} : ∀ (L : List (Option br_V)) (k : Nat) (q : Nat × Value), q ∈ br_asc ad k L ↔ ∃ j v, L[j]? = some (some v) ∧ q = (k + j, br_av ad v) := by
  intro L
  induction L with
  | nil => intro k q; simp [br_asc]
  | cons a t ih =>
    intro k q
    cases a with
    | none =>
      simp only [br_asc]
      rw [ih]
      constructor
      · rintro ⟨j, v, h1, h2⟩
        exact ⟨j + 1, v, by simpa using h1, by rw [h2]; congr 1; omega⟩
      · rintro ⟨j, v, h1, h2⟩
        cases j with
        | zero => simp at h1
        | succ j => exact ⟨j, v, by simpa using h1, by rw [h2]; congr 1; omega⟩
    | some w =>
      simp only [br_asc, List.mem_cons]
      rw [ih]
      constructor
      · rintro (h | ⟨j, v, h1, h2⟩)
        · exact ⟨0, w, by simp, by simpa using h⟩
        · exact ⟨j + 1, v, by simpa using h1, by rw [h2]; congr 1; omega⟩
      · rintro ⟨j, v, h1, h2⟩
        cases j with
        | zero =>
          simp only [List.getElem?_cons_zero, Option.some.injEq] at h1
          subst h1
          exact Or.inl (by simpa using h2)
        | succ j => exact Or.inr ⟨j, v, by simpa using h1, by rw [h2]; congr 1; omega⟩
theorem br_loc {ad : Nat → Nat} {ls : Array Slot} {n : Nat} {L : List (Option br_V)} (h : lv_has ls n (br_asc ad 0 L)) {i : Nat} {v : br_V} (hl : L[i]? = some (some v)) : ls[i]? = some (.val (br_av ad v)) :=
  h.2.2 (i, br_av ad v) ((br_asc_mem L 0 _).mpr ⟨i, v, hl, by rw [Nat.zero_add]⟩)
/-- no long begins just ahead of place i -/
def br_okst (L : List (Option br_V)) : Nat → Bool
  | 0 => true
  | j + 1 => match L[j]? with
    | some (some v) => !(br_isl v)
    | _ => true
theorem br_cat (ad : Nat → Nat) (v : br_V) : (br_av ad v).category = 2 ↔ br_isl v = true := by
  match v with
  | .inl x => simp [br_av, br_isl, Value.category]
  | .inr (.inl x) => simp [br_av, br_isl, Value.category]
  | .inr (.inr q) => simp [br_av, br_isl, Value.category]
theorem br_keep1 {ad : Nat → Nat} {L : List (Option br_V)} {i : Nat} {q : Nat × Value} (ho : br_okst L i = true) (hq : q ∈ br_asc ad 0 L) (hne : ¬ q.1 = i) : (q.1 + 1 == i && q.2.category == 2) = false := by
  obtain ⟨j, v, h1, rfl⟩ := (br_asc_mem L 0 q).mp hq
  simp only [Nat.zero_add]
  by_cases e : j + 1 = i
  · subst e
    simp only [br_okst, h1, Bool.not_eq_true'] at ho
    have : ¬ (br_av ad v).category = 2 := fun h => by rw [(br_cat ad v).mp h] at ho; cases ho
    simp [this]
  · simp [e]
theorem br_set1 {ad : Nat → Nat} {ls : Array Slot} {n : Nat} {L : List (Option br_V)} {i : Nat} {v : br_V} (ho : br_okst L i = true)
    (h : lv_has ls n ((i, br_av ad v) :: (br_asc ad 0 L).filter (fun q => !(q.1 == i) && !(q.1 + 1 == i && q.2.category == 2)))) : lv_has ls n (br_asc ad 0 (L.set i (some v))) := by
  refine ⟨h.1, h.2.1, fun q hq => h.2.2 q ?_⟩
  obtain ⟨j, w, h1, rfl⟩ := (br_asc_mem _ 0 q).mp hq
  rw [List.getElem?_set] at h1
  by_cases e : i = j
  · subst e
    rw [if_pos rfl] at h1
    split at h1
    · cases h1
      simp
    · cases h1
  · rw [if_neg e] at h1
    refine List.mem_cons_of_mem _ (List.mem_filter.mpr ⟨(br_asc_mem L 0 _).mpr ⟨j, w, h1, rfl⟩, ?_⟩)
    have hne : ¬ ((0 + j, br_av ad w) : Nat × Value).1 = i := by simp; omega
    rw [br_keep1 ho ((br_asc_mem L 0 _).mpr ⟨j, w, h1, rfl⟩) hne]
    simpa using hne
theorem br_set2 {ad : Nat → Nat} {ls : Array Slot} {n : Nat} {L : List (Option br_V)} {i : Nat} {v : br_V} (ho : br_okst L i = true)
    (h : lv_has ls n ((i, br_av ad v) :: (br_asc ad 0 L).filter (fun q => !(q.1 == i) && (!(q.1 == i + 1) && !(q.1 + 1 == i && q.2.category == 2))))) : lv_has ls n (br_asc ad 0 ((L.set i (some v)).set (i + 1) none)) := by
  refine ⟨h.1, h.2.1, fun q hq => h.2.2 q ?_⟩
  obtain ⟨j, w, h1, rfl⟩ := (br_asc_mem _ 0 q).mp hq
  rw [List.getElem?_set] at h1
  by_cases e1 : i + 1 = j
  · rw [if_pos e1] at h1
    split at h1 <;> cases h1
  · rw [if_neg e1, List.getElem?_set] at h1
    by_cases e : i = j
    · subst e
      rw [if_pos rfl] at h1
      split at h1
      · cases h1
        simp
      · cases h1
    · rw [if_neg e] at h1
      refine List.mem_cons_of_mem _ (List.mem_filter.mpr ⟨(br_asc_mem L 0 _).mpr ⟨j, w, h1, rfl⟩, ?_⟩)
      have hne : ¬ ((0 + j, br_av ad w) : Nat × Value).1 = i := by simp; omega
      rw [br_keep1 ho ((br_asc_mem L 0 _).mpr ⟨j, w, h1, rfl⟩) hne]
      have hne2 : ¬ ((0 + j, br_av ad w) : Nat × Value).1 = i + 1 := by simp; omega
      simp only [Bool.not_false, Bool.and_true, Bool.and_eq_true, Bool.not_eq_true', beq_eq_false_iff_ne, ne_eq]
      exact ⟨hne, hne2⟩
-- fewer known locals
def br_sub (L' L : List (Option br_V)) : Prop := ∀ (j : Nat) (v : br_V), L'[j]? = some (some v) → L[j]? = some (some v)
theorem br_sub.has {ad : Nat → Nat} {ls : Array Slot} {n : Nat} {L L' : List (Option br_V)} (hs : br_sub L' L) (h : lv_has ls n (br_asc ad 0 L)) : lv_has ls n (br_asc ad 0 L') := by
  refine ⟨h.1, h.2.1, fun q hq => ?_⟩
  obtain ⟨j, w, h1, rfl⟩ := (br_asc_mem _ 0 q).mp hq
  exact h.2.2 _ ((br_asc_mem L 0 _).mpr ⟨j, w, hs j w h1, rfl⟩)
theorem br_sub.nil {L : List (Option br_V)} : br_sub [] L := fun j v h => by simp at h
theorem br_sub.same {L L' : List (Option br_V)} {a : Option br_V} (h : br_sub L' L) : br_sub (a :: L') (a :: L) := fun j v hj => by
  cases j with
  | zero => simpa using hj
  | succ j => simpa using h j v (by simpa using hj)
theorem br_sub.drop {L L' : List (Option br_V)} {a : Option br_V} (h : br_sub L' L) : br_sub (none :: L') (a :: L) := fun j v hj => by
  cases j with
  | zero => simp at hj
  | succ j => simpa using h j v (by simpa using hj)
theorem br_sub.rfl {L : List (Option br_V)} : br_sub L L := fun _ _ h => h
end
section
-- a method: its name, bytes, locals, return type
abbrev br_Y : Type := MethodName × ByteArray × Nat × Option FieldType
def br_ws (Y : br_Y) : List Cond := .code Y.1 Y.2.1 Y.2.2.1 Y.2.2.2 :: br_W0
def br_room (d : Nat) : Room := { frames := d, cells := 0, slots := 0, locals := 29 * d }
abbrev br_post : Type := Option br_V → br_Wd → Prop
abbrev br_tys (cI cZ : ClassId) : List (ClassId × FieldType) := [(cI, .int), (cZ, .boolean)]
def br_Q (D : va_G) (cI cZ : ClassId) (ad : Nat → Nat) (A : Nat → Prop) (P : br_post) : Array Value → State → Outcome → State → Prop := fun _ st oc t =>
  (∃ v τ, oc = .returned (v.map (br_av ad)) ∧ P v τ ∧ va_P D vwCl (br_W cI cZ ad τ) t.heap) ∧ va_F A st t
/-- a method's contract: from the world σ with these arguments it returns, with a value and a world of which P holds -/
def br_Met (d : Nat) (Y : br_Y) (args : List br_V) (σ : br_Wd) (P : br_post) : Prop :=
  ∀ (l : Launch) (D : va_G) (cI cZ : ClassId) (ad : Nat → Nat) (sz : Nat), Met l Y.1 (br_ws Y) (br_room d)
    (va_Pc (args.map (br_av ad)) (fun U => U.heap.size = sz ∧ va_P D vwCl (br_W cI cZ ad σ) U.heap ∧ va_K D vwCl (br_tys cI cZ) U ∧ va_D (fun _ => True) (br_W cI cZ ad σ) ∧ br_N U))
    (br_Q D cI cZ ad (va_A (br_W cI cZ ad σ) sz) P) 0 0 (va_A (br_W cI cZ ad σ) sz)
/-- at this instruction the method returns v -/
def br_isret (Y : br_Y) (pc : Nat) : Option br_V → Prop
  | none => Y.2.2.2 = none ∧ decode Y.2.1 pc = .ok (.return_, 1)
  | some (.inl x) => (∃ ty, Y.2.2.2 = some ty ∧ narrow ty (.int x) = .int x) ∧ decode Y.2.1 pc = .ok (.ireturn, 1)
  | some (.inr (.inl _)) => Y.2.2.2 = some .long ∧ decode Y.2.1 pc = .ok (.lreturn, 1)
  | some (.inr (.inr _)) => False
abbrev br_Jg : Type := Nat → List (Option br_V) → List br_V → br_Wd → Prop
/-- G is the walk of the body of Y, with room for calls of depth below d, to an end where P holds -/
def br_Ok (Y : br_Y) (d : Nat) (P : br_post) (G : br_Jg) : Prop :=
  ∃ (p : Program) (l : Launch) (e : Env) (R : Room) (s : State) (m : MethodId) (args : Array Value) (below : List Frame) (meth : Method) (c : Code) (cells slots : Nat) (Q : State → Prop) (D : va_G) (cI cZ : ClassId) (ad : Nat → Nat) (A : Nat → Prop) (H0 : Heap),
    (p.tables.exec = Jvm.exec ∧ c.code = Y.2.1 ∧ c.maxLocals = Y.2.2.1 ∧ s.vm.findClass Y.1.cls = some m.cls ∧ (∀ w ∈ br_W0, w.before args s = true)) ∧
    (va_K D vwCl (br_tys cI cZ) s ∧ (∀ σ, va_D A (br_W cI cZ ad σ)) ∧ (∀ q, H0.size ≤ q → A q) ∧ br_N s) ∧ (d ≤ R.frames ∧ 29 * d ≤ R.locals ∧ cells ≤ R.cells ∧ slots ≤ R.slots) ∧
    (∀ (v : Option br_V) (τ : br_Wd) (H : Heap) (locs : List Loc) (pc : Nat) (ls : Array Slot), P v τ → va_P D vwCl (br_W cI cZ ad τ) H → va_S A H0 H locs → br_isret Y pc v → W p l e R s m args below meth c H locs cells slots Q (F0 m pc ls (v.map (br_av ad)).toList)) ∧
    ∀ pc L st σ, G pc L st σ ↔ ∀ (H : Heap) (locs : List Loc) (ls : Array Slot), va_P D vwCl (br_W cI cZ ad σ) H → va_S A H0 H locs → lv_has ls Y.2.2.1 (br_asc ad 0 L) → W p l e R s m args below meth c H locs cells slots Q (F0 m pc ls (st.map (br_av ad)))
-- the locals of the entry
def br_ent : List br_V → List (Option br_V)
  | [] => []
  | .inr (.inl x) :: t => some (br_l x) :: none :: br_ent t
  | a :: t => some a :: br_ent t
theorem br_asc_rep (ad : Nat → Nat) : ∀ (n i : Nat), br_asc ad i (List.replicate n none) = [] := by
  intro n
  induction n with
  | zero => intro i; rfl
  | succ n ih => intro i; show br_asc ad (i + 1) (List.replicate n none) = []; exact ih (i + 1)
theorem br_asc_ent (ad : Nat → Nat) (n : Nat) : ∀ (args : List br_V) (i : Nat), br_asc ad i (br_ent args ++ List.replicate n none) = lv_args i (args.map (br_av ad)) := by
  intro args
  induction args with
  | nil => intro i; exact br_asc_rep ad n i
  | cons a t ih =>
    intro i
    match a with
    | .inl x =>
      show (i, Value.int x) :: br_asc ad (i + 1) (br_ent t ++ List.replicate n none) = _
      rw [ih (i + 1)]
      simp [lv_args, br_av, Value.category]
    | .inr (.inl x) =>
      show (i, Value.long x) :: br_asc ad (i + 1 + 1) (br_ent t ++ List.replicate n none) = _
      rw [ih (i + 1 + 1)]
      simp [lv_args, br_av, Value.category]
    | .inr (.inr x) =>
      show (i, Value.ref (ad x)) :: br_asc ad (i + 1) (br_ent t ++ List.replicate n none) = _
      rw [ih (i + 1)]
      simp [lv_args, br_av, Value.category]
theorem br_ent_len (ad : Nat → Nat) : ∀ (args : List br_V), (lg_sl (args.map (br_av ad))).length = (br_ent args).length := by
  intro args
  induction args with
  | nil => rfl
  | cons a t ih =>
    match a with
    | .inl x => simpa [lg_sl, br_ent, br_av, Value.category] using ih
    | .inr (.inl x) => simpa [lg_sl, br_ent, br_av, Value.category] using ih
    | .inr (.inr x) => simpa [lg_sl, br_ent, br_av, Value.category] using ih
theorem br_W_addr {cI cZ : ClassId} {ad : Nat → Nat} (σ τ : br_Wd) (k : Nat) (q : Nat × va_E) (h : (br_W cI cZ ad σ)[k]? = some q) : ∃ q', (br_W cI cZ ad τ)[k]? = some q' ∧ q'.1 = q.1 := by
  unfold br_W at h ⊢
  rw [br_mkW_get] at h ⊢
  cases hs : br_shps[k]? with
  | none => rw [hs] at h; cases h
  | some sh => rw [hs] at h; cases h; exact ⟨_, rfl, rfl⟩
theorem br_D_all {cI cZ : ClassId} {ad : Nat → Nat} {A : Nat → Prop} {σ : br_Wd} (h : va_D A (br_W cI cZ ad σ)) (τ : br_Wd) : va_D A (br_W cI cZ ad τ) := by
  refine ⟨fun i j p q hp hq e => ?_, fun k q hq => ?_⟩
  · obtain ⟨p', hp', e1⟩ := br_W_addr τ σ i p hp
    obtain ⟨q', hq', e2⟩ := br_W_addr τ σ j q hq
    exact h.1 i j p' q' hp' hq' (by rw [e1, e2]; exact e)
  · obtain ⟨q', hq', e⟩ := br_W_addr τ σ k q hq
    rw [← e]
    exact h.2 k q' hq'
theorem br_ofW {Y : br_Y} {d : Nat} {args : List br_V} {σ : br_Wd} {P : br_post} (hy : plainName Y.1.cls = true) (n : Nat) (hn : (br_ent args).length + n = Y.2.2.1)
    (h : ∀ G, br_Ok Y d P G → G 0 (br_ent args ++ List.replicate n none) [] σ) : br_Met d Y args σ P := by
  intro l D cI cZ ad sz
  refine Met.ofW (cc := Y.2.1) (maxL := Y.2.2.1) (ret := Y.2.2.2) hy rfl ?_
  intro p e s m args' below meth c s₁ B hml hv
  obtain ⟨rfl, hsz, hP, hK, hD0, hN⟩ := hv
  subst hsz
  have hx := B.exec
  have hb := B.bytes
  have hr := B.returns
  have hts := atoms_spec (ws := br_ws Y) B.pre
  have hown : s.vm.findClass Y.1.cls = some m.cls := findClass_of_methodNamed B.named
  have hlocks := B.notSynchronized
  have hD := hD0.self (sz := s.heap.size)
  rw [lg_entry_eq]
  have hl := lv_entry (args.map (br_av ad)) (n := Y.2.2.1) (by rw [br_ent_len]; omega)
  rw [← br_asc_ent ad n] at hl
  refine ((?_ : (fun pc L st τ => ∀ (H : Heap) (locs : List Loc) (ls : Array Slot), va_P D vwCl (br_W cI cZ ad τ) H → va_S (va_A (br_W cI cZ ad σ) s.heap.size) s.heap H locs → lv_has ls Y.2.2.1 (br_asc ad 0 L) → W p l e (headSpec (br_ws Y) (br_room d)).room s m (args.map (br_av ad)).toArray below meth c H locs 0 0 (MQ below (br_Q D cI cZ ad (va_A (br_W cI cZ ad σ) s.heap.size) P) (args.map (br_av ad)).toArray s 0 0 (va_A (br_W cI cZ ad σ) s.heap.size)) (F0 m pc ls (st.map (br_av ad)))) 0 (br_ent args ++ List.replicate n none) [] σ)) s.heap [] _ hP va_S.rf hl
  refine h _ ⟨p, l, e, _, s, m, _, below, meth, c, 0, 0, _, D, cI, cZ, ad, _, s.heap, ⟨hx, hb, hml, hown, fun w hw => hts w (List.mem_cons_of_mem _ hw)⟩, ⟨hK, fun τ => br_D_all hD τ, fun q hq => Or.inr hq, hN⟩, ⟨Nat.le_refl _, Nat.le_refl _, Nat.zero_le _, Nat.zero_le _⟩, ?_, fun pc L st τ => Iff.rfl⟩
  intro v τ H locs pc ls hp hPH hS hret
  have hq : ∀ t : State, t.heap = H → s.WarmedH t.vm → br_Q D cI cZ ad (va_A (br_W cI cZ ad σ) s.heap.size) P (args.map (br_av ad)).toArray s (.returned (v.map (br_av ad))) t := fun t ht hW => ⟨⟨v, τ, rfl, hp, by rw [ht]; exact hPH⟩, hS.F ht⟩
  match v, hret, hq with
  | none, hret, hq => exact W.vret hx hb (hr.trans hret.1) hq hS.2.2 hret.2
  | some (.inl x), hret, hq =>
    obtain ⟨⟨ty, h1, h2⟩, h3⟩ := hret
    exact W.zret (v := x) (ty := ty) hx hb (hr.trans h1) h2 hq hS.2.2 h3
  | some (.inr (.inl x)), hret, hq => exact W.lret (v := x) hx hb (hr.trans hret.1) hq hS.2.2 hret.2
  | some (.inr (.inr q)), hret, hq => exact hret.elim
end
section
theorem br_iload_n {Y : br_Y} {d : Nat} {P : br_post} {G : br_Jg} (C : br_Ok Y d P G) {k : Fin 4} {i : Nat} {x : Int32} {pc : Nat} {L : List (Option br_V)} {st : List br_V} {σ : br_Wd} (hd : decode Y.2.1 pc = .ok (.iload_n k, 1)) (hi : (k : Nat) = i) (hl : L[i]? = some (some (br_i x))) (kk : G (pc + 1) L (br_i x :: st) σ) : G pc L st σ := by
  obtain ⟨p, l, e, R, s, m, args, below, meth, c, cells, slots, Q, D, cI, cZ, ad, A, H0, ⟨hx, hb, hml, hown, hts⟩, ⟨hK, hD, hA, hN⟩, hR, hfin, hG⟩ := C
  rw [hG] at kk ⊢
  intro H locs ls hP hS hl'
  exact lv_iload_n hx hb hd hi (br_loc hl' hl) (kk H locs ls hP hS hl')
theorem br_iload {Y : br_Y} {d : Nat} {P : br_post} {G : br_Jg} (C : br_Ok Y d P G) {i : Nat} {x : Int32} {pc : Nat} {L : List (Option br_V)} {st : List br_V} {σ : br_Wd} (hd : decode Y.2.1 pc = .ok (.iload i, 2)) (hl : L[i]? = some (some (br_i x))) (kk : G (pc + 2) L (br_i x :: st) σ) : G pc L st σ := by
  obtain ⟨p, l, e, R, s, m, args, below, meth, c, cells, slots, Q, D, cI, cZ, ad, A, H0, ⟨hx, hb, hml, hown, hts⟩, ⟨hK, hD, hA, hN⟩, hR, hfin, hG⟩ := C
  rw [hG] at kk ⊢
  intro H locs ls hP hS hl'
  exact lv_iload hx hb hd (br_loc hl' hl) (kk H locs ls hP hS hl')
theorem br_lload_n {Y : br_Y} {d : Nat} {P : br_post} {G : br_Jg} (C : br_Ok Y d P G) {k : Fin 4} {i : Nat} {x : Int64} {pc : Nat} {L : List (Option br_V)} {st : List br_V} {σ : br_Wd} (hd : decode Y.2.1 pc = .ok (.lload_n k, 1)) (hi : (k : Nat) = i) (hl : L[i]? = some (some (br_l x))) (kk : G (pc + 1) L (br_l x :: st) σ) : G pc L st σ := by
  obtain ⟨p, l, e, R, s, m, args, below, meth, c, cells, slots, Q, D, cI, cZ, ad, A, H0, ⟨hx, hb, hml, hown, hts⟩, ⟨hK, hD, hA, hN⟩, hR, hfin, hG⟩ := C
  rw [hG] at kk ⊢
  intro H locs ls hP hS hl'
  exact lv_lload_n hx hb hd hi (br_loc hl' hl) (kk H locs ls hP hS hl')
theorem br_lload {Y : br_Y} {d : Nat} {P : br_post} {G : br_Jg} (C : br_Ok Y d P G) {i : Nat} {x : Int64} {pc : Nat} {L : List (Option br_V)} {st : List br_V} {σ : br_Wd} (hd : decode Y.2.1 pc = .ok (.lload i, 2)) (hl : L[i]? = some (some (br_l x))) (kk : G (pc + 2) L (br_l x :: st) σ) : G pc L st σ := by
  obtain ⟨p, l, e, R, s, m, args, below, meth, c, cells, slots, Q, D, cI, cZ, ad, A, H0, ⟨hx, hb, hml, hown, hts⟩, ⟨hK, hD, hA, hN⟩, hR, hfin, hG⟩ := C
  rw [hG] at kk ⊢
  intro H locs ls hP hS hl'
  exact lv_lload hx hb hd (br_loc hl' hl) (kk H locs ls hP hS hl')
theorem br_aload_n {Y : br_Y} {d : Nat} {P : br_post} {G : br_Jg} (C : br_Ok Y d P G) {k : Fin 4} {i : Nat} {x : Nat} {pc : Nat} {L : List (Option br_V)} {st : List br_V} {σ : br_Wd} (hd : decode Y.2.1 pc = .ok (.aload_n k, 1)) (hi : (k : Nat) = i) (hl : L[i]? = some (some (br_r x))) (kk : G (pc + 1) L (br_r x :: st) σ) : G pc L st σ := by
  obtain ⟨p, l, e, R, s, m, args, below, meth, c, cells, slots, Q, D, cI, cZ, ad, A, H0, ⟨hx, hb, hml, hown, hts⟩, ⟨hK, hD, hA, hN⟩, hR, hfin, hG⟩ := C
  rw [hG] at kk ⊢
  intro H locs ls hP hS hl'
  exact lv_aload_n hx hb hd hi (br_loc hl' hl) (kk H locs ls hP hS hl')
theorem br_aload {Y : br_Y} {d : Nat} {P : br_post} {G : br_Jg} (C : br_Ok Y d P G) {i : Nat} {x : Nat} {pc : Nat} {L : List (Option br_V)} {st : List br_V} {σ : br_Wd} (hd : decode Y.2.1 pc = .ok (.aload i, 2)) (hl : L[i]? = some (some (br_r x))) (kk : G (pc + 2) L (br_r x :: st) σ) : G pc L st σ := by
  obtain ⟨p, l, e, R, s, m, args, below, meth, c, cells, slots, Q, D, cI, cZ, ad, A, H0, ⟨hx, hb, hml, hown, hts⟩, ⟨hK, hD, hA, hN⟩, hR, hfin, hG⟩ := C
  rw [hG] at kk ⊢
  intro H locs ls hP hS hl'
  exact lv_aload hx hb hd (br_loc hl' hl) (kk H locs ls hP hS hl')
theorem br_iconst {Y : br_Y} {d : Nat} {P : br_post} {G : br_Jg} (C : br_Ok Y d P G) {n : Int} {v : Int32} {pc : Nat} {L : List (Option br_V)} {st : List br_V} {σ : br_Wd} (hd : decode Y.2.1 pc = .ok (.iconst n, 1)) (hv : Int32.ofInt n = v) (kk : G (pc + 1) L (br_i v :: st) σ) : G pc L st σ := by
  obtain ⟨p, l, e, R, s, m, args, below, meth, c, cells, slots, Q, D, cI, cZ, ad, A, H0, ⟨hx, hb, hml, hown, hts⟩, ⟨hK, hD, hA, hN⟩, hR, hfin, hG⟩ := C
  rw [hG] at kk ⊢
  intro H locs ls hP hS hl'
  exact lv_iconst hx hb hd hv (kk H locs ls hP hS hl')
theorem br_bipush {Y : br_Y} {d : Nat} {P : br_post} {G : br_Jg} (C : br_Ok Y d P G) {n : Int} {v : Int32} {pc : Nat} {L : List (Option br_V)} {st : List br_V} {σ : br_Wd} (hd : decode Y.2.1 pc = .ok (.bipush n, 2)) (hv : (Int8.ofInt n).toInt32 = v) (kk : G (pc + 2) L (br_i v :: st) σ) : G pc L st σ := by
  obtain ⟨p, l, e, R, s, m, args, below, meth, c, cells, slots, Q, D, cI, cZ, ad, A, H0, ⟨hx, hb, hml, hown, hts⟩, ⟨hK, hD, hA, hN⟩, hR, hfin, hG⟩ := C
  rw [hG] at kk ⊢
  intro H locs ls hP hS hl'
  exact lv_bipush hx hb hd hv (kk H locs ls hP hS hl')
theorem br_sipush {Y : br_Y} {d : Nat} {P : br_post} {G : br_Jg} (C : br_Ok Y d P G) {n : Int} {v : Int32} {pc : Nat} {L : List (Option br_V)} {st : List br_V} {σ : br_Wd} (hd : decode Y.2.1 pc = .ok (.sipush n, 3)) (hv : (Int16.ofInt n).toInt32 = v) (kk : G (pc + 3) L (br_i v :: st) σ) : G pc L st σ := by
  obtain ⟨p, l, e, R, s, m, args, below, meth, c, cells, slots, Q, D, cI, cZ, ad, A, H0, ⟨hx, hb, hml, hown, hts⟩, ⟨hK, hD, hA, hN⟩, hR, hfin, hG⟩ := C
  rw [hG] at kk ⊢
  intro H locs ls hP hS hl'
  exact lv_sipush hx hb hd hv (kk H locs ls hP hS hl')
theorem br_lconst {Y : br_Y} {d : Nat} {P : br_post} {G : br_Jg} (C : br_Ok Y d P G) {n : Fin 2} {v : Int64} {pc : Nat} {L : List (Option br_V)} {st : List br_V} {σ : br_Wd} (hd : decode Y.2.1 pc = .ok (.lconst n, 1)) (hv : Int64.ofNat (n : Nat) = v) (kk : G (pc + 1) L (br_l v :: st) σ) : G pc L st σ := by
  obtain ⟨p, l, e, R, s, m, args, below, meth, c, cells, slots, Q, D, cI, cZ, ad, A, H0, ⟨hx, hb, hml, hown, hts⟩, ⟨hK, hD, hA, hN⟩, hR, hfin, hG⟩ := C
  rw [hG] at kk ⊢
  intro H locs ls hP hS hl'
  exact lv_lconst hx hb hd hv (kk H locs ls hP hS hl')
theorem br_ldc {Y : br_Y} {d : Nat} {P : br_post} {G : br_Jg} (C : br_Ok Y d P G) {index : Nat} {v : Int32} {pc : Nat} {L : List (Option br_V)} {st : List br_V} {σ : br_Wd} (hd : decode Y.2.1 pc = .ok (.ldc index, 2)) (hw : Cond.constant Y.1.cls index v ∈ br_W0) (kk : G (pc + 2) L (br_i v :: st) σ) : G pc L st σ := by
  obtain ⟨p, l, e, R, s, m, args, below, meth, c, cells, slots, Q, D, cI, cZ, ad, A, H0, ⟨hx, hb, hml, hown, hts⟩, ⟨hK, hD, hA, hN⟩, hR, hfin, hG⟩ := C
  rw [hG] at kk ⊢
  intro H locs ls hP hS hl'
  exact lv_ldc hx hb hown (hts _ hw) hd (kk H locs ls hP hS hl')
theorem br_ldc2 {Y : br_Y} {d : Nat} {P : br_post} {G : br_Jg} (C : br_Ok Y d P G) {index : Nat} {v : Int64} {pc : Nat} {L : List (Option br_V)} {st : List br_V} {σ : br_Wd} (hd : decode Y.2.1 pc = .ok (.ldc2_w index, 3)) (hw : Cond.constantLong Y.1.cls index v ∈ br_W0) (kk : G (pc + 3) L (br_l v :: st) σ) : G pc L st σ := by
  obtain ⟨p, l, e, R, s, m, args, below, meth, c, cells, slots, Q, D, cI, cZ, ad, A, H0, ⟨hx, hb, hml, hown, hts⟩, ⟨hK, hD, hA, hN⟩, hR, hfin, hG⟩ := C
  rw [hG] at kk ⊢
  intro H locs ls hP hS hl'
  exact lv_ldc2 hx hb hown (hts _ hw) hd (kk H locs ls hP hS hl')
theorem br_istore_n {Y : br_Y} {d : Nat} {P : br_post} {G : br_Jg} (C : br_Ok Y d P G) {k : Fin 4} {i : Nat} {x : Int32} {L' : List (Option br_V)} {pc : Nat} {L : List (Option br_V)} {st : List br_V} {σ : br_Wd} (hd : decode Y.2.1 pc = .ok (.istore_n k, 1)) (hi : (k : Nat) = i) (hn : i < Y.2.2.1) (ho : br_okst L i = true) (hL : L.set i (some (br_i x)) = L') (kk : G (pc + 1) L' st σ) : G pc L (br_i x :: st) σ := by
  obtain ⟨p, l, e, R, s, m, args, below, meth, c, cells, slots, Q, D, cI, cZ, ad, A, H0, ⟨hx, hb, hml, hown, hts⟩, ⟨hK, hD, hA, hN⟩, hR, hfin, hG⟩ := C
  rw [hG] at kk ⊢
  intro H locs ls hP hS hl'
  exact lv_istore_n hx hb hd hi hl' hn rfl (fun ls h => kk H locs ls hP hS (by rw [← hL]; exact br_set1 (v := br_i x) ho h))
theorem br_istore {Y : br_Y} {d : Nat} {P : br_post} {G : br_Jg} (C : br_Ok Y d P G) {i : Nat} {x : Int32} {L' : List (Option br_V)} {pc : Nat} {L : List (Option br_V)} {st : List br_V} {σ : br_Wd} (hd : decode Y.2.1 pc = .ok (.istore i, 2)) (hn : i < Y.2.2.1) (ho : br_okst L i = true) (hL : L.set i (some (br_i x)) = L') (kk : G (pc + 2) L' st σ) : G pc L (br_i x :: st) σ := by
  obtain ⟨p, l, e, R, s, m, args, below, meth, c, cells, slots, Q, D, cI, cZ, ad, A, H0, ⟨hx, hb, hml, hown, hts⟩, ⟨hK, hD, hA, hN⟩, hR, hfin, hG⟩ := C
  rw [hG] at kk ⊢
  intro H locs ls hP hS hl'
  exact lv_istore hx hb hd hl' hn rfl (fun ls h => kk H locs ls hP hS (by rw [← hL]; exact br_set1 (v := br_i x) ho h))
theorem br_lstore_n {Y : br_Y} {d : Nat} {P : br_post} {G : br_Jg} (C : br_Ok Y d P G) {k : Fin 4} {i : Nat} {x : Int64} {L' : List (Option br_V)} {pc : Nat} {L : List (Option br_V)} {st : List br_V} {σ : br_Wd} (hd : decode Y.2.1 pc = .ok (.lstore_n k, 1)) (hi : (k : Nat) = i) (hn : i + 1 < Y.2.2.1) (ho : br_okst L i = true) (hL : (L.set i (some (br_l x))).set (i + 1) none = L') (kk : G (pc + 1) L' st σ) : G pc L (br_l x :: st) σ := by
  obtain ⟨p, l, e, R, s, m, args, below, meth, c, cells, slots, Q, D, cI, cZ, ad, A, H0, ⟨hx, hb, hml, hown, hts⟩, ⟨hK, hD, hA, hN⟩, hR, hfin, hG⟩ := C
  rw [hG] at kk ⊢
  intro H locs ls hP hS hl'
  exact lv_lstore_n hx hb hd hi hl' hn rfl (fun ls h => kk H locs ls hP hS (by rw [← hL]; exact br_set2 (v := br_l x) ho h))
theorem br_lstore {Y : br_Y} {d : Nat} {P : br_post} {G : br_Jg} (C : br_Ok Y d P G) {i : Nat} {x : Int64} {L' : List (Option br_V)} {pc : Nat} {L : List (Option br_V)} {st : List br_V} {σ : br_Wd} (hd : decode Y.2.1 pc = .ok (.lstore i, 2)) (hn : i + 1 < Y.2.2.1) (ho : br_okst L i = true) (hL : (L.set i (some (br_l x))).set (i + 1) none = L') (kk : G (pc + 2) L' st σ) : G pc L (br_l x :: st) σ := by
  obtain ⟨p, l, e, R, s, m, args, below, meth, c, cells, slots, Q, D, cI, cZ, ad, A, H0, ⟨hx, hb, hml, hown, hts⟩, ⟨hK, hD, hA, hN⟩, hR, hfin, hG⟩ := C
  rw [hG] at kk ⊢
  intro H locs ls hP hS hl'
  exact lv_lstore hx hb hd hl' hn rfl (fun ls h => kk H locs ls hP hS (by rw [← hL]; exact br_set2 (v := br_l x) ho h))
theorem br_iinc {Y : br_Y} {d : Nat} {P : br_post} {G : br_Jg} (C : br_Ok Y d P G) {i : Nat} {n : Int} {x v : Int32} {L' : List (Option br_V)} {pc : Nat} {L : List (Option br_V)} {st : List br_V} {σ : br_Wd} (hd : decode Y.2.1 pc = .ok (.iinc i n, 3)) (hl : L[i]? = some (some (br_i x))) (hv : x + Int32.ofInt n = v) (hn : i < Y.2.2.1) (ho : br_okst L i = true) (hL : L.set i (some (br_i v)) = L') (kk : G (pc + 3) L' st σ) : G pc L st σ := by
  obtain ⟨p, l, e, R, s, m, args, below, meth, c, cells, slots, Q, D, cI, cZ, ad, A, H0, ⟨hx, hb, hml, hown, hts⟩, ⟨hK, hD, hA, hN⟩, hR, hfin, hG⟩ := C
  rw [hG] at kk ⊢
  intro H locs ls hP hS hl'
  obtain ⟨k, hk⟩ := List.getElem?_of_mem ((br_asc_mem (ad := ad) L 0 (i, .int x)).mpr ⟨i, br_i x, hl, by rw [Nat.zero_add]; rfl⟩)
  exact lv_iinc hx hb hd hl' hk hv hn rfl (fun ls h => kk H locs ls hP hS (by rw [← hL]; exact br_set1 (v := br_i v) ho h))
theorem br_iadd {Y : br_Y} {d : Nat} {P : br_post} {G : br_Jg} (C : br_Ok Y d P G) {x y : Int32} {pc : Nat} {L : List (Option br_V)} {st : List br_V} {σ : br_Wd} (hd : decode Y.2.1 pc = .ok (.iadd, 1)) (kk : G (pc + 1) L (br_i (x + y) :: st) σ) : G pc L (br_i y :: br_i x :: st) σ := by
  obtain ⟨p, l, e, R, s, m, args, below, meth, c, cells, slots, Q, D, cI, cZ, ad, A, H0, ⟨hx, hb, hml, hown, hts⟩, ⟨hK, hD, hA, hN⟩, hR, hfin, hG⟩ := C
  rw [hG] at kk ⊢
  intro H locs ls hP hS hl'
  exact lv_iadd hx hb hd (kk H locs ls hP hS hl')
theorem br_isub {Y : br_Y} {d : Nat} {P : br_post} {G : br_Jg} (C : br_Ok Y d P G) {x y : Int32} {pc : Nat} {L : List (Option br_V)} {st : List br_V} {σ : br_Wd} (hd : decode Y.2.1 pc = .ok (.isub, 1)) (kk : G (pc + 1) L (br_i (x - y) :: st) σ) : G pc L (br_i y :: br_i x :: st) σ := by
  obtain ⟨p, l, e, R, s, m, args, below, meth, c, cells, slots, Q, D, cI, cZ, ad, A, H0, ⟨hx, hb, hml, hown, hts⟩, ⟨hK, hD, hA, hN⟩, hR, hfin, hG⟩ := C
  rw [hG] at kk ⊢
  intro H locs ls hP hS hl'
  exact lv_isub hx hb hd (kk H locs ls hP hS hl')
theorem br_imul {Y : br_Y} {d : Nat} {P : br_post} {G : br_Jg} (C : br_Ok Y d P G) {x y : Int32} {pc : Nat} {L : List (Option br_V)} {st : List br_V} {σ : br_Wd} (hd : decode Y.2.1 pc = .ok (.imul, 1)) (kk : G (pc + 1) L (br_i (x * y) :: st) σ) : G pc L (br_i y :: br_i x :: st) σ := by
  obtain ⟨p, l, e, R, s, m, args, below, meth, c, cells, slots, Q, D, cI, cZ, ad, A, H0, ⟨hx, hb, hml, hown, hts⟩, ⟨hK, hD, hA, hN⟩, hR, hfin, hG⟩ := C
  rw [hG] at kk ⊢
  intro H locs ls hP hS hl'
  exact lv_imul hx hb hd (kk H locs ls hP hS hl')
theorem br_iand {Y : br_Y} {d : Nat} {P : br_post} {G : br_Jg} (C : br_Ok Y d P G) {x y : Int32} {pc : Nat} {L : List (Option br_V)} {st : List br_V} {σ : br_Wd} (hd : decode Y.2.1 pc = .ok (.iand, 1)) (kk : G (pc + 1) L (br_i (x &&& y) :: st) σ) : G pc L (br_i y :: br_i x :: st) σ := by
  obtain ⟨p, l, e, R, s, m, args, below, meth, c, cells, slots, Q, D, cI, cZ, ad, A, H0, ⟨hx, hb, hml, hown, hts⟩, ⟨hK, hD, hA, hN⟩, hR, hfin, hG⟩ := C
  rw [hG] at kk ⊢
  intro H locs ls hP hS hl'
  exact lv_iand hx hb hd (kk H locs ls hP hS hl')
theorem br_ior {Y : br_Y} {d : Nat} {P : br_post} {G : br_Jg} (C : br_Ok Y d P G) {x y : Int32} {pc : Nat} {L : List (Option br_V)} {st : List br_V} {σ : br_Wd} (hd : decode Y.2.1 pc = .ok (.ior, 1)) (kk : G (pc + 1) L (br_i (x ||| y) :: st) σ) : G pc L (br_i y :: br_i x :: st) σ := by
  obtain ⟨p, l, e, R, s, m, args, below, meth, c, cells, slots, Q, D, cI, cZ, ad, A, H0, ⟨hx, hb, hml, hown, hts⟩, ⟨hK, hD, hA, hN⟩, hR, hfin, hG⟩ := C
  rw [hG] at kk ⊢
  intro H locs ls hP hS hl'
  exact lv_ior hx hb hd (kk H locs ls hP hS hl')
theorem br_ishl {Y : br_Y} {d : Nat} {P : br_post} {G : br_Jg} (C : br_Ok Y d P G) {x y : Int32} {pc : Nat} {L : List (Option br_V)} {st : List br_V} {σ : br_Wd} (hd : decode Y.2.1 pc = .ok (.ishl, 1)) (kk : G (pc + 1) L (br_i (x <<< (y &&& 31)) :: st) σ) : G pc L (br_i y :: br_i x :: st) σ := by
  obtain ⟨p, l, e, R, s, m, args, below, meth, c, cells, slots, Q, D, cI, cZ, ad, A, H0, ⟨hx, hb, hml, hown, hts⟩, ⟨hK, hD, hA, hN⟩, hR, hfin, hG⟩ := C
  rw [hG] at kk ⊢
  intro H locs ls hP hS hl'
  exact lv_ishl hx hb hd (kk H locs ls hP hS hl')
theorem br_ishr {Y : br_Y} {d : Nat} {P : br_post} {G : br_Jg} (C : br_Ok Y d P G) {x y : Int32} {pc : Nat} {L : List (Option br_V)} {st : List br_V} {σ : br_Wd} (hd : decode Y.2.1 pc = .ok (.ishr, 1)) (kk : G (pc + 1) L (br_i (x >>> (y &&& 31)) :: st) σ) : G pc L (br_i y :: br_i x :: st) σ := by
  obtain ⟨p, l, e, R, s, m, args, below, meth, c, cells, slots, Q, D, cI, cZ, ad, A, H0, ⟨hx, hb, hml, hown, hts⟩, ⟨hK, hD, hA, hN⟩, hR, hfin, hG⟩ := C
  rw [hG] at kk ⊢
  intro H locs ls hP hS hl'
  exact lv_ishr hx hb hd (kk H locs ls hP hS hl')
theorem br_idiv {Y : br_Y} {d : Nat} {P : br_post} {G : br_Jg} (C : br_Ok Y d P G) {x y : Int32} {pc : Nat} {L : List (Option br_V)} {st : List br_V} {σ : br_Wd} (hne : ¬ y = 0) (hd : decode Y.2.1 pc = .ok (.idiv, 1)) (kk : G (pc + 1) L (br_i (x / y) :: st) σ) : G pc L (br_i y :: br_i x :: st) σ := by
  obtain ⟨p, l, e, R, s, m, args, below, meth, c, cells, slots, Q, D, cI, cZ, ad, A, H0, ⟨hx, hb, hml, hown, hts⟩, ⟨hK, hD, hA, hN⟩, hR, hfin, hG⟩ := C
  rw [hG] at kk ⊢
  intro H locs ls hP hS hl'
  exact lv_idiv hx hb hd hne (kk H locs ls hP hS hl')
theorem br_irem {Y : br_Y} {d : Nat} {P : br_post} {G : br_Jg} (C : br_Ok Y d P G) {x y : Int32} {pc : Nat} {L : List (Option br_V)} {st : List br_V} {σ : br_Wd} (hne : ¬ y = 0) (hd : decode Y.2.1 pc = .ok (.irem, 1)) (kk : G (pc + 1) L (br_i (x - x / y * y) :: st) σ) : G pc L (br_i y :: br_i x :: st) σ := by
  obtain ⟨p, l, e, R, s, m, args, below, meth, c, cells, slots, Q, D, cI, cZ, ad, A, H0, ⟨hx, hb, hml, hown, hts⟩, ⟨hK, hD, hA, hN⟩, hR, hfin, hG⟩ := C
  rw [hG] at kk ⊢
  intro H locs ls hP hS hl'
  exact lv_irem hx hb hd hne (kk H locs ls hP hS hl')
theorem br_ladd {Y : br_Y} {d : Nat} {P : br_post} {G : br_Jg} (C : br_Ok Y d P G) {x y : Int64} {pc : Nat} {L : List (Option br_V)} {st : List br_V} {σ : br_Wd} (hd : decode Y.2.1 pc = .ok (.ladd, 1)) (kk : G (pc + 1) L (br_l (x + y) :: st) σ) : G pc L (br_l y :: br_l x :: st) σ := by
  obtain ⟨p, l, e, R, s, m, args, below, meth, c, cells, slots, Q, D, cI, cZ, ad, A, H0, ⟨hx, hb, hml, hown, hts⟩, ⟨hK, hD, hA, hN⟩, hR, hfin, hG⟩ := C
  rw [hG] at kk ⊢
  intro H locs ls hP hS hl'
  exact lv_ladd hx hb hd (kk H locs ls hP hS hl')
theorem br_lmul {Y : br_Y} {d : Nat} {P : br_post} {G : br_Jg} (C : br_Ok Y d P G) {x y : Int64} {pc : Nat} {L : List (Option br_V)} {st : List br_V} {σ : br_Wd} (hd : decode Y.2.1 pc = .ok (.lmul, 1)) (kk : G (pc + 1) L (br_l (x * y) :: st) σ) : G pc L (br_l y :: br_l x :: st) σ := by
  obtain ⟨p, l, e, R, s, m, args, below, meth, c, cells, slots, Q, D, cI, cZ, ad, A, H0, ⟨hx, hb, hml, hown, hts⟩, ⟨hK, hD, hA, hN⟩, hR, hfin, hG⟩ := C
  rw [hG] at kk ⊢
  intro H locs ls hP hS hl'
  exact lv_lmul hx hb hd (kk H locs ls hP hS hl')
theorem br_land {Y : br_Y} {d : Nat} {P : br_post} {G : br_Jg} (C : br_Ok Y d P G) {x y : Int64} {pc : Nat} {L : List (Option br_V)} {st : List br_V} {σ : br_Wd} (hd : decode Y.2.1 pc = .ok (.land, 1)) (kk : G (pc + 1) L (br_l (x &&& y) :: st) σ) : G pc L (br_l y :: br_l x :: st) σ := by
  obtain ⟨p, l, e, R, s, m, args, below, meth, c, cells, slots, Q, D, cI, cZ, ad, A, H0, ⟨hx, hb, hml, hown, hts⟩, ⟨hK, hD, hA, hN⟩, hR, hfin, hG⟩ := C
  rw [hG] at kk ⊢
  intro H locs ls hP hS hl'
  exact lv_land hx hb hd (kk H locs ls hP hS hl')
theorem br_lrem {Y : br_Y} {d : Nat} {P : br_post} {G : br_Jg} (C : br_Ok Y d P G) {x y : Int64} {pc : Nat} {L : List (Option br_V)} {st : List br_V} {σ : br_Wd} (hne : ¬ y = 0) (hd : decode Y.2.1 pc = .ok (.lrem, 1)) (kk : G (pc + 1) L (br_l (x - x / y * y) :: st) σ) : G pc L (br_l y :: br_l x :: st) σ := by
  obtain ⟨p, l, e, R, s, m, args, below, meth, c, cells, slots, Q, D, cI, cZ, ad, A, H0, ⟨hx, hb, hml, hown, hts⟩, ⟨hK, hD, hA, hN⟩, hR, hfin, hG⟩ := C
  rw [hG] at kk ⊢
  intro H locs ls hP hS hl'
  exact lv_lrem hx hb hd hne (kk H locs ls hP hS hl')
theorem br_i2l {Y : br_Y} {d : Nat} {P : br_post} {G : br_Jg} (C : br_Ok Y d P G) {x : Int32} {pc : Nat} {L : List (Option br_V)} {st : List br_V} {σ : br_Wd} (hd : decode Y.2.1 pc = .ok (.i2l, 1)) (kk : G (pc + 1) L (br_l x.toInt64 :: st) σ) : G pc L (br_i x :: st) σ := by
  obtain ⟨p, l, e, R, s, m, args, below, meth, c, cells, slots, Q, D, cI, cZ, ad, A, H0, ⟨hx, hb, hml, hown, hts⟩, ⟨hK, hD, hA, hN⟩, hR, hfin, hG⟩ := C
  rw [hG] at kk ⊢
  intro H locs ls hP hS hl'
  exact lv_i2l hx hb hd rfl (kk H locs ls hP hS hl')
theorem br_l2i {Y : br_Y} {d : Nat} {P : br_post} {G : br_Jg} (C : br_Ok Y d P G) {x : Int64} {pc : Nat} {L : List (Option br_V)} {st : List br_V} {σ : br_Wd} (hd : decode Y.2.1 pc = .ok (.l2i, 1)) (kk : G (pc + 1) L (br_i x.toInt32 :: st) σ) : G pc L (br_l x :: st) σ := by
  obtain ⟨p, l, e, R, s, m, args, below, meth, c, cells, slots, Q, D, cI, cZ, ad, A, H0, ⟨hx, hb, hml, hown, hts⟩, ⟨hK, hD, hA, hN⟩, hR, hfin, hG⟩ := C
  rw [hG] at kk ⊢
  intro H locs ls hP hS hl'
  exact lv_l2i hx hb hd rfl (kk H locs ls hP hS hl')
theorem br_lcmp {Y : br_Y} {d : Nat} {P : br_post} {G : br_Jg} (C : br_Ok Y d P G) {x y : Int64} {pc : Nat} {L : List (Option br_V)} {st : List br_V} {σ : br_Wd} (hd : decode Y.2.1 pc = .ok (.lcmp, 1)) (kk : G (pc + 1) L (br_i (lg_cmp x y) :: st) σ) : G pc L (br_l y :: br_l x :: st) σ := by
  obtain ⟨p, l, e, R, s, m, args, below, meth, c, cells, slots, Q, D, cI, cZ, ad, A, H0, ⟨hx, hb, hml, hown, hts⟩, ⟨hK, hD, hA, hN⟩, hR, hfin, hG⟩ := C
  rw [hG] at kk ⊢
  intro H locs ls hP hS hl'
  exact W.lcmp hx hb hd (kk H locs ls hP hS hl')
theorem br_dup {Y : br_Y} {d : Nat} {P : br_post} {G : br_Jg} (C : br_Ok Y d P G) {v : br_V} {pc : Nat} {L : List (Option br_V)} {st : List br_V} {σ : br_Wd} (hd : decode Y.2.1 pc = .ok (.dup, 1)) (hv : br_isl v = false) (kk : G (pc + 1) L (v :: v :: st) σ) : G pc L (v :: st) σ := by
  obtain ⟨p, l, e, R, s, m, args, below, meth, c, cells, slots, Q, D, cI, cZ, ad, A, H0, ⟨hx, hb, hml, hown, hts⟩, ⟨hK, hD, hA, hN⟩, hR, hfin, hG⟩ := C
  rw [hG] at kk ⊢
  intro H locs ls hP hS hl'
  refine lv_dup hx hb hd ?_ (kk H locs ls hP hS hl')
  match v, hv with
  | .inl x, _ => rfl
  | .inr (.inr q), _ => rfl
theorem br_goto {Y : br_Y} {d : Nat} {P : br_post} {G : br_Jg} (C : br_Ok Y d P G) {off : Int} {tgt : Nat} {pc : Nat} {L : List (Option br_V)} {st : List br_V} {σ : br_Wd} (hd : decode Y.2.1 pc = .ok (.goto off, 3)) (ht : (pc : Int) + off = (tgt : Int)) (kk : G tgt L st σ) : G pc L st σ := by
  obtain ⟨p, l, e, R, s, m, args, below, meth, c, cells, slots, Q, D, cI, cZ, ad, A, H0, ⟨hx, hb, hml, hown, hts⟩, ⟨hK, hD, hA, hN⟩, hR, hfin, hG⟩ := C
  rw [hG] at kk ⊢
  intro H locs ls hP hS hl'
  exact lv_goto hx hb hd ht (kk H locs ls hP hS hl')
theorem br_name {α : Sort _} {Q : α → Prop} (x : α) (h : ∀ y, y = x → Q y) : Q x := h x rfl
theorem br_if_eq {Y : br_Y} {d : Nat} {P : br_post} {G : br_Jg} (C : br_Ok Y d P G) {x : Int32} {off : Int} {tgt : Nat} {pc : Nat} {L : List (Option br_V)} {st : List br_V} {σ : br_Wd} (hd : decode Y.2.1 pc = .ok (.ifCond .eq off, 3)) (ht : (pc : Int) + off = (tgt : Int)) (kt : x = 0 → G tgt L st σ) (kf : ¬ x = 0 → G (pc + 3) L st σ) : G pc L (br_i x :: st) σ := by
  obtain ⟨p, l, e, R, s, m, args, below, meth, c, cells, slots, Q, D, cI, cZ, ad, A, H0, ⟨hx, hb, hml, hown, hts⟩, ⟨hK, hD, hA, hN⟩, hR, hfin, hG⟩ := C
  rw [hG]
  intro H locs ls hP hS hl'
  exact lv_if_eq hx hb hd ht (fun h => (hG _ _ _ _).mp (kt h) H locs ls hP hS hl') (fun h => (hG _ _ _ _).mp (kf h) H locs ls hP hS hl')
theorem br_icmp_eq {Y : br_Y} {d : Nat} {P : br_post} {G : br_Jg} (C : br_Ok Y d P G) {x y : Int32} {off : Int} {tgt : Nat} {pc : Nat} {L : List (Option br_V)} {st : List br_V} {σ : br_Wd} (hd : decode Y.2.1 pc = .ok (.if_icmp .eq off, 3)) (ht : (pc : Int) + off = (tgt : Int)) (kt : x = y → G tgt L st σ) (kf : ¬ x = y → G (pc + 3) L st σ) : G pc L (br_i y :: br_i x :: st) σ := by
  obtain ⟨p, l, e, R, s, m, args, below, meth, c, cells, slots, Q, D, cI, cZ, ad, A, H0, ⟨hx, hb, hml, hown, hts⟩, ⟨hK, hD, hA, hN⟩, hR, hfin, hG⟩ := C
  rw [hG]
  intro H locs ls hP hS hl'
  exact lv_icmp_eq hx hb hd ht (fun h => (hG _ _ _ _).mp (kt h) H locs ls hP hS hl') (fun h => (hG _ _ _ _).mp (kf h) H locs ls hP hS hl')
theorem br_if_ne {Y : br_Y} {d : Nat} {P : br_post} {G : br_Jg} (C : br_Ok Y d P G) {x : Int32} {off : Int} {tgt : Nat} {pc : Nat} {L : List (Option br_V)} {st : List br_V} {σ : br_Wd} (hd : decode Y.2.1 pc = .ok (.ifCond .ne off, 3)) (ht : (pc : Int) + off = (tgt : Int)) (kt : ¬ x = 0 → G tgt L st σ) (kf : x = 0 → G (pc + 3) L st σ) : G pc L (br_i x :: st) σ := by
  obtain ⟨p, l, e, R, s, m, args, below, meth, c, cells, slots, Q, D, cI, cZ, ad, A, H0, ⟨hx, hb, hml, hown, hts⟩, ⟨hK, hD, hA, hN⟩, hR, hfin, hG⟩ := C
  rw [hG]
  intro H locs ls hP hS hl'
  exact lv_if_ne hx hb hd ht (fun h => (hG _ _ _ _).mp (kt h) H locs ls hP hS hl') (fun h => (hG _ _ _ _).mp (kf h) H locs ls hP hS hl')
theorem br_icmp_ne {Y : br_Y} {d : Nat} {P : br_post} {G : br_Jg} (C : br_Ok Y d P G) {x y : Int32} {off : Int} {tgt : Nat} {pc : Nat} {L : List (Option br_V)} {st : List br_V} {σ : br_Wd} (hd : decode Y.2.1 pc = .ok (.if_icmp .ne off, 3)) (ht : (pc : Int) + off = (tgt : Int)) (kt : ¬ x = y → G tgt L st σ) (kf : x = y → G (pc + 3) L st σ) : G pc L (br_i y :: br_i x :: st) σ := by
  obtain ⟨p, l, e, R, s, m, args, below, meth, c, cells, slots, Q, D, cI, cZ, ad, A, H0, ⟨hx, hb, hml, hown, hts⟩, ⟨hK, hD, hA, hN⟩, hR, hfin, hG⟩ := C
  rw [hG]
  intro H locs ls hP hS hl'
  exact lv_icmp_ne hx hb hd ht (fun h => (hG _ _ _ _).mp (kt h) H locs ls hP hS hl') (fun h => (hG _ _ _ _).mp (kf h) H locs ls hP hS hl')
theorem br_if_lt {Y : br_Y} {d : Nat} {P : br_post} {G : br_Jg} (C : br_Ok Y d P G) {x : Int32} {off : Int} {tgt : Nat} {pc : Nat} {L : List (Option br_V)} {st : List br_V} {σ : br_Wd} (hd : decode Y.2.1 pc = .ok (.ifCond .lt off, 3)) (ht : (pc : Int) + off = (tgt : Int)) (kt : x < 0 → G tgt L st σ) (kf : ¬ x < 0 → G (pc + 3) L st σ) : G pc L (br_i x :: st) σ := by
  obtain ⟨p, l, e, R, s, m, args, below, meth, c, cells, slots, Q, D, cI, cZ, ad, A, H0, ⟨hx, hb, hml, hown, hts⟩, ⟨hK, hD, hA, hN⟩, hR, hfin, hG⟩ := C
  rw [hG]
  intro H locs ls hP hS hl'
  exact lv_if_lt hx hb hd ht (fun h => (hG _ _ _ _).mp (kt h) H locs ls hP hS hl') (fun h => (hG _ _ _ _).mp (kf h) H locs ls hP hS hl')
theorem br_icmp_lt {Y : br_Y} {d : Nat} {P : br_post} {G : br_Jg} (C : br_Ok Y d P G) {x y : Int32} {off : Int} {tgt : Nat} {pc : Nat} {L : List (Option br_V)} {st : List br_V} {σ : br_Wd} (hd : decode Y.2.1 pc = .ok (.if_icmp .lt off, 3)) (ht : (pc : Int) + off = (tgt : Int)) (kt : x < y → G tgt L st σ) (kf : ¬ x < y → G (pc + 3) L st σ) : G pc L (br_i y :: br_i x :: st) σ := by
  obtain ⟨p, l, e, R, s, m, args, below, meth, c, cells, slots, Q, D, cI, cZ, ad, A, H0, ⟨hx, hb, hml, hown, hts⟩, ⟨hK, hD, hA, hN⟩, hR, hfin, hG⟩ := C
  rw [hG]
  intro H locs ls hP hS hl'
  exact lv_icmp_lt hx hb hd ht (fun h => (hG _ _ _ _).mp (kt h) H locs ls hP hS hl') (fun h => (hG _ _ _ _).mp (kf h) H locs ls hP hS hl')
theorem br_if_ge {Y : br_Y} {d : Nat} {P : br_post} {G : br_Jg} (C : br_Ok Y d P G) {x : Int32} {off : Int} {tgt : Nat} {pc : Nat} {L : List (Option br_V)} {st : List br_V} {σ : br_Wd} (hd : decode Y.2.1 pc = .ok (.ifCond .ge off, 3)) (ht : (pc : Int) + off = (tgt : Int)) (kt : 0 ≤ x → G tgt L st σ) (kf : ¬ 0 ≤ x → G (pc + 3) L st σ) : G pc L (br_i x :: st) σ := by
  obtain ⟨p, l, e, R, s, m, args, below, meth, c, cells, slots, Q, D, cI, cZ, ad, A, H0, ⟨hx, hb, hml, hown, hts⟩, ⟨hK, hD, hA, hN⟩, hR, hfin, hG⟩ := C
  rw [hG]
  intro H locs ls hP hS hl'
  exact lv_if_ge hx hb hd ht (fun h => (hG _ _ _ _).mp (kt h) H locs ls hP hS hl') (fun h => (hG _ _ _ _).mp (kf h) H locs ls hP hS hl')
theorem br_icmp_ge {Y : br_Y} {d : Nat} {P : br_post} {G : br_Jg} (C : br_Ok Y d P G) {x y : Int32} {off : Int} {tgt : Nat} {pc : Nat} {L : List (Option br_V)} {st : List br_V} {σ : br_Wd} (hd : decode Y.2.1 pc = .ok (.if_icmp .ge off, 3)) (ht : (pc : Int) + off = (tgt : Int)) (kt : y ≤ x → G tgt L st σ) (kf : ¬ y ≤ x → G (pc + 3) L st σ) : G pc L (br_i y :: br_i x :: st) σ := by
  obtain ⟨p, l, e, R, s, m, args, below, meth, c, cells, slots, Q, D, cI, cZ, ad, A, H0, ⟨hx, hb, hml, hown, hts⟩, ⟨hK, hD, hA, hN⟩, hR, hfin, hG⟩ := C
  rw [hG]
  intro H locs ls hP hS hl'
  exact lv_icmp_ge hx hb hd ht (fun h => (hG _ _ _ _).mp (kt h) H locs ls hP hS hl') (fun h => (hG _ _ _ _).mp (kf h) H locs ls hP hS hl')
theorem br_if_gt {Y : br_Y} {d : Nat} {P : br_post} {G : br_Jg} (C : br_Ok Y d P G) {x : Int32} {off : Int} {tgt : Nat} {pc : Nat} {L : List (Option br_V)} {st : List br_V} {σ : br_Wd} (hd : decode Y.2.1 pc = .ok (.ifCond .gt off, 3)) (ht : (pc : Int) + off = (tgt : Int)) (kt : 0 < x → G tgt L st σ) (kf : ¬ 0 < x → G (pc + 3) L st σ) : G pc L (br_i x :: st) σ := by
  obtain ⟨p, l, e, R, s, m, args, below, meth, c, cells, slots, Q, D, cI, cZ, ad, A, H0, ⟨hx, hb, hml, hown, hts⟩, ⟨hK, hD, hA, hN⟩, hR, hfin, hG⟩ := C
  rw [hG]
  intro H locs ls hP hS hl'
  exact lv_if_gt hx hb hd ht (fun h => (hG _ _ _ _).mp (kt h) H locs ls hP hS hl') (fun h => (hG _ _ _ _).mp (kf h) H locs ls hP hS hl')
theorem br_icmp_gt {Y : br_Y} {d : Nat} {P : br_post} {G : br_Jg} (C : br_Ok Y d P G) {x y : Int32} {off : Int} {tgt : Nat} {pc : Nat} {L : List (Option br_V)} {st : List br_V} {σ : br_Wd} (hd : decode Y.2.1 pc = .ok (.if_icmp .gt off, 3)) (ht : (pc : Int) + off = (tgt : Int)) (kt : y < x → G tgt L st σ) (kf : ¬ y < x → G (pc + 3) L st σ) : G pc L (br_i y :: br_i x :: st) σ := by
  obtain ⟨p, l, e, R, s, m, args, below, meth, c, cells, slots, Q, D, cI, cZ, ad, A, H0, ⟨hx, hb, hml, hown, hts⟩, ⟨hK, hD, hA, hN⟩, hR, hfin, hG⟩ := C
  rw [hG]
  intro H locs ls hP hS hl'
  exact lv_icmp_gt hx hb hd ht (fun h => (hG _ _ _ _).mp (kt h) H locs ls hP hS hl') (fun h => (hG _ _ _ _).mp (kf h) H locs ls hP hS hl')
theorem br_if_le {Y : br_Y} {d : Nat} {P : br_post} {G : br_Jg} (C : br_Ok Y d P G) {x : Int32} {off : Int} {tgt : Nat} {pc : Nat} {L : List (Option br_V)} {st : List br_V} {σ : br_Wd} (hd : decode Y.2.1 pc = .ok (.ifCond .le off, 3)) (ht : (pc : Int) + off = (tgt : Int)) (kt : x ≤ 0 → G tgt L st σ) (kf : ¬ x ≤ 0 → G (pc + 3) L st σ) : G pc L (br_i x :: st) σ := by
  obtain ⟨p, l, e, R, s, m, args, below, meth, c, cells, slots, Q, D, cI, cZ, ad, A, H0, ⟨hx, hb, hml, hown, hts⟩, ⟨hK, hD, hA, hN⟩, hR, hfin, hG⟩ := C
  rw [hG]
  intro H locs ls hP hS hl'
  exact lv_if_le hx hb hd ht (fun h => (hG _ _ _ _).mp (kt h) H locs ls hP hS hl') (fun h => (hG _ _ _ _).mp (kf h) H locs ls hP hS hl')
theorem br_icmp_le {Y : br_Y} {d : Nat} {P : br_post} {G : br_Jg} (C : br_Ok Y d P G) {x y : Int32} {off : Int} {tgt : Nat} {pc : Nat} {L : List (Option br_V)} {st : List br_V} {σ : br_Wd} (hd : decode Y.2.1 pc = .ok (.if_icmp .le off, 3)) (ht : (pc : Int) + off = (tgt : Int)) (kt : x ≤ y → G tgt L st σ) (kf : ¬ x ≤ y → G (pc + 3) L st σ) : G pc L (br_i y :: br_i x :: st) σ := by
  obtain ⟨p, l, e, R, s, m, args, below, meth, c, cells, slots, Q, D, cI, cZ, ad, A, H0, ⟨hx, hb, hml, hown, hts⟩, ⟨hK, hD, hA, hN⟩, hR, hfin, hG⟩ := C
  rw [hG]
  intro H locs ls hP hS hl'
  exact lv_icmp_le hx hb hd ht (fun h => (hG _ _ _ _).mp (kt h) H locs ls hP hS hl') (fun h => (hG _ _ _ _).mp (kf h) H locs ls hP hS hl')
theorem br_tableIn {Y : br_Y} {d : Nat} {P : br_post} {G : br_Jg} (C : br_Ok Y d P G) {dflt lo hi : Int} {offs : Array Int} {len : Nat} {x : Int32} {off : Int} {tgt : Nat} {pc : Nat} {L : List (Option br_V)} {st : List br_V} {σ : br_Wd} (hd : decode Y.2.1 pc = .ok (.tableswitch dflt lo hi offs, len)) (h1 : ¬ x.toInt < lo) (h2 : ¬ hi < x.toInt) (ho : offs[(x.toInt - lo).toNat]? = some off) (ht : (pc : Int) + off = (tgt : Int)) (kk : G tgt L st σ) : G pc L (br_i x :: st) σ := by
  obtain ⟨p, l, e, R, s, m, args, below, meth, c, cells, slots, Q, D, cI, cZ, ad, A, H0, ⟨hx, hb, hml, hown, hts⟩, ⟨hK, hD, hA, hN⟩, hR, hfin, hG⟩ := C
  rw [hG] at kk ⊢
  intro H locs ls hP hS hl'
  exact lv_tableIn hx hb hd h1 h2 ho ht (kk H locs ls hP hS hl')
theorem br_tableOut {Y : br_Y} {d : Nat} {P : br_post} {G : br_Jg} (C : br_Ok Y d P G) {dflt lo hi : Int} {offs : Array Int} {len : Nat} {x : Int32} {tgt : Nat} {pc : Nat} {L : List (Option br_V)} {st : List br_V} {σ : br_Wd} (hd : decode Y.2.1 pc = .ok (.tableswitch dflt lo hi offs, len)) (h : x.toInt < lo ∨ hi < x.toInt) (ht : (pc : Int) + dflt = (tgt : Int)) (kk : G tgt L st σ) : G pc L (br_i x :: st) σ := by
  obtain ⟨p, l, e, R, s, m, args, below, meth, c, cells, slots, Q, D, cI, cZ, ad, A, H0, ⟨hx, hb, hml, hown, hts⟩, ⟨hK, hD, hA, hN⟩, hR, hfin, hG⟩ := C
  rw [hG] at kk ⊢
  intro H locs ls hP hS hl'
  exact lv_tableOut hx hb hd h ht (kk H locs ls hP hS hl')
theorem br_sub1 {Y : br_Y} {d : Nat} {P : br_post} {G : br_Jg} (C : br_Ok Y d P G) {L' : List (Option br_V)} {pc : Nat} {L : List (Option br_V)} {st : List br_V} {σ : br_Wd} (hs : br_sub L' L) (kk : G pc L' st σ) : G pc L st σ := by
  obtain ⟨p, l, e, R, s, m, args, below, meth, c, cells, slots, Q, D, cI, cZ, ad, A, H0, ⟨hx, hb, hml, hown, hts⟩, ⟨hK, hD, hA, hN⟩, hR, hfin, hG⟩ := C
  rw [hG] at kk ⊢
  intro H locs ls hP hS hl'
  exact kk H locs ls hP hS (hs.has hl')
-- a class of the world: its rows; a field: its link, its place, its type
def br_Cl (ci : Nat) (Cn : String) (T : u_T) (N : Nat) : Prop := vwCl[ci]? = some (Cn, T, N) ∧ (∀ w ∈ u_ws Cn T N, w ∈ br_W0) ∧ ∃ ty : Nat → FieldType, (∀ k, k < N → parseFieldDescriptor (T k).2.2.1 = some (ty k)) ∧ ∀ a, a < N → ∀ b, b < N → a ≠ b → (T a).2.1 ≠ (T b).2.1
def br_FL (own : String) (idx : Nat) (f : String × String × String × Bool) : Prop := Cond.fieldLink own idx f.1 f.2.1 f.2.2.1 ∈ br_W0 ∨ (own, idx, f.1, f.2.1, f.2.2.1, "BarRoutine") ∈ br_nest
def br_fd (own : String) (idx ci k : Nat) (fin : Bool) (ty : FieldType) : Prop := ∃ (Cn : String) (T : u_T) (N : Nat), br_Cl ci Cn T N ∧ k < N ∧ br_FL own idx (T k) ∧ (T k).2.2.2 = fin ∧ parseFieldDescriptor (T k).2.2.1 = some ty
theorem br_get {Y : br_Y} {d : Nat} {P : br_post} {G : br_Jg} (C : br_Ok Y d P G) {idx ci k : Nat} {fin : Bool} {ty : FieldType} (hf : br_fd Y.1.cls idx ci k fin ty) {q : Nat} {fs : List br_FK} {fk : br_FK} {v : br_V} {pc : Nat} {L : List (Option br_V)} {st : List br_V} {σ : br_Wd} (hd : decode Y.2.1 pc = .ok (.getfield idx, 3)) (hs : br_shps[q]? = some (.inr (ci, fs))) (hk : fs[k]? = some fk) (hv : ∀ ad, br_fv ad σ q k fk = br_av ad v) (kk : G (pc + 3) L (v :: st) σ) : G pc L (br_r q :: st) σ := by
  obtain ⟨p, l, e, R, s, m, args, below, meth, c, cells, slots, Q, D, cI, cZ, ad, A, H0, ⟨hx, hb, hml, hown, hts⟩, ⟨hK, hD, hA, hN⟩, hR, hfin, hG⟩ := C
  rw [hG] at kk ⊢
  intro H locs ls hP hS hl'
  obtain ⟨Cn, T, N, ⟨hc, hin, -⟩, hkN, hfl, -, -⟩ := hf
  have he : (br_W cI cZ ad σ)[q]? = some (ad q, .inr (ci, br_mkF ad σ q 0 fs)) := br_W_get hs
  have hvv : (br_mkF ad σ q 0 fs)[k]? = some (br_av ad v) := by rw [br_mkF_get, hk, Nat.zero_add]; exact congrArg some (hv ad)
  rcases hfl with hfl | hfl
  · exact va_get hx hb hts hin hown hK hP q he hc k hkN (hts _ hfl) (fun _ h => h) hvv hd (kk H locs ls hP hS hl')
  · exact va_getN (host := "BarRoutine") hx hb hts hin hown hK hP q he hc k hkN (va_Nw.use rfl (hN _ hfl)) (fun _ h => h) hvv hd (kk H locs ls hP hS hl')
theorem br_getI {Y : br_Y} {d : Nat} {P : br_post} {G : br_Jg} (C : br_Ok Y d P G) {idx ci k : Nat} {fin : Bool} {ty : FieldType} (hf : br_fd Y.1.cls idx ci k fin ty) {q : Nat} {fs : List br_FK} {x : Int32} {pc : Nat} {L : List (Option br_V)} {st : List br_V} {σ : br_Wd} (hd : decode Y.2.1 pc = .ok (.getfield idx, 3)) (hs : br_shps[q]? = some (.inr (ci, fs))) (hk : fs[k]? = some none) (hv : σ.1 q k = x) (kk : G (pc + 3) L (br_i x :: st) σ) : G pc L (br_r q :: st) σ :=
  br_get C hf hd hs hk (fun ad => by subst hv; rfl) kk
theorem br_getR {Y : br_Y} {d : Nat} {P : br_post} {G : br_Jg} (C : br_Ok Y d P G) {idx ci k : Nat} {fin : Bool} {ty : FieldType} (hf : br_fd Y.1.cls idx ci k fin ty) {q r : Nat} {fs : List br_FK} {pc : Nat} {L : List (Option br_V)} {st : List br_V} {σ : br_Wd} (hd : decode Y.2.1 pc = .ok (.getfield idx, 3)) (hs : br_shps[q]? = some (.inr (ci, fs))) (hk : fs[k]? = some (some (some r))) (kk : G (pc + 3) L (br_r r :: st) σ) : G pc L (br_r q :: st) σ :=
  br_get C hf hd hs hk (fun ad => rfl) kk
theorem br_getL {Y : br_Y} {d : Nat} {P : br_post} {G : br_Jg} (C : br_Ok Y d P G) {idx ci k : Nat} {fin : Bool} {ty : FieldType} (hf : br_fd Y.1.cls idx ci k fin ty) {q : Nat} {fs : List br_FK} {x : Int64} {pc : Nat} {L : List (Option br_V)} {st : List br_V} {σ : br_Wd} (hd : decode Y.2.1 pc = .ok (.getfield idx, 3)) (hs : br_shps[q]? = some (.inr (ci, fs))) (hk : fs[k]? = some (some none)) (hv : σ.2 = x) (kk : G (pc + 3) L (br_l x :: st) σ) : G pc L (br_r q :: st) σ :=
  br_get C hf hd hs hk (fun ad => by subst hv; rfl) kk
theorem br_put {Y : br_Y} {d : Nat} {P : br_post} {G : br_Jg} (C : br_Ok Y d P G) {idx ci k : Nat} {ty : FieldType} (hf : br_fd Y.1.cls idx ci k false ty) {q : Nat} {fs : List br_FK} {x : Int32} {pc : Nat} {L : List (Option br_V)} {st : List br_V} {σ σ' : br_Wd} (hd : decode Y.2.1 pc = .ok (.putfield idx, 3)) (hs : br_shps[q]? = some (.inr (ci, fs))) (hk : fs[k]? = some none) (hn : narrow ty (.int x) = .int x) (hfit : fits ty (.int x) = true) (hu : br_up σ q k x = σ') (kk : G (pc + 3) L st σ') : G pc L (br_i x :: br_r q :: st) σ := by
  obtain ⟨p, l, e, R, s, m, args, below, meth, c, cells, slots, Q, D, cI, cZ, ad, A, H0, ⟨hx, hb, hml, hown, hts⟩, ⟨hK, hD, hA, hN⟩, hR, hfin, hG⟩ := C
  rw [hG] at kk ⊢
  intro H locs ls hP hS hl'
  subst hu
  obtain ⟨Cn, T, N, ⟨hc, hin, ty0, hty, hnm⟩, hkN, hfl, hfin2, hpt⟩ := hf
  have he : (br_W cI cZ ad σ)[q]? = some (ad q, .inr (ci, br_mkF ad σ q 0 fs)) := br_W_get hs
  have hlen : k < (br_mkF ad σ q 0 fs).length := by
    have := br_mkF_get ad σ q fs 0 k
    rw [hk] at this
    exact (List.getElem?_eq_some_iff.mp this).1
  have eq : (br_W cI cZ ad σ).set q (ad q, .inr (ci, (br_mkF ad σ q 0 fs).set k (.int x))) = br_W cI cZ ad (br_up σ q k x) := by rw [br_mkF_put hk]; exact br_W_up hs
  rcases hfl with hfl | hfl
  · exact va_put hx hb hts hin ty0 hty hnm hown hK hP (hD σ) hS q he hc k hkN (hts _ hfl) (fun _ h => h) hfin2 hpt hn hfit hlen hd (fun H1 locs1 hP1 _ hS1 => kk H1 locs1 ls (by rw [← eq]; exact hP1) hS1 hl')
  · exact va_putN (host := "BarRoutine") hx hb hts hin ty0 hty hnm hown hK hP (hD σ) hS q he hc k hkN (va_Nw.use rfl (hN _ hfl)) (fun _ h => h) hfin2 hpt hn hfit hlen hd (fun H1 locs1 hP1 _ hS1 => kk H1 locs1 ls (by rw [← eq]; exact hP1) hS1 hl')
theorem br_putI {Y : br_Y} {d : Nat} {P : br_post} {G : br_Jg} (C : br_Ok Y d P G) {idx ci k : Nat} (hf : br_fd Y.1.cls idx ci k false .int) {q : Nat} {fs : List br_FK} {x : Int32} {pc : Nat} {L : List (Option br_V)} {st : List br_V} {σ σ' : br_Wd} (hd : decode Y.2.1 pc = .ok (.putfield idx, 3)) (hs : br_shps[q]? = some (.inr (ci, fs))) (hk : fs[k]? = some none) (hu : br_up σ q k x = σ') (kk : G (pc + 3) L st σ') : G pc L (br_i x :: br_r q :: st) σ :=
  br_put C hf hd hs hk rfl rfl hu kk
theorem br_mkF_putl {ad : Nat → Nat} {σ : br_Wd} {q k : Nat} {v : Int64} {fs : List br_FK} (hk : fs[k]? = some (some none)) (h1 : ∀ j : Nat, fs[j]? = some (some none) → j = k) : (br_mkF ad σ q 0 fs).set k (.long v) = br_mkF ad (br_upl σ v) q 0 fs := by
  apply List.ext_getElem?
  intro j
  rw [List.getElem?_set, br_mkF_get, br_mkF_get]
  have hl2 : k < (br_mkF ad σ q 0 fs).length := by
    have := br_mkF_get ad σ q fs 0 k
    rw [hk] at this
    exact (List.getElem?_eq_some_iff.mp this).1
  by_cases e : k = j
  · subst e
    rw [if_pos rfl, if_pos hl2, hk]
    rfl
  · rw [if_neg e]
    cases hj : fs[j]? with
    | none => rfl
    | some f =>
      cases f with
      | none => rfl
      | some f =>
        cases f with
        | none => exact absurd (h1 j hj).symm e
        | some r => rfl
theorem br_putL {Y : br_Y} {d : Nat} {P : br_post} {G : br_Jg} (C : br_Ok Y d P G) {idx : Nat} (hf : br_fd Y.1.cls idx 5 20 false .long) {x : Int64} {pc : Nat} {L : List (Option br_V)} {st : List br_V} {σ σ' : br_Wd} (hd : decode Y.2.1 pc = .ok (.putfield idx, 3)) (hu : br_upl σ x = σ') (kk : G (pc + 3) L st σ') : G pc L (br_l x :: br_r 23 :: st) σ := by
  obtain ⟨p, l, e, R, s, m, args, below, meth, c, cells, slots, Q, D, cI, cZ, ad, A, H0, ⟨hx, hb, hml, hown, hts⟩, ⟨hK, hD, hA, hN⟩, hR, hfin, hG⟩ := C
  rw [hG] at kk ⊢
  intro H locs ls hP hS hl'
  subst hu
  obtain ⟨Cn, T, N, ⟨hc, hin, ty0, hty, hnm⟩, hkN, hfl, hfin2, hpt⟩ := hf
  obtain ⟨fs, hs, hk, h1⟩ : ∃ fs, br_shps[23]? = some (.inr (5, fs)) ∧ fs[20]? = some (some none) ∧ ∀ j : Nat, fs[j]? = some (some none) → j = 20 := by
    refine ⟨_, rfl, rfl, fun j hj => ?_⟩
    have hl : j < 21 := (List.getElem?_eq_some_iff.mp hj).1
    have key : ∀ j : Fin 21, ([br_fr 24, none, none, none, none, br_fr 25, br_fr 26, none, none, br_fr 27, br_fr 28, none, br_fr 29, none, none, none, none, none, br_fr 30, br_fr 31, some none] : List br_FK)[(j : Nat)]? = some (some none) → (j : Nat) = 20 := by decide +kernel
    exact key ⟨j, hl⟩ hj
  have he : (br_W cI cZ ad σ)[23]? = some (ad 23, .inr (5, br_mkF ad σ 23 0 fs)) := br_W_get hs
  have hlen : 20 < (br_mkF ad σ 23 0 fs).length := by
    have := br_mkF_get ad σ 23 fs 0 20
    rw [hk] at this
    exact (List.getElem?_eq_some_iff.mp this).1
  have eq : (br_W cI cZ ad σ).set 23 (ad 23, .inr (5, (br_mkF ad σ 23 0 fs).set 20 (.long x))) = br_W cI cZ ad (br_upl σ x) := by rw [br_mkF_putl hk h1]; exact br_W_upl hs
  rcases hfl with hfl | hfl
  · exact va_put hx hb hts hin ty0 hty hnm hown hK hP (hD σ) hS 23 he hc 20 hkN (hts _ hfl) (fun _ h => h) hfin2 hpt rfl rfl hlen hd (fun H1 locs1 hP1 _ hS1 => kk H1 locs1 ls (by rw [← eq]; exact hP1) hS1 hl')
  · exact va_putN (host := "BarRoutine") hx hb hts hin ty0 hty hnm hown hK hP (hD σ) hS 23 he hc 20 hkN (va_Nw.use rfl (hN _ hfl)) (fun _ h => h) hfin2 hpt rfl rfl hlen hd (fun H1 locs1 hP1 _ hS1 => kk H1 locs1 ls (by rw [← eq]; exact hP1) hS1 hl')
theorem br_iald {Y : br_Y} {d : Nat} {P : br_post} {G : br_Jg} (C : br_Ok Y d P G) {q n : Nat} {i x : Int32} {pc : Nat} {L : List (Option br_V)} {st : List br_V} {σ : br_Wd} (hs : br_shps[q]? = some (.inl (false, n))) (hin : vp_in i n) (hv : σ.1 q i.toNatClampNeg = x) (hd : decode Y.2.1 pc = .ok (.iaload, 1)) (kk : G (pc + 1) L (br_i x :: st) σ) : G pc L (br_i i :: br_r q :: st) σ := by
  obtain ⟨p, l, e, R, s, m, args, below, meth, c, cells, slots, Q, D, cI, cZ, ad, A, H0, ⟨hx, hb, hml, hown, hts⟩, ⟨hK, hD, hA, hN⟩, hR, hfin, hG⟩ := C
  rw [hG] at kk ⊢
  intro H locs ls hP hS hl'
  subst hv
  exact va_iald (t0 := 0) (n := n) (f := σ.1 q) hx hb hK hP q (br_W_get hs) rfl hin hd (kk H locs ls hP hS hl')
theorem br_zald {Y : br_Y} {d : Nat} {P : br_post} {G : br_Jg} (C : br_Ok Y d P G) {q n : Nat} {i x : Int32} {pc : Nat} {L : List (Option br_V)} {st : List br_V} {σ : br_Wd} (hs : br_shps[q]? = some (.inl (true, n))) (hin : vp_in i n) (hv : σ.1 q i.toNatClampNeg = x) (hd : decode Y.2.1 pc = .ok (.baload, 1)) (kk : G (pc + 1) L (br_i x :: st) σ) : G pc L (br_i i :: br_r q :: st) σ := by
  obtain ⟨p, l, e, R, s, m, args, below, meth, c, cells, slots, Q, D, cI, cZ, ad, A, H0, ⟨hx, hb, hml, hown, hts⟩, ⟨hK, hD, hA, hN⟩, hR, hfin, hG⟩ := C
  rw [hG] at kk ⊢
  intro H locs ls hP hS hl'
  subst hv
  exact va_zald (t0 := 1) (n := n) (f := σ.1 q) hx hb hK hP q (br_W_get hs) rfl hin hd (kk H locs ls hP hS hl')
theorem br_ast_eq {cI cZ : ClassId} {ad : Nat → Nat} {σ : br_Wd} {q n : Nat} {z : Bool} {i : Nat} {x : Int32} (hs : br_shps[q]? = some (.inl (z, n))) : (br_W cI cZ ad σ).set q (ad q, .inl (cond z cZ cI, n, .inl (upd (σ.1 q) i x))) = br_W cI cZ ad (br_up σ q i x) := by
  rw [← br_W_up hs]
  congr 1
  show (ad q, Sum.inl (cond z cZ cI, n, Sum.inl (upd (σ.1 q) i x))) = (ad q, Sum.inl (cond z cZ cI, n, Sum.inl ((br_up σ q i x).1 q)))
  congr 4
  apply congrArg
  funext j
  simp [upd, br_up]
theorem br_iast {Y : br_Y} {d : Nat} {P : br_post} {G : br_Jg} (C : br_Ok Y d P G) {q n : Nat} {i x : Int32} {σ' : br_Wd} {pc : Nat} {L : List (Option br_V)} {st : List br_V} {σ : br_Wd} (hs : br_shps[q]? = some (.inl (false, n))) (hin : vp_in i n) (hu : br_up σ q i.toNatClampNeg x = σ') (hd : decode Y.2.1 pc = .ok (.iastore, 1)) (kk : G (pc + 1) L st σ') : G pc L (br_i x :: br_i i :: br_r q :: st) σ := by
  obtain ⟨p, l, e, R, s, m, args, below, meth, c, cells, slots, Q, D, cI, cZ, ad, A, H0, ⟨hx, hb, hml, hown, hts⟩, ⟨hK, hD, hA, hN⟩, hR, hfin, hG⟩ := C
  rw [hG] at kk ⊢
  intro H locs ls hP hS hl'
  subst hu
  exact va_iast (t0 := 0) (n := n) (f := σ.1 q) hx hb hK hP (hD σ) hS q (br_W_get hs) rfl hin hd (fun H1 locs1 hP1 _ hS1 => kk H1 locs1 ls (by rw [← br_ast_eq hs]; exact hP1) hS1 hl')
theorem br_zast {Y : br_Y} {d : Nat} {P : br_post} {G : br_Jg} (C : br_Ok Y d P G) {q n : Nat} {i x : Int32} {σ' : br_Wd} {pc : Nat} {L : List (Option br_V)} {st : List br_V} {σ : br_Wd} (hs : br_shps[q]? = some (.inl (true, n))) (hin : vp_in i n) (hu : br_up σ q i.toNatClampNeg (vp_nar .boolean x) = σ') (hd : decode Y.2.1 pc = .ok (.bastore, 1)) (kk : G (pc + 1) L st σ') : G pc L (br_i x :: br_i i :: br_r q :: st) σ := by
  obtain ⟨p, l, e, R, s, m, args, below, meth, c, cells, slots, Q, D, cI, cZ, ad, A, H0, ⟨hx, hb, hml, hown, hts⟩, ⟨hK, hD, hA, hN⟩, hR, hfin, hG⟩ := C
  rw [hG] at kk ⊢
  intro H locs ls hP hS hl'
  subst hu
  exact va_zast (t0 := 1) (n := n) (f := σ.1 q) hx hb hK hP (hD σ) hS q (br_W_get hs) rfl hin hd (fun H1 locs1 hP1 _ hS1 => kk H1 locs1 ls (by rw [← br_ast_eq hs]; exact hP1) hS1 hl')
theorem br_alen {Y : br_Y} {d : Nat} {P : br_post} {G : br_Jg} (C : br_Ok Y d P G) {q n : Nat} {v : Int32} {pc : Nat} {L : List (Option br_V)} {st : List br_V} {σ : br_Wd} (hs : br_shps[q]? = some (.inl (false, n))) (hv : Int32.ofNat n = v) (hd : decode Y.2.1 pc = .ok (.arraylength, 1)) (kk : G (pc + 1) L (br_i v :: st) σ) : G pc L (br_r q :: st) σ := by
  obtain ⟨p, l, e, R, s, m, args, below, meth, c, cells, slots, Q, D, cI, cZ, ad, A, H0, ⟨hx, hb, hml, hown, hts⟩, ⟨hK, hD, hA, hN⟩, hR, hfin, hG⟩ := C
  rw [hG] at kk ⊢
  intro H locs ls hP hS hl'
  exact va_alen (t0 := 0) (x := (n, .inl (σ.1 q))) hx hb hK hP q (br_W_get hs) rfl hv hd (kk H locs ls hP hS hl')
-- calls
theorem br_callU {p : Program} {l : Launch} {e : Env} {R : Room} {s : State} {m : MethodId} {args : Array Value} {below : List Frame} {meth : Method} {c : Code} {H : Heap} {locs : List Loc} {cells slots : Nat} {Q : State → Prop} {pc : Nat} {ls : Array Slot} {rest st0 : List Value} {a : Array Value} {A0 A1 : Nat → Prop} {H0 : Heap} {free : Addr → Prop} {D : va_G} {cI cZ : ClassId} {ad : Nat → Nat} {P : br_post}
    (hr : va_Run p l e R s m args below meth c H locs cells slots 0 0 (F0 m pc ls st0) rest (br_Q D cI cZ ad A1 P a) free) (hS : va_S A0 H0 H locs) (hA : ∀ q, q < H.size → A1 q → A0 q) (hf : ∀ q, free q → A0 q)
    (kk : ∀ (v : Option br_V) (τ : br_Wd) (H1 : Heap) (locs1 : List Loc), P v τ → va_P D vwCl (br_W cI cZ ad τ) H1 → va_S A0 H0 H1 locs1 → W p l e R s m args below meth c H1 locs1 cells slots Q (F0 m (pc + 3) ls ((v.map (br_av ad)).toList ++ rest))) : W p l e R s m args below meth c H locs cells slots Q (F0 m pc ls st0) := by
  intro T hT X
  obtain ⟨v, st₀, t, T', L, h0, X', hL, e1, e2, ⟨⟨w, τ, hv, hp, hb⟩, hz, hk⟩, st⟩ := hr T hT X
  cases hv
  rw [h0] at hz hk
  obtain ⟨t2, a1, b1⟩ := kk w τ T'.heap (locs ++ L) hp (by rw [e1]; exact hb)
    ⟨Nat.le_trans hS.1 (by rw [e1]; exact hz), fun q h1 h2 => by rw [e1, hk q (Nat.lt_of_lt_of_le h1 hS.1) (fun z => h2 (hA q (Nat.lt_of_lt_of_le h1 hS.1) z))]; exact hS.2.1 q h1 h2, fun q hq => by
      rcases List.mem_append.mp hq with h | h
      · exact hS.2.2 q h
      · exact hf _ (hL q h)⟩ T' rfl X'
  exact ⟨t2, st t2 a1, b1⟩
def br_vc (own : String) (idx : Nat) (Y : br_Y) (n : Nat) : Prop := (Cond.methodLink own idx Y.1 ∈ br_W0 ∧ Cond.initialized Y.1.cls ∈ br_W0 ∧ Cond.code Y.1 Y.2.1 Y.2.2.1 Y.2.2.2 ∈ br_W0) ∧ (Cond.instanceMethod Y.1 ∈ br_W0 ∧ Cond.selects Y.1.cls Y.1 Y.1 ∈ br_W0) ∧ (Y.1.cls ≠ "java/lang/invoke/MethodHandle" ∧ Y.1.cls ≠ "java/lang/invoke/VarHandle" ∧ (parseMethodDescriptor Y.1.desc).map (fun d => d.parameters.length) = some n) ∧ Y.2.2.1 ≤ 10
def br_sc (own : String) (idx : Nat) (Y : br_Y) (n : Nat) : Prop := (Cond.methodLink own idx Y.1 ∈ br_W0 ∧ Cond.initialized Y.1.cls ∈ br_W0 ∧ Cond.code Y.1 Y.2.1 Y.2.2.1 Y.2.2.2 ∈ br_W0) ∧ Cond.static Y.1 ∈ br_W0 ∧ (Y.1.cls ≠ "java/lang/invoke/MethodHandle" ∧ Y.1.cls ≠ "java/lang/invoke/VarHandle" ∧ (parseMethodDescriptor Y.1.desc).map (fun d => d.parameters.length) = some n) ∧ Y.2.2.1 ≤ 10
theorem br_ws_good {Y : br_Y} (h : Cond.code Y.1 Y.2.1 Y.2.2.1 Y.2.2.2 ∈ br_W0) : GoodIn br_W0 (br_ws Y) := by
  intro w hw
  rcases List.mem_cons.mp hw with rfl | hw
  · exact ⟨h, br_W0_good h⟩
  · exact ⟨hw, br_W0_good hw⟩
theorem br_callV {Y : br_Y} {d : Nat} {P : br_post} {G : br_Jg} (C : br_Ok Y d P G) {idx : Nat} {Y2 : br_Y} {n d2 : Nat} (hvc : br_vc Y.1.cls idx Y2 n) {q : Nat} {As : List br_V} {σ : br_Wd} {P2 : br_post} (hM : br_Met d2 Y2 (br_r q :: As) σ P2) (hd2 : d2 < d) {ci : Nat} {fs : List br_FK} {T : u_T} {N : Nat} (hs : br_shps[q]? = some (.inr (ci, fs))) (hc : vwCl[ci]? = some (Y2.1.cls, T, N)) {pc : Nat} {L : List (Option br_V)} {st : List br_V} (hn : As.length = n) (hst : ∀ ad, (st.map (fun v => (br_av ad v).category)).sum ≤ 8) (hd : decode Y.2.1 pc = .ok (.invokevirtual idx, 3)) (kk : ∀ v τ, P2 v τ → G (pc + 3) L (v.toList ++ st) τ) : G pc L (As.reverse ++ br_r q :: st) σ := by
  obtain ⟨p, l, e, R, s, m, args, below, meth, c, cells, slots, Q, D, cI, cZ, ad, A, H0, ⟨hx, hb, hml, hown, hts⟩, ⟨hK, hD, hA, hN⟩, hR, hfin, hG⟩ := C
  rw [hG]
  intro H locs ls hP hS hl'
  obtain ⟨⟨w1, w2, w3⟩, ⟨w4, w5⟩, hcl, hml2⟩ := hvc
  have hn' : ∀ (v : Option br_V) , ((v.map (br_av ad)).toList ++ st.map (br_av ad)) = (v.toList ++ st).map (br_av ad) := fun v => by cases v <;> simp
  have hfree : ∀ x, va_A (br_W cI cZ ad σ) H.size x → A x := fun x hx2 => by
    rcases hx2 with ⟨k, e2, hk⟩ | hge
    · exact (hD σ).2 k _ hk
    · exact hA x (Nat.le_trans hS.1 hge)
  have hroom : (br_room d2).frames + 1 ≤ R.frames ∧ 8 + (Y2.2.2.1 + 11) + (br_room d2).locals ≤ R.locals := by
    have h1 := hR.1
    have h2 := hR.2.1
    simp only [br_room]
    omega
  refine br_callU (va_runV (As := As.map (br_av ad)) (rest := st.map (br_av ad)) (b := ad q) (C := Y2.1.cls) (n := n) ⟨hx, hb, hml, hown, hts⟩ (hM l D cI cZ ad H.size) (cwV n hts (fun w hw => ?_) rfl rfl rfl ⟨rfl, hcl⟩ hroom) ⟨?_, va_recv hK hP (q0 := q) hc (br_W_get hs), ?_⟩ rfl (by rw [List.length_map]; exact hn) hl'.1 (by show List.map (br_av ad) _ = _; simp [br_av]) (lv_room (by rw [List.map_map]; exact hst ad)) hd ⟨by omega, by omega⟩) hS (fun q2 _ h => hfree q2 h) hfree ?_
  · rcases List.mem_append.mp (show w ∈ ([.methodLink Y.1.cls idx Y2.1, .instanceMethod Y2.1, .selects Y2.1.cls Y2.1 Y2.1, .initialized Y2.1.cls] : List Cond) ++ br_ws Y2 from hw) with h | h
    · simp only [List.mem_cons, List.not_mem_nil, or_false] at h
      rcases h with rfl | rfl | rfl | rfl
      · exact ⟨w1, br_W0_good w1⟩
      · exact ⟨w4, br_W0_good w4⟩
      · exact ⟨w5, br_W0_good w5⟩
      · exact ⟨w2, br_W0_good w2⟩
    · exact br_ws_good w3 w h
  · rintro a U g mk ⟨q0, q1, qP, qK, qD, qN⟩
    exact ⟨q0, q1, qP, va_K.moved (u := U) (U := U.calling g mk a) (Vm.Alike.refl U.vm) qK, qD, br_N.same (u := U) (U := U.calling g mk a) rfl qN⟩
  · intro U hU hW
    exact ⟨rfl, by rw [hU], by rw [hU]; exact hP, va_K.moved hW.alike hK, (hD σ).weaken (fun _ _ _ _ => trivial), hN.warm hW⟩
  · intro v τ H1 locs1 hp hP1 hS1
    rw [hn']
    exact (hG _ _ _ _).mp (kk v τ hp) H1 locs1 ls hP1 hS1 hl'
theorem br_callS {Y : br_Y} {d : Nat} {P : br_post} {G : br_Jg} (C : br_Ok Y d P G) {idx : Nat} {Y2 : br_Y} {n d2 : Nat} (hvc : br_sc Y.1.cls idx Y2 n) {As : List br_V} {σ : br_Wd} {P2 : br_post} (hM : br_Met d2 Y2 As σ P2) (hd2 : d2 < d) {pc : Nat} {L : List (Option br_V)} {st : List br_V} (hn : As.length = n) (hst : ∀ ad, (st.map (fun v => (br_av ad v).category)).sum ≤ 8) (hd : decode Y.2.1 pc = .ok (.invokestatic idx, 3)) (kk : ∀ v τ, P2 v τ → G (pc + 3) L (v.toList ++ st) τ) : G pc L (As.reverse ++ st) σ := by
  obtain ⟨p, l, e, R, s, m, args, below, meth, c, cells, slots, Q, D, cI, cZ, ad, A, H0, ⟨hx, hb, hml, hown, hts⟩, ⟨hK, hD, hA, hN⟩, hR, hfin, hG⟩ := C
  rw [hG]
  intro H locs ls hP hS hl'
  obtain ⟨⟨w1, w2, w3⟩, w4, hcl, hml2⟩ := hvc
  have hn' : ∀ (v : Option br_V) , ((v.map (br_av ad)).toList ++ st.map (br_av ad)) = (v.toList ++ st).map (br_av ad) := fun v => by cases v <;> simp
  have hfree : ∀ x, va_A (br_W cI cZ ad σ) H.size x → A x := fun x hx2 => by
    rcases hx2 with ⟨k, e2, hk⟩ | hge
    · exact (hD σ).2 k _ hk
    · exact hA x (Nat.le_trans hS.1 hge)
  have hroom : (br_room d2).frames + 1 ≤ R.frames ∧ 8 + (Y2.2.2.1 + 11) + (br_room d2).locals ≤ R.locals := by
    have h1 := hR.1
    have h2 := hR.2.1
    simp only [br_room]
    omega
  refine br_callU (va_runS (As := As.map (br_av ad)) (rest := st.map (br_av ad)) (n := n) ⟨hx, hb, hml, hown, hts⟩ (hM l D cI cZ ad H.size) ⟨callB_of n hts (br_ws_good w3) rfl rfl rfl (hts _ w2) (hts _ w1) hcl hroom, hts _ w4⟩ ⟨?_, ?_⟩ rfl (by rw [List.length_map]; exact hn) hl'.1 (by show List.map (br_av ad) _ = _; simp [br_av]) (lv_room (by rw [List.map_map]; exact hst ad)) hd ⟨by omega, by omega⟩) hS (fun q2 _ h => hfree q2 h) hfree ?_
  · rintro a U g mk ⟨q0, q1, qP, qK, qD, qN⟩
    exact ⟨q0, q1, qP, va_K.moved (u := U) (U := U.calling g mk a) (Vm.Alike.refl U.vm) qK, qD, br_N.same (u := U) (U := U.calling g mk a) rfl qN⟩
  · intro U hU hW
    exact ⟨rfl, by rw [hU], by rw [hU]; exact hP, va_K.moved hW.alike hK, (hD σ).weaken (fun _ _ _ _ => trivial), hN.warm hW⟩
  · intro v τ H1 locs1 hp hP1 hS1
    rw [hn']
    exact (hG _ _ _ _).mp (kk v τ hp) H1 locs1 ls hP1 hS1 hl'
-- returns
theorem br_ret {Y : br_Y} {d : Nat} {P : br_post} {G : br_Jg} (C : br_Ok Y d P G) {v : Option br_V} {pc : Nat} {L : List (Option br_V)} {σ : br_Wd} (hr : br_isret Y pc v) (hp : P v σ) : G pc L v.toList σ := by
  obtain ⟨p, l, e, R, s, m, args, below, meth, c, cells, slots, Q, D, cI, cZ, ad, A, H0, ⟨hx, hb, hml, hown, hts⟩, ⟨hK, hD, hA, hN⟩, hR, hfin, hG⟩ := C
  rw [hG]
  intro H locs ls hP hS hl'
  have := hfin v σ H locs pc ls hp hP hS hr
  cases v <;> exact this
theorem br_iret {Y : br_Y} {d : Nat} {P : br_post} {G : br_Jg} (C : br_Ok Y d P G) {x : Int32} {pc : Nat} {L : List (Option br_V)} {σ : br_Wd} (hr : Y.2.2.2 = some .int) (hd : decode Y.2.1 pc = .ok (.ireturn, 1)) (hp : P (some (br_i x)) σ) : G pc L [br_i x] σ :=
  br_ret C (v := some (br_i x)) ⟨⟨.int, hr, rfl⟩, hd⟩ hp
theorem br_zret {Y : br_Y} {d : Nat} {P : br_post} {G : br_Jg} (C : br_Ok Y d P G) {x : Int32} {pc : Nat} {L : List (Option br_V)} {σ : br_Wd} (hx : x = 0 ∨ x = 1) (hr : Y.2.2.2 = some .boolean) (hd : decode Y.2.1 pc = .ok (.ireturn, 1)) (hp : P (some (br_i x)) σ) : G pc L [br_i x] σ :=
  br_ret C (v := some (br_i x)) ⟨⟨.boolean, hr, by rcases hx with rfl | rfl <;> decide⟩, hd⟩ hp
theorem br_lret {Y : br_Y} {d : Nat} {P : br_post} {G : br_Jg} (C : br_Ok Y d P G) {x : Int64} {pc : Nat} {L : List (Option br_V)} {σ : br_Wd} (hr : Y.2.2.2 = some .long) (hd : decode Y.2.1 pc = .ok (.lreturn, 1)) (hp : P (some (br_l x)) σ) : G pc L [br_l x] σ :=
  br_ret C (v := some (br_l x)) ⟨hr, hd⟩ hp
theorem br_vret {Y : br_Y} {d : Nat} {P : br_post} {G : br_Jg} (C : br_Ok Y d P G) {pc : Nat} {L : List (Option br_V)} {σ : br_Wd} (hr : Y.2.2.2 = none) (hd : decode Y.2.1 pc = .ok (.return_, 1)) (hp : P none σ) : G pc L [] σ :=
  br_ret C (v := none) ⟨hr, hd⟩ hp
end
section
abbrev mX0_init : br_Y := (yX0_init, cX0_init, 1, none)
abbrev mX0_read : br_Y := (yX0_read, cX0_read, 3, none)
abbrev mX0_has : br_Y := (yX0_has, cX0_has, 2, some .boolean)
abbrev mX0_kindOf : br_Y := (yX0_kindOf, cX0_kindOf, 2, some .int)
abbrev mX0_worthOf : br_Y := (yX0_worthOf, cX0_worthOf, 2, some .int)
abbrev mX0_sureOf : br_Y := (yX0_sureOf, cX0_sureOf, 2, some .int)
abbrev mX0_isA : br_Y := (yX0_isA, cX0_isA, 4, some .boolean)
abbrev mX1_init : br_Y := (yX1_init, cX1_init, 1, none)
abbrev mX1_add : br_Y := (yX1_add, cX1_add, 2, none)
abbrev mX1_codeAt : br_Y := (yX1_codeAt, cX1_codeAt, 2, some .int)
abbrev mX1_firstFault : br_Y := (yX1_firstFault, cX1_firstFault, 2, some .int)
abbrev mX1_tellsGym : br_Y := (yX1_tellsGym, cX1_tellsGym, 2, some .boolean)
abbrev mX1_fits : br_Y := (yX1_fits, cX1_fits, 3, some .boolean)
abbrev mX1_kindByLetter : br_Y := (yX1_kindByLetter, cX1_kindByLetter, 1, some .int)
abbrev mX2_init : br_Y := (yX2_init, cX2_init, 2, none)
abbrev mX2_reaches : br_Y := (yX2_reaches, cX2_reaches, 2, some .boolean)
abbrev mX2_pieceAt : br_Y := (yX2_pieceAt, cX2_pieceAt, 2, some .int)
abbrev mX2_placeOf : br_Y := (yX2_placeOf, cX2_placeOf, 3, some .int)
abbrev mX2_holds : br_Y := (yX2_holds, cX2_holds, 2, some .boolean)
abbrev mX2_append : br_Y := (yX2_append, cX2_append, 2, none)
abbrev mX2_removeAt : br_Y := (yX2_removeAt, cX2_removeAt, 4, some .int)
abbrev mX2_exchange : br_Y := (yX2_exchange, cX2_exchange, 4, none)
abbrev mX2_copyFrom : br_Y := (yX2_copyFrom, cX2_copyFrom, 3, none)
abbrev mX2_howMany : br_Y := (yX2_howMany, cX2_howMany, 4, some .int)
abbrev mX2_joins : br_Y := (yX2_joins, cX2_joins, 3, some .int)
abbrev mX2_joinWorth : br_Y := (yX2_joinWorth, cX2_joinWorth, 4, some .int)
abbrev mX2_lackingPenalty : br_Y := (yX2_lackingPenalty, cX2_lackingPenalty, 1, some .int)
abbrev mX2_chanceAt : br_Y := (yX2_chanceAt, cX2_chanceAt, 3, some .int)
abbrev mX2_points : br_Y := (yX2_points, cX2_points, 2, some .int)
abbrev mX2_gained : br_Y := (yX2_gained, cX2_gained, 4, some .int)
abbrev mX2_meanInHundredths : br_Y := (yX2_meanInHundredths, cX2_meanInHundredths, 4, some .int)
abbrev mX2_allParts : br_Y := (yX2_allParts, cX2_allParts, 3, some .int)
abbrev mX2_partsWith : br_Y := (yX2_partsWith, cX2_partsWith, 5, some .int)
abbrev mX2_partsOf : br_Y := (yX2_partsOf, cX2_partsOf, 5, some .int)
abbrev mX3_init : br_Y := (yX3_init, cX3_init, 2, none)
abbrev mX3_add : br_Y := (yX3_add, cX3_add, 4, none)
abbrev mX3_copyFrom : br_Y := (yX3_copyFrom, cX3_copyFrom, 3, none)
abbrev mX3_possibleSures : br_Y := (yX3_possibleSures, cX3_possibleSures, 4, some .int)
abbrev mX3_likeliestSure : br_Y := (yX3_likeliestSure, cX3_likeliestSure, 6, some .int)
abbrev mX3_likelihood : br_Y := (yX3_likelihood, cX3_likelihood, 6, some .int)
abbrev mX4_init : br_Y := (yX4_init, cX4_init, 1, none)
abbrev mX4_letter : br_Y := (yX4_letter, cX4_letter, 2, some .int)
abbrev mX4_blank : br_Y := (yX4_blank, cX4_blank, 2, some .int)
abbrev mX4_fault : br_Y := (yX4_fault, cX4_fault, 1, some .int)
abbrev mX4_gym : br_Y := (yX4_gym, cX4_gym, 1, some .int)
abbrev mX4_piece : br_Y := (yX4_piece, cX4_piece, 3, some .int)
abbrev mX4_as : br_Y := (yX4_as, cX4_as, 3, some .int)
abbrev mX4_put : br_Y := (yX4_put, cX4_put, 2, some .int)
abbrev mX4_take : br_Y := (yX4_take, cX4_take, 2, some .int)
abbrev mX4_swap : br_Y := (yX4_swap, cX4_swap, 3, some .int)
abbrev mX4_at : br_Y := (yX4_at, cX4_at, 2, some .int)
abbrev mX4_score : br_Y := (yX4_score, cX4_score, 2, some .int)
abbrev mX4_mean : br_Y := (yX4_mean, cX4_mean, 2, some .int)
abbrev mX4_odds : br_Y := (yX4_odds, cX4_odds, 3, some .int)
abbrev mX4_best : br_Y := (yX4_best, cX4_best, 4, some .int)
abbrev mX4_more : br_Y := (yX4_more, cX4_more, 6, some .int)
abbrev mX4_tryIt : br_Y := (yX4_tryIt, cX4_tryIt, 4, some .int)
abbrev mX4_forget : br_Y := (yX4_forget, cX4_forget, 2, some .int)
abbrev mX4_meets : br_Y := (yX4_meets, cX4_meets, 10, some .int)
abbrev mX4_image : br_Y := (yX4_image, cX4_image, 1, some .int)
abbrev mX4_restore : br_Y := (yX4_restore, cX4_restore, 1, some .int)
abbrev mX4_count : br_Y := (yX4_count, cX4_count, 2, some .int)
abbrev mX4_digest : br_Y := (yX4_digest, cX4_digest, 5, some .long)
abbrev mX4_noGym : br_Y := (yX4_noGym, cX4_noGym, 1, some .boolean)
abbrev mX4_isScore : br_Y := (yX4_isScore, cX4_isScore, 1, some .boolean)
abbrev mX4_asksAboveOrBelow : br_Y := (yX4_asksAboveOrBelow, cX4_asksAboveOrBelow, 1, some .boolean)
abbrev mX4_mixed : br_Y := (yX4_mixed, cX4_mixed, 4, some .long)
abbrev mX4_nextSeed : br_Y := (yX4_nextSeed, cX4_nextSeed, 1, some .int)
abbrev mX4_drawOfTen : br_Y := (yX4_drawOfTen, cX4_drawOfTen, 1, some .int)
abbrev mX4_inLowestTerms : br_Y := (yX4_inLowestTerms, cX4_inLowestTerms, 4, some .int)
abbrev mX4_commonDivisor : br_Y := (yX4_commonDivisor, cX4_commonDivisor, 6, some .int)
abbrev mX4_findFinest : br_Y := (yX4_findFinest, cX4_findFinest, 6, none)
abbrev mX4_picksOf : br_Y := (yX4_picksOf, cX4_picksOf, 4, some .int)
abbrev mX4_pickByNumber : br_Y := (yX4_pickByNumber, cX4_pickByNumber, 6, some .boolean)
abbrev mX4_chanceOf : br_Y := (yX4_chanceOf, cX4_chanceOf, 4, some .int)
abbrev mX5_init : br_Y := (yX5_init, cX5_init, 1, none)
abbrev mX5_in : br_Y := (yX5_in, cX5_in, 6, some .boolean)
abbrev mX5_copy : br_Y := (yX5_copy, cX5_copy, 3, none)
abbrev mX5_common : br_Y := (yX5_common, cX5_common, 5, some .int)
abbrev mX5_letter : br_Y := (yX5_letter, cX5_letter, 2, some .int)
abbrev mX5_blank : br_Y := (yX5_blank, cX5_blank, 2, some .int)
abbrev mX5_kindBy : br_Y := (yX5_kindBy, cX5_kindBy, 1, some .int)
abbrev mX5_isGood : br_Y := (yX5_isGood, cX5_isGood, 2, some .boolean)
abbrev mX5_faultOf : br_Y := (yX5_faultOf, cX5_faultOf, 2, some .int)
abbrev mX5_fault : br_Y := (yX5_fault, cX5_fault, 1, some .int)
abbrev mX5_gym : br_Y := (yX5_gym, cX5_gym, 2, some .int)
abbrev mX5_lacks : br_Y := (yX5_lacks, cX5_lacks, 1, some .boolean)
abbrev mX5_isPiece : br_Y := (yX5_isPiece, cX5_isPiece, 2, some .boolean)
abbrev mX5_isPlace : br_Y := (yX5_isPlace, cX5_isPlace, 2, some .boolean)
abbrev mX5_tenthsBy : br_Y := (yX5_tenthsBy, cX5_tenthsBy, 4, some .int)
abbrev mX5_tenthsOf : br_Y := (yX5_tenthsOf, cX5_tenthsOf, 3, some .int)
abbrev mX5_placeOf : br_Y := (yX5_placeOf, cX5_placeOf, 4, some .int)
abbrev mX5_tell : br_Y := (yX5_tell, cX5_tell, 3, some .int)
abbrev mX5_piece : br_Y := (yX5_piece, cX5_piece, 3, some .int)
abbrev mX5_as : br_Y := (yX5_as, cX5_as, 5, some .int)
abbrev mX5_put : br_Y := (yX5_put, cX5_put, 2, some .int)
abbrev mX5_take : br_Y := (yX5_take, cX5_take, 4, some .int)
abbrev mX5_swap : br_Y := (yX5_swap, cX5_swap, 4, some .int)
abbrev mX5_at : br_Y := (yX5_at, cX5_at, 2, some .int)
abbrev mX5_isFlight : br_Y := (yX5_isFlight, cX5_isFlight, 2, some .boolean)
abbrev mX5_isTurn : br_Y := (yX5_isTurn, cX5_isTurn, 2, some .boolean)
abbrev mX5_joins : br_Y := (yX5_joins, cX5_joins, 4, some .boolean)
abbrev mX5_scoreOf : br_Y := (yX5_scoreOf, cX5_scoreOf, 10, some .int)
abbrev mX5_waysOf : br_Y := (yX5_waysOf, cX5_waysOf, 7, some .int)
abbrev mX5_powerOf : br_Y := (yX5_powerOf, cX5_powerOf, 3, some .int)
abbrev mX5_score : br_Y := (yX5_score, cX5_score, 2, some .int)
abbrev mX5_meanUp : br_Y := (yX5_meanUp, cX5_meanUp, 5, some .int)
abbrev mX5_meanOf : br_Y := (yX5_meanOf, cX5_meanOf, 6, some .int)
abbrev mX5_mean : br_Y := (yX5_mean, cX5_mean, 2, some .int)
abbrev mX5_oddsUp : br_Y := (yX5_oddsUp, cX5_oddsUp, 6, some .int)
abbrev mX5_oddsOf : br_Y := (yX5_oddsOf, cX5_oddsOf, 5, some .int)
abbrev mX5_odds : br_Y := (yX5_odds, cX5_odds, 3, some .int)
abbrev mX5_layRow : br_Y := (yX5_layRow, cX5_layRow, 7, some .boolean)
abbrev mX5_bestOf : br_Y := (yX5_bestOf, cX5_bestOf, 6, some .int)
abbrev mX5_best : br_Y := (yX5_best, cX5_best, 3, some .int)
abbrev mX5_moreOf : br_Y := (yX5_moreOf, cX5_moreOf, 6, some .int)
abbrev mX5_more : br_Y := (yX5_more, cX5_more, 2, some .int)
abbrev mX5_tryIt : br_Y := (yX5_tryIt, cX5_tryIt, 4, some .int)
abbrev mX5_forget : br_Y := (yX5_forget, cX5_forget, 2, some .int)
abbrev mX5_triedWays : br_Y := (yX5_triedWays, cX5_triedWays, 7, some .long)
abbrev mX5_sureOf : br_Y := (yX5_sureOf, cX5_sureOf, 4, some .int)
abbrev mX5_likelyOf : br_Y := (yX5_likelyOf, cX5_likelyOf, 8, some .int)
abbrev mX5_draw : br_Y := (yX5_draw, cX5_draw, 2, some .int)
abbrev mX5_meets : br_Y := (yX5_meets, cX5_meets, 9, some .int)
abbrev mX5_image : br_Y := (yX5_image, cX5_image, 1, some .int)
abbrev mX5_restore : br_Y := (yX5_restore, cX5_restore, 1, some .int)
abbrev mX5_flightsIn : br_Y := (yX5_flightsIn, cX5_flightsIn, 3, some .int)
abbrev mX5_turnsIn : br_Y := (yX5_turnsIn, cX5_turnsIn, 3, some .int)
abbrev mX5_joinsIn : br_Y := (yX5_joinsIn, cX5_joinsIn, 3, some .int)
abbrev mX5_countOf : br_Y := (yX5_countOf, cX5_countOf, 2, some .int)
abbrev mX5_count : br_Y := (yX5_count, cX5_count, 2, some .int)
abbrev mX5_say : br_Y := (yX5_say, cX5_say, 3, none)
abbrev mX5_digest : br_Y := (yX5_digest, cX5_digest, 3, some .long)
abbrev mJ9_max_7cf53 : br_Y := (yJ9_max_7cf53, cJ9_max_7cf53, 2, some .int)
theorem br_lay0 : ∀ k, k < 4 → u_lay RX0 TX0 k ∈ br_W0 := fun k hk => match k, hk with
  | 0, _ => (br_W0_in (i := 80) (by decide +kernel) (by decide +kernel))
  | 1, _ => (br_W0_in (i := 82) (by decide +kernel) (by decide +kernel))
  | 2, _ => (br_W0_in (i := 84) (by decide +kernel) (by decide +kernel))
  | 3, _ => (br_W0_in (i := 86) (by decide +kernel) (by decide +kernel))
  | k + 4, h => absurd h (by omega)
theorem br_cl0 : br_Cl 0 RX0 TX0 4 := ⟨rfl, fun w hw => by obtain ⟨k, hk, rfl⟩ := List.mem_map.mp hw; exact br_lay0 k (List.mem_range.mp hk), tyX0, tyX0_ok, nmX0⟩
theorem br_lay1 : ∀ k, k < 2 → u_lay RX1 TX1 k ∈ br_W0 := fun k hk => match k, hk with
  | 0, _ => (br_W0_in (i := 63) (by decide +kernel) (by decide +kernel))
  | 1, _ => (br_W0_in (i := 65) (by decide +kernel) (by decide +kernel))
  | k + 2, h => absurd h (by omega)
theorem br_cl1 : br_Cl 1 RX1 TX1 2 := ⟨rfl, fun w hw => by obtain ⟨k, hk, rfl⟩ := List.mem_map.mp hw; exact br_lay1 k (List.mem_range.mp hk), tyX1, tyX1_ok, nmX1⟩
theorem br_lay2 : ∀ k, k < 3 → u_lay RX2 TX2 k ∈ br_W0 := fun k hk => match k, hk with
  | 0, _ => (br_W0_in (i := 99) (by decide +kernel) (by decide +kernel))
  | 1, _ => (br_W0_in (i := 101) (by decide +kernel) (by decide +kernel))
  | 2, _ => (br_W0_in (i := 103) (by decide +kernel) (by decide +kernel))
  | k + 3, h => absurd h (by omega)
theorem br_cl2 : br_Cl 2 RX2 TX2 3 := ⟨rfl, fun w hw => by obtain ⟨k, hk, rfl⟩ := List.mem_map.mp hw; exact br_lay2 k (List.mem_range.mp hk), tyX2, tyX2_ok, nmX2⟩
theorem br_lay3 : ∀ k, k < 5 → u_lay RX3 TX3 k ∈ br_W0 := fun k hk => match k, hk with
  | 0, _ => (br_W0_in (i := 118) (by decide +kernel) (by decide +kernel))
  | 1, _ => (br_W0_in (i := 120) (by decide +kernel) (by decide +kernel))
  | 2, _ => (br_W0_in (i := 122) (by decide +kernel) (by decide +kernel))
  | 3, _ => (br_W0_in (i := 124) (by decide +kernel) (by decide +kernel))
  | 4, _ => (br_W0_in (i := 126) (by decide +kernel) (by decide +kernel))
  | k + 5, h => absurd h (by omega)
theorem br_cl3 : br_Cl 3 RX3 TX3 5 := ⟨rfl, fun w hw => by obtain ⟨k, hk, rfl⟩ := List.mem_map.mp hw; exact br_lay3 k (List.mem_range.mp hk), tyX3, tyX3_ok, nmX3⟩
theorem br_lay4 : ∀ k, k < 13 → u_lay RX4 TX4 k ∈ br_W0 := fun k hk => match k, hk with
  | 0, _ => (br_W0_in (i := 143) (by decide +kernel) (by decide +kernel))
  | 1, _ => (br_W0_in (i := 145) (by decide +kernel) (by decide +kernel))
  | 2, _ => (br_W0_in (i := 147) (by decide +kernel) (by decide +kernel))
  | 3, _ => (br_W0_in (i := 149) (by decide +kernel) (by decide +kernel))
  | 4, _ => (br_W0_in (i := 151) (by decide +kernel) (by decide +kernel))
  | 5, _ => (br_W0_in (i := 153) (by decide +kernel) (by decide +kernel))
  | 6, _ => (br_W0_in (i := 155) (by decide +kernel) (by decide +kernel))
  | 7, _ => (br_W0_in (i := 157) (by decide +kernel) (by decide +kernel))
  | 8, _ => (br_W0_in (i := 159) (by decide +kernel) (by decide +kernel))
  | 9, _ => (br_W0_in (i := 161) (by decide +kernel) (by decide +kernel))
  | 10, _ => (br_W0_in (i := 163) (by decide +kernel) (by decide +kernel))
  | 11, _ => (br_W0_in (i := 165) (by decide +kernel) (by decide +kernel))
  | 12, _ => (br_W0_in (i := 167) (by decide +kernel) (by decide +kernel))
  | k + 13, h => absurd h (by omega)
theorem br_cl4 : br_Cl 4 RX4 TX4 13 := ⟨rfl, fun w hw => by obtain ⟨k, hk, rfl⟩ := List.mem_map.mp hw; exact br_lay4 k (List.mem_range.mp hk), tyX4, tyX4_ok, nmX4⟩
theorem br_lay5 : ∀ k, k < 21 → u_lay RX5 TX5 k ∈ br_W0 := fun k hk => match k, hk with
  | 0, _ => (br_W0_in (i := 496) (by decide +kernel) (by decide +kernel))
  | 1, _ => (br_W0_in (i := 498) (by decide +kernel) (by decide +kernel))
  | 2, _ => (br_W0_in (i := 500) (by decide +kernel) (by decide +kernel))
  | 3, _ => (br_W0_in (i := 502) (by decide +kernel) (by decide +kernel))
  | 4, _ => (br_W0_in (i := 504) (by decide +kernel) (by decide +kernel))
  | 5, _ => (br_W0_in (i := 506) (by decide +kernel) (by decide +kernel))
  | 6, _ => (br_W0_in (i := 508) (by decide +kernel) (by decide +kernel))
  | 7, _ => (br_W0_in (i := 510) (by decide +kernel) (by decide +kernel))
  | 8, _ => (br_W0_in (i := 512) (by decide +kernel) (by decide +kernel))
  | 9, _ => (br_W0_in (i := 514) (by decide +kernel) (by decide +kernel))
  | 10, _ => (br_W0_in (i := 516) (by decide +kernel) (by decide +kernel))
  | 11, _ => (br_W0_in (i := 518) (by decide +kernel) (by decide +kernel))
  | 12, _ => (br_W0_in (i := 520) (by decide +kernel) (by decide +kernel))
  | 13, _ => (br_W0_in (i := 522) (by decide +kernel) (by decide +kernel))
  | 14, _ => (br_W0_in (i := 524) (by decide +kernel) (by decide +kernel))
  | 15, _ => (br_W0_in (i := 526) (by decide +kernel) (by decide +kernel))
  | 16, _ => (br_W0_in (i := 528) (by decide +kernel) (by decide +kernel))
  | 17, _ => (br_W0_in (i := 530) (by decide +kernel) (by decide +kernel))
  | 18, _ => (br_W0_in (i := 532) (by decide +kernel) (by decide +kernel))
  | 19, _ => (br_W0_in (i := 534) (by decide +kernel) (by decide +kernel))
  | 20, _ => (br_W0_in (i := 536) (by decide +kernel) (by decide +kernel))
  | k + 21, h => absurd h (by omega)
theorem br_cl5 : br_Cl 5 RX5 TX5 21 := ⟨rfl, fun w hw => by obtain ⟨k, hk, rfl⟩ := List.mem_map.mp hw; exact br_lay5 k (List.mem_range.mp hk), tyX5, tyX5_ok, nmX5⟩
theorem fdX1_9 : br_fd RX1 9 1 0 true (.array .int) := ⟨_, _, _, br_cl1, by decide, Or.inl (br_W0_in (i := 59) (by decide +kernel) (by decide +kernel)), rfl, by decide +kernel⟩
theorem fdX1_15 : br_fd RX1 15 1 1 false .int := ⟨_, _, _, br_cl1, by decide, Or.inl (br_W0_in (i := 60) (by decide +kernel) (by decide +kernel)), rfl, by decide +kernel⟩
theorem fdX0_25 : br_fd RX0 25 1 1 false .int := ⟨_, _, _, br_cl1, by decide, Or.inr (by decide +kernel), rfl, by decide +kernel⟩
theorem fdX4_68 : br_fd RX4 68 1 1 false .int := ⟨_, _, _, br_cl1, by decide, Or.inr (by decide +kernel), rfl, by decide +kernel⟩
theorem fdX0_9 : br_fd RX0 9 0 0 true (.array .int) := ⟨_, _, _, br_cl0, by decide, Or.inl (br_W0_in (i := 75) (by decide +kernel) (by decide +kernel)), rfl, by decide +kernel⟩
theorem fdX0_15 : br_fd RX0 15 0 1 true (.array .int) := ⟨_, _, _, br_cl0, by decide, Or.inl (br_W0_in (i := 76) (by decide +kernel) (by decide +kernel)), rfl, by decide +kernel⟩
theorem fdX0_18 : br_fd RX0 18 0 2 true (.array .int) := ⟨_, _, _, br_cl0, by decide, Or.inl (br_W0_in (i := 77) (by decide +kernel) (by decide +kernel)), rfl, by decide +kernel⟩
theorem fdX0_21 : br_fd RX0 21 0 3 false .int := ⟨_, _, _, br_cl0, by decide, Or.inl (br_W0_in (i := 78) (by decide +kernel) (by decide +kernel)), rfl, by decide +kernel⟩
theorem fdX4_91 : br_fd RX4 91 0 3 false .int := ⟨_, _, _, br_cl0, by decide, Or.inr (by decide +kernel), rfl, by decide +kernel⟩
theorem fdX2_19 : br_fd RX2 19 2 0 true (.object "BarRoutine$Gym") := ⟨_, _, _, br_cl2, by decide, Or.inl (br_W0_in (i := 95) (by decide +kernel) (by decide +kernel)), rfl, by decide +kernel⟩
theorem fdX2_9 : br_fd RX2 9 2 1 true (.array .int) := ⟨_, _, _, br_cl2, by decide, Or.inl (br_W0_in (i := 96) (by decide +kernel) (by decide +kernel)), rfl, by decide +kernel⟩
theorem fdX2_15 : br_fd RX2 15 2 2 false .int := ⟨_, _, _, br_cl2, by decide, Or.inl (br_W0_in (i := 97) (by decide +kernel) (by decide +kernel)), rfl, by decide +kernel⟩
theorem fdX4_87 : br_fd RX4 87 2 2 false .int := ⟨_, _, _, br_cl2, by decide, Or.inr (by decide +kernel), rfl, by decide +kernel⟩
theorem fdX3_26 : br_fd RX3 26 3 0 true (.object "BarRoutine$Gym") := ⟨_, _, _, br_cl3, by decide, Or.inl (br_W0_in (i := 112) (by decide +kernel) (by decide +kernel)), rfl, by decide +kernel⟩
theorem fdX3_9 : br_fd RX3 9 3 1 true (.array .int) := ⟨_, _, _, br_cl3, by decide, Or.inl (br_W0_in (i := 113) (by decide +kernel) (by decide +kernel)), rfl, by decide +kernel⟩
theorem fdX3_15 : br_fd RX3 15 3 2 true (.array .int) := ⟨_, _, _, br_cl3, by decide, Or.inl (br_W0_in (i := 114) (by decide +kernel) (by decide +kernel)), rfl, by decide +kernel⟩
theorem fdX3_18 : br_fd RX3 18 3 3 true (.array .boolean) := ⟨_, _, _, br_cl3, by decide, Or.inl (br_W0_in (i := 115) (by decide +kernel) (by decide +kernel)), rfl, by decide +kernel⟩
theorem fdX3_22 : br_fd RX3 22 3 4 false .int := ⟨_, _, _, br_cl3, by decide, Or.inl (br_W0_in (i := 116) (by decide +kernel) (by decide +kernel)), rfl, by decide +kernel⟩
theorem fdX4_90 : br_fd RX4 90 3 4 false .int := ⟨_, _, _, br_cl3, by decide, Or.inr (by decide +kernel), rfl, by decide +kernel⟩
theorem fdX4_12 : br_fd RX4 12 4 0 true (.object "BarRoutine$Page") := ⟨_, _, _, br_cl4, by decide, Or.inl (br_W0_in (i := 130) (by decide +kernel) (by decide +kernel)), rfl, by decide +kernel⟩
theorem fdX4_19 : br_fd RX4 19 4 1 true (.object "BarRoutine$Gym") := ⟨_, _, _, br_cl4, by decide, Or.inl (br_W0_in (i := 131) (by decide +kernel) (by decide +kernel)), rfl, by decide +kernel⟩
theorem fdX4_28 : br_fd RX4 28 4 2 true (.object "BarRoutine$Routine") := ⟨_, _, _, br_cl4, by decide, Or.inl (br_W0_in (i := 132) (by decide +kernel) (by decide +kernel)), rfl, by decide +kernel⟩
theorem fdX4_35 : br_fd RX4 35 4 3 true (.object "BarRoutine$Tries") := ⟨_, _, _, br_cl4, by decide, Or.inl (br_W0_in (i := 133) (by decide +kernel) (by decide +kernel)), rfl, by decide +kernel⟩
theorem fdX4_39 : br_fd RX4 39 4 4 false .int := ⟨_, _, _, br_cl4, by decide, Or.inl (br_W0_in (i := 134) (by decide +kernel) (by decide +kernel)), rfl, by decide +kernel⟩
theorem fdX4_43 : br_fd RX4 43 4 5 false .boolean := ⟨_, _, _, br_cl4, by decide, Or.inl (br_W0_in (i := 135) (by decide +kernel) (by decide +kernel)), rfl, by decide +kernel⟩
theorem fdX4_47 : br_fd RX4 47 4 6 true (.object "BarRoutine$Routine") := ⟨_, _, _, br_cl4, by decide, Or.inl (br_W0_in (i := 136) (by decide +kernel) (by decide +kernel)), rfl, by decide +kernel⟩
theorem fdX4_50 : br_fd RX4 50 4 7 true (.object "BarRoutine$Tries") := ⟨_, _, _, br_cl4, by decide, Or.inl (br_W0_in (i := 137) (by decide +kernel) (by decide +kernel)), rfl, by decide +kernel⟩
theorem fdX4_53 : br_fd RX4 53 4 8 false .int := ⟨_, _, _, br_cl4, by decide, Or.inl (br_W0_in (i := 138) (by decide +kernel) (by decide +kernel)), rfl, by decide +kernel⟩
theorem fdX4_56 : br_fd RX4 56 4 9 true (.object "BarRoutine$Routine") := ⟨_, _, _, br_cl4, by decide, Or.inl (br_W0_in (i := 139) (by decide +kernel) (by decide +kernel)), rfl, by decide +kernel⟩
theorem fdX4_59 : br_fd RX4 59 4 10 true (.object "BarRoutine$Routine") := ⟨_, _, _, br_cl4, by decide, Or.inl (br_W0_in (i := 140) (by decide +kernel) (by decide +kernel)), rfl, by decide +kernel⟩
theorem fdX4_62 : br_fd RX4 62 4 11 false .int := ⟨_, _, _, br_cl4, by decide, Or.inl (br_W0_in (i := 141) (by decide +kernel) (by decide +kernel)), rfl, by decide +kernel⟩
theorem fdX4_65 : br_fd RX4 65 4 12 false .int := ⟨_, _, _, br_cl4, by decide, Or.inl (br_W0_in (i := 142) (by decide +kernel) (by decide +kernel)), rfl, by decide +kernel⟩
theorem fdX5_7 : br_fd RX5 7 5 0 true (.array .int) := ⟨_, _, _, br_cl5, by decide, Or.inl (br_W0_in (i := 475) (by decide +kernel) (by decide +kernel)), rfl, by decide +kernel⟩
theorem fdX5_44 : br_fd RX5 44 5 1 false .int := ⟨_, _, _, br_cl5, by decide, Or.inl (br_W0_in (i := 476) (by decide +kernel) (by decide +kernel)), rfl, by decide +kernel⟩
theorem fdX5_63 : br_fd RX5 63 5 2 false .int := ⟨_, _, _, br_cl5, by decide, Or.inl (br_W0_in (i := 477) (by decide +kernel) (by decide +kernel)), rfl, by decide +kernel⟩
theorem fdX5_69 : br_fd RX5 69 5 3 false .int := ⟨_, _, _, br_cl5, by decide, Or.inl (br_W0_in (i := 478) (by decide +kernel) (by decide +kernel)), rfl, by decide +kernel⟩
theorem fdX5_75 : br_fd RX5 75 5 4 false .int := ⟨_, _, _, br_cl5, by decide, Or.inl (br_W0_in (i := 479) (by decide +kernel) (by decide +kernel)), rfl, by decide +kernel⟩
theorem fdX5_13 : br_fd RX5 13 5 5 true (.array .int) := ⟨_, _, _, br_cl5, by decide, Or.inl (br_W0_in (i := 480) (by decide +kernel) (by decide +kernel)), rfl, by decide +kernel⟩
theorem fdX5_16 : br_fd RX5 16 5 6 true (.array .int) := ⟨_, _, _, br_cl5, by decide, Or.inl (br_W0_in (i := 481) (by decide +kernel) (by decide +kernel)), rfl, by decide +kernel⟩
theorem fdX5_66 : br_fd RX5 66 5 7 false .int := ⟨_, _, _, br_cl5, by decide, Or.inl (br_W0_in (i := 482) (by decide +kernel) (by decide +kernel)), rfl, by decide +kernel⟩
theorem fdX5_164 : br_fd RX5 164 5 8 false .int := ⟨_, _, _, br_cl5, by decide, Or.inl (br_W0_in (i := 483) (by decide +kernel) (by decide +kernel)), rfl, by decide +kernel⟩
theorem fdX5_19 : br_fd RX5 19 5 9 true (.array .int) := ⟨_, _, _, br_cl5, by decide, Or.inl (br_W0_in (i := 484) (by decide +kernel) (by decide +kernel)), rfl, by decide +kernel⟩
theorem fdX5_22 : br_fd RX5 22 5 10 true (.array .int) := ⟨_, _, _, br_cl5, by decide, Or.inl (br_W0_in (i := 485) (by decide +kernel) (by decide +kernel)), rfl, by decide +kernel⟩
theorem fdX5_72 : br_fd RX5 72 5 11 false .int := ⟨_, _, _, br_cl5, by decide, Or.inl (br_W0_in (i := 486) (by decide +kernel) (by decide +kernel)), rfl, by decide +kernel⟩
theorem fdX5_25 : br_fd RX5 25 5 12 true (.array .int) := ⟨_, _, _, br_cl5, by decide, Or.inl (br_W0_in (i := 487) (by decide +kernel) (by decide +kernel)), rfl, by decide +kernel⟩
theorem fdX5_179 : br_fd RX5 179 5 13 false .int := ⟨_, _, _, br_cl5, by decide, Or.inl (br_W0_in (i := 488) (by decide +kernel) (by decide +kernel)), rfl, by decide +kernel⟩
theorem fdX5_34 : br_fd RX5 34 5 14 false .int := ⟨_, _, _, br_cl5, by decide, Or.inl (br_W0_in (i := 489) (by decide +kernel) (by decide +kernel)), rfl, by decide +kernel⟩
theorem fdX5_194 : br_fd RX5 194 5 15 false .int := ⟨_, _, _, br_cl5, by decide, Or.inl (br_W0_in (i := 490) (by decide +kernel) (by decide +kernel)), rfl, by decide +kernel⟩
theorem fdX5_197 : br_fd RX5 197 5 16 false .int := ⟨_, _, _, br_cl5, by decide, Or.inl (br_W0_in (i := 491) (by decide +kernel) (by decide +kernel)), rfl, by decide +kernel⟩
theorem fdX5_200 : br_fd RX5 200 5 17 false .int := ⟨_, _, _, br_cl5, by decide, Or.inl (br_W0_in (i := 492) (by decide +kernel) (by decide +kernel)), rfl, by decide +kernel⟩
theorem fdX5_28 : br_fd RX5 28 5 18 true (.array .int) := ⟨_, _, _, br_cl5, by decide, Or.inl (br_W0_in (i := 493) (by decide +kernel) (by decide +kernel)), rfl, by decide +kernel⟩
theorem fdX5_31 : br_fd RX5 31 5 19 true (.array .int) := ⟨_, _, _, br_cl5, by decide, Or.inl (br_W0_in (i := 494) (by decide +kernel) (by decide +kernel)), rfl, by decide +kernel⟩
theorem fdX5_217 : br_fd RX5 217 5 20 false .long := ⟨_, _, _, br_cl5, by decide, Or.inl (br_W0_in (i := 495) (by decide +kernel) (by decide +kernel)), rfl, by decide +kernel⟩
theorem mwX4_letter : (Cond.initialized mX4_letter.1.cls ∈ br_W0 ∧ Cond.code mX4_letter.1 mX4_letter.2.1 mX4_letter.2.2.1 mX4_letter.2.2.2 ∈ br_W0) ∧ (Cond.instanceMethod mX4_letter.1 ∈ br_W0 ∧ Cond.selects mX4_letter.1.cls mX4_letter.1 mX4_letter.1 ∈ br_W0) ∧ (mX4_letter.1.cls ≠ "java/lang/invoke/MethodHandle" ∧ mX4_letter.1.cls ≠ "java/lang/invoke/VarHandle" ∧ (parseMethodDescriptor mX4_letter.1.desc).map (fun d => d.parameters.length) = some 1) ∧ mX4_letter.2.2.1 ≤ 10 := ⟨⟨(br_W0_in (i := 38) (by decide +kernel) (by decide +kernel)), (br_W0_in (i := 173) (by decide +kernel) (by decide +kernel))⟩, ⟨(br_W0_in (i := 171) (by decide +kernel) (by decide +kernel)), (br_W0_in (i := 172) (by decide +kernel) (by decide +kernel))⟩, ⟨by decide +kernel, by decide +kernel, by decide +kernel⟩, by decide⟩
theorem vcL_13 : br_vc RL 13 mX4_letter 1 := ⟨⟨(br_W0_in (i := 170) (by decide +kernel) (by decide +kernel)), mwX4_letter.1.1, mwX4_letter.1.2⟩, mwX4_letter.2⟩
theorem mwX1_add : (Cond.initialized mX1_add.1.cls ∈ br_W0 ∧ Cond.code mX1_add.1 mX1_add.2.1 mX1_add.2.2.1 mX1_add.2.2.2 ∈ br_W0) ∧ (Cond.instanceMethod mX1_add.1 ∈ br_W0 ∧ Cond.selects mX1_add.1.cls mX1_add.1 mX1_add.1 ∈ br_W0) ∧ (mX1_add.1.cls ≠ "java/lang/invoke/MethodHandle" ∧ mX1_add.1.cls ≠ "java/lang/invoke/VarHandle" ∧ (parseMethodDescriptor mX1_add.1.desc).map (fun d => d.parameters.length) = some 1) ∧ mX1_add.2.2.1 ≤ 10 := ⟨⟨(br_W0_in (i := 39) (by decide +kernel) (by decide +kernel)), (br_W0_in (i := 177) (by decide +kernel) (by decide +kernel))⟩, ⟨(br_W0_in (i := 175) (by decide +kernel) (by decide +kernel)), (br_W0_in (i := 176) (by decide +kernel) (by decide +kernel))⟩, ⟨by decide +kernel, by decide +kernel, by decide +kernel⟩, by decide⟩
theorem vcX4_71 : br_vc RX4 71 mX1_add 1 := ⟨⟨(br_W0_in (i := 174) (by decide +kernel) (by decide +kernel)), mwX1_add.1.1, mwX1_add.1.2⟩, mwX1_add.2⟩
theorem mwX4_blank : (Cond.initialized mX4_blank.1.cls ∈ br_W0 ∧ Cond.code mX4_blank.1 mX4_blank.2.1 mX4_blank.2.2.1 mX4_blank.2.2.2 ∈ br_W0) ∧ (Cond.instanceMethod mX4_blank.1 ∈ br_W0 ∧ Cond.selects mX4_blank.1.cls mX4_blank.1 mX4_blank.1 ∈ br_W0) ∧ (mX4_blank.1.cls ≠ "java/lang/invoke/MethodHandle" ∧ mX4_blank.1.cls ≠ "java/lang/invoke/VarHandle" ∧ (parseMethodDescriptor mX4_blank.1.desc).map (fun d => d.parameters.length) = some 0) ∧ mX4_blank.2.2.1 ≤ 10 := ⟨⟨(br_W0_in (i := 38) (by decide +kernel) (by decide +kernel)), (br_W0_in (i := 181) (by decide +kernel) (by decide +kernel))⟩, ⟨(br_W0_in (i := 179) (by decide +kernel) (by decide +kernel)), (br_W0_in (i := 180) (by decide +kernel) (by decide +kernel))⟩, ⟨by decide +kernel, by decide +kernel, by decide +kernel⟩, by decide⟩
theorem vcL_18 : br_vc RL 18 mX4_blank 0 := ⟨⟨(br_W0_in (i := 178) (by decide +kernel) (by decide +kernel)), mwX4_blank.1.1, mwX4_blank.1.2⟩, mwX4_blank.2⟩
theorem mwX4_fault : (Cond.initialized mX4_fault.1.cls ∈ br_W0 ∧ Cond.code mX4_fault.1 mX4_fault.2.1 mX4_fault.2.2.1 mX4_fault.2.2.2 ∈ br_W0) ∧ (Cond.instanceMethod mX4_fault.1 ∈ br_W0 ∧ Cond.selects mX4_fault.1.cls mX4_fault.1 mX4_fault.1 ∈ br_W0) ∧ (mX4_fault.1.cls ≠ "java/lang/invoke/MethodHandle" ∧ mX4_fault.1.cls ≠ "java/lang/invoke/VarHandle" ∧ (parseMethodDescriptor mX4_fault.1.desc).map (fun d => d.parameters.length) = some 0) ∧ mX4_fault.2.2.1 ≤ 10 := ⟨⟨(br_W0_in (i := 38) (by decide +kernel) (by decide +kernel)), (br_W0_in (i := 185) (by decide +kernel) (by decide +kernel))⟩, ⟨(br_W0_in (i := 183) (by decide +kernel) (by decide +kernel)), (br_W0_in (i := 184) (by decide +kernel) (by decide +kernel))⟩, ⟨by decide +kernel, by decide +kernel, by decide +kernel⟩, by decide⟩
theorem vcL_23 : br_vc RL 23 mX4_fault 0 := ⟨⟨(br_W0_in (i := 182) (by decide +kernel) (by decide +kernel)), mwX4_fault.1.1, mwX4_fault.1.2⟩, mwX4_fault.2⟩
theorem mwX1_firstFault : (Cond.initialized mX1_firstFault.1.cls ∈ br_W0 ∧ Cond.code mX1_firstFault.1 mX1_firstFault.2.1 mX1_firstFault.2.2.1 mX1_firstFault.2.2.2 ∈ br_W0) ∧ (Cond.instanceMethod mX1_firstFault.1 ∈ br_W0 ∧ Cond.selects mX1_firstFault.1.cls mX1_firstFault.1 mX1_firstFault.1 ∈ br_W0) ∧ (mX1_firstFault.1.cls ≠ "java/lang/invoke/MethodHandle" ∧ mX1_firstFault.1.cls ≠ "java/lang/invoke/VarHandle" ∧ (parseMethodDescriptor mX1_firstFault.1.desc).map (fun d => d.parameters.length) = some 0) ∧ mX1_firstFault.2.2.1 ≤ 10 := ⟨⟨(br_W0_in (i := 39) (by decide +kernel) (by decide +kernel)), (br_W0_in (i := 189) (by decide +kernel) (by decide +kernel))⟩, ⟨(br_W0_in (i := 187) (by decide +kernel) (by decide +kernel)), (br_W0_in (i := 188) (by decide +kernel) (by decide +kernel))⟩, ⟨by decide +kernel, by decide +kernel, by decide +kernel⟩, by decide⟩
theorem vcX4_75 : br_vc RX4 75 mX1_firstFault 0 := ⟨⟨(br_W0_in (i := 186) (by decide +kernel) (by decide +kernel)), mwX1_firstFault.1.1, mwX1_firstFault.1.2⟩, mwX1_firstFault.2⟩
theorem mwX1_fits : (Cond.initialized mX1_fits.1.cls ∈ br_W0 ∧ Cond.code mX1_fits.1 mX1_fits.2.1 mX1_fits.2.2.1 mX1_fits.2.2.2 ∈ br_W0) ∧ Cond.static mX1_fits.1 ∈ br_W0 ∧ (mX1_fits.1.cls ≠ "java/lang/invoke/MethodHandle" ∧ mX1_fits.1.cls ≠ "java/lang/invoke/VarHandle" ∧ (parseMethodDescriptor mX1_fits.1.desc).map (fun d => d.parameters.length) = some 2) ∧ mX1_fits.2.2.1 ≤ 10 := ⟨⟨(br_W0_in (i := 39) (by decide +kernel) (by decide +kernel)), (br_W0_in (i := 192) (by decide +kernel) (by decide +kernel))⟩, (br_W0_in (i := 191) (by decide +kernel) (by decide +kernel)), ⟨by decide +kernel, by decide +kernel, by decide +kernel⟩, by decide⟩
theorem scX1_19 : br_sc RX1 19 mX1_fits 2 := ⟨⟨(br_W0_in (i := 190) (by decide +kernel) (by decide +kernel)), mwX1_fits.1.1, mwX1_fits.1.2⟩, mwX1_fits.2⟩
theorem mwX1_kindByLetter : (Cond.initialized mX1_kindByLetter.1.cls ∈ br_W0 ∧ Cond.code mX1_kindByLetter.1 mX1_kindByLetter.2.1 mX1_kindByLetter.2.2.1 mX1_kindByLetter.2.2.2 ∈ br_W0) ∧ Cond.static mX1_kindByLetter.1 ∈ br_W0 ∧ (mX1_kindByLetter.1.cls ≠ "java/lang/invoke/MethodHandle" ∧ mX1_kindByLetter.1.cls ≠ "java/lang/invoke/VarHandle" ∧ (parseMethodDescriptor mX1_kindByLetter.1.desc).map (fun d => d.parameters.length) = some 1) ∧ mX1_kindByLetter.2.2.1 ≤ 10 := ⟨⟨(br_W0_in (i := 39) (by decide +kernel) (by decide +kernel)), (br_W0_in (i := 195) (by decide +kernel) (by decide +kernel))⟩, (br_W0_in (i := 194) (by decide +kernel) (by decide +kernel)), ⟨by decide +kernel, by decide +kernel, by decide +kernel⟩, by decide⟩
theorem scX1_27 : br_sc RX1 27 mX1_kindByLetter 1 := ⟨⟨(br_W0_in (i := 193) (by decide +kernel) (by decide +kernel)), mwX1_kindByLetter.1.1, mwX1_kindByLetter.1.2⟩, mwX1_kindByLetter.2⟩
theorem mwX4_gym : (Cond.initialized mX4_gym.1.cls ∈ br_W0 ∧ Cond.code mX4_gym.1 mX4_gym.2.1 mX4_gym.2.2.1 mX4_gym.2.2.2 ∈ br_W0) ∧ (Cond.instanceMethod mX4_gym.1 ∈ br_W0 ∧ Cond.selects mX4_gym.1.cls mX4_gym.1 mX4_gym.1 ∈ br_W0) ∧ (mX4_gym.1.cls ≠ "java/lang/invoke/MethodHandle" ∧ mX4_gym.1.cls ≠ "java/lang/invoke/VarHandle" ∧ (parseMethodDescriptor mX4_gym.1.desc).map (fun d => d.parameters.length) = some 0) ∧ mX4_gym.2.2.1 ≤ 10 := ⟨⟨(br_W0_in (i := 38) (by decide +kernel) (by decide +kernel)), (br_W0_in (i := 199) (by decide +kernel) (by decide +kernel))⟩, ⟨(br_W0_in (i := 197) (by decide +kernel) (by decide +kernel)), (br_W0_in (i := 198) (by decide +kernel) (by decide +kernel))⟩, ⟨by decide +kernel, by decide +kernel, by decide +kernel⟩, by decide⟩
theorem vcL_27 : br_vc RL 27 mX4_gym 0 := ⟨⟨(br_W0_in (i := 196) (by decide +kernel) (by decide +kernel)), mwX4_gym.1.1, mwX4_gym.1.2⟩, mwX4_gym.2⟩
theorem mwX1_tellsGym : (Cond.initialized mX1_tellsGym.1.cls ∈ br_W0 ∧ Cond.code mX1_tellsGym.1 mX1_tellsGym.2.1 mX1_tellsGym.2.2.1 mX1_tellsGym.2.2.2 ∈ br_W0) ∧ (Cond.instanceMethod mX1_tellsGym.1 ∈ br_W0 ∧ Cond.selects mX1_tellsGym.1.cls mX1_tellsGym.1 mX1_tellsGym.1 ∈ br_W0) ∧ (mX1_tellsGym.1.cls ≠ "java/lang/invoke/MethodHandle" ∧ mX1_tellsGym.1.cls ≠ "java/lang/invoke/VarHandle" ∧ (parseMethodDescriptor mX1_tellsGym.1.desc).map (fun d => d.parameters.length) = some 0) ∧ mX1_tellsGym.2.2.1 ≤ 10 := ⟨⟨(br_W0_in (i := 39) (by decide +kernel) (by decide +kernel)), (br_W0_in (i := 203) (by decide +kernel) (by decide +kernel))⟩, ⟨(br_W0_in (i := 201) (by decide +kernel) (by decide +kernel)), (br_W0_in (i := 202) (by decide +kernel) (by decide +kernel))⟩, ⟨by decide +kernel, by decide +kernel, by decide +kernel⟩, by decide⟩
theorem vcX4_79 : br_vc RX4 79 mX1_tellsGym 0 := ⟨⟨(br_W0_in (i := 200) (by decide +kernel) (by decide +kernel)), mwX1_tellsGym.1.1, mwX1_tellsGym.1.2⟩, mwX1_tellsGym.2⟩
theorem vcX1_23 : br_vc RX1 23 mX1_firstFault 0 := ⟨⟨(br_W0_in (i := 204) (by decide +kernel) (by decide +kernel)), mwX1_firstFault.1.1, mwX1_firstFault.1.2⟩, mwX1_firstFault.2⟩
theorem mwX0_read : (Cond.initialized mX0_read.1.cls ∈ br_W0 ∧ Cond.code mX0_read.1 mX0_read.2.1 mX0_read.2.2.1 mX0_read.2.2.2 ∈ br_W0) ∧ (Cond.instanceMethod mX0_read.1 ∈ br_W0 ∧ Cond.selects mX0_read.1.cls mX0_read.1 mX0_read.1 ∈ br_W0) ∧ (mX0_read.1.cls ≠ "java/lang/invoke/MethodHandle" ∧ mX0_read.1.cls ≠ "java/lang/invoke/VarHandle" ∧ (parseMethodDescriptor mX0_read.1.desc).map (fun d => d.parameters.length) = some 1) ∧ mX0_read.2.2.1 ≤ 10 := ⟨⟨(br_W0_in (i := 40) (by decide +kernel) (by decide +kernel)), (br_W0_in (i := 208) (by decide +kernel) (by decide +kernel))⟩, ⟨(br_W0_in (i := 206) (by decide +kernel) (by decide +kernel)), (br_W0_in (i := 207) (by decide +kernel) (by decide +kernel))⟩, ⟨by decide +kernel, by decide +kernel, by decide +kernel⟩, by decide⟩
theorem vcX4_83 : br_vc RX4 83 mX0_read 1 := ⟨⟨(br_W0_in (i := 205) (by decide +kernel) (by decide +kernel)), mwX0_read.1.1, mwX0_read.1.2⟩, mwX0_read.2⟩
theorem mwX1_codeAt : (Cond.initialized mX1_codeAt.1.cls ∈ br_W0 ∧ Cond.code mX1_codeAt.1 mX1_codeAt.2.1 mX1_codeAt.2.2.1 mX1_codeAt.2.2.2 ∈ br_W0) ∧ (Cond.instanceMethod mX1_codeAt.1 ∈ br_W0 ∧ Cond.selects mX1_codeAt.1.cls mX1_codeAt.1 mX1_codeAt.1 ∈ br_W0) ∧ (mX1_codeAt.1.cls ≠ "java/lang/invoke/MethodHandle" ∧ mX1_codeAt.1.cls ≠ "java/lang/invoke/VarHandle" ∧ (parseMethodDescriptor mX1_codeAt.1.desc).map (fun d => d.parameters.length) = some 1) ∧ mX1_codeAt.2.2.1 ≤ 10 := ⟨⟨(br_W0_in (i := 39) (by decide +kernel) (by decide +kernel)), (br_W0_in (i := 212) (by decide +kernel) (by decide +kernel))⟩, ⟨(br_W0_in (i := 210) (by decide +kernel) (by decide +kernel)), (br_W0_in (i := 211) (by decide +kernel) (by decide +kernel))⟩, ⟨by decide +kernel, by decide +kernel, by decide +kernel⟩, by decide⟩
theorem vcX0_30 : br_vc RX0 30 mX1_codeAt 1 := ⟨⟨(br_W0_in (i := 209) (by decide +kernel) (by decide +kernel)), mwX1_codeAt.1.1, mwX1_codeAt.1.2⟩, mwX1_codeAt.2⟩
theorem scX0_34 : br_sc RX0 34 mX1_kindByLetter 1 := ⟨⟨(br_W0_in (i := 213) (by decide +kernel) (by decide +kernel)), mwX1_kindByLetter.1.1, mwX1_kindByLetter.1.2⟩, mwX1_kindByLetter.2⟩
theorem mwX4_piece : (Cond.initialized mX4_piece.1.cls ∈ br_W0 ∧ Cond.code mX4_piece.1 mX4_piece.2.1 mX4_piece.2.2.1 mX4_piece.2.2.2 ∈ br_W0) ∧ (Cond.instanceMethod mX4_piece.1 ∈ br_W0 ∧ Cond.selects mX4_piece.1.cls mX4_piece.1 mX4_piece.1 ∈ br_W0) ∧ (mX4_piece.1.cls ≠ "java/lang/invoke/MethodHandle" ∧ mX4_piece.1.cls ≠ "java/lang/invoke/VarHandle" ∧ (parseMethodDescriptor mX4_piece.1.desc).map (fun d => d.parameters.length) = some 2) ∧ mX4_piece.2.2.1 ≤ 10 := ⟨⟨(br_W0_in (i := 38) (by decide +kernel) (by decide +kernel)), (br_W0_in (i := 217) (by decide +kernel) (by decide +kernel))⟩, ⟨(br_W0_in (i := 215) (by decide +kernel) (by decide +kernel)), (br_W0_in (i := 216) (by decide +kernel) (by decide +kernel))⟩, ⟨by decide +kernel, by decide +kernel, by decide +kernel⟩, by decide⟩
theorem vcL_31 : br_vc RL 31 mX4_piece 2 := ⟨⟨(br_W0_in (i := 214) (by decide +kernel) (by decide +kernel)), mwX4_piece.1.1, mwX4_piece.1.2⟩, mwX4_piece.2⟩
theorem mwX0_has : (Cond.initialized mX0_has.1.cls ∈ br_W0 ∧ Cond.code mX0_has.1 mX0_has.2.1 mX0_has.2.2.1 mX0_has.2.2.2 ∈ br_W0) ∧ (Cond.instanceMethod mX0_has.1 ∈ br_W0 ∧ Cond.selects mX0_has.1.cls mX0_has.1 mX0_has.1 ∈ br_W0) ∧ (mX0_has.1.cls ≠ "java/lang/invoke/MethodHandle" ∧ mX0_has.1.cls ≠ "java/lang/invoke/VarHandle" ∧ (parseMethodDescriptor mX0_has.1.desc).map (fun d => d.parameters.length) = some 1) ∧ mX0_has.2.2.1 ≤ 10 := ⟨⟨(br_W0_in (i := 40) (by decide +kernel) (by decide +kernel)), (br_W0_in (i := 221) (by decide +kernel) (by decide +kernel))⟩, ⟨(br_W0_in (i := 219) (by decide +kernel) (by decide +kernel)), (br_W0_in (i := 220) (by decide +kernel) (by decide +kernel))⟩, ⟨by decide +kernel, by decide +kernel, by decide +kernel⟩, by decide⟩
theorem vcX4_92 : br_vc RX4 92 mX0_has 1 := ⟨⟨(br_W0_in (i := 218) (by decide +kernel) (by decide +kernel)), mwX0_has.1.1, mwX0_has.1.2⟩, mwX0_has.2⟩
theorem mwX0_kindOf : (Cond.initialized mX0_kindOf.1.cls ∈ br_W0 ∧ Cond.code mX0_kindOf.1 mX0_kindOf.2.1 mX0_kindOf.2.2.1 mX0_kindOf.2.2.2 ∈ br_W0) ∧ (Cond.instanceMethod mX0_kindOf.1 ∈ br_W0 ∧ Cond.selects mX0_kindOf.1.cls mX0_kindOf.1 mX0_kindOf.1 ∈ br_W0) ∧ (mX0_kindOf.1.cls ≠ "java/lang/invoke/MethodHandle" ∧ mX0_kindOf.1.cls ≠ "java/lang/invoke/VarHandle" ∧ (parseMethodDescriptor mX0_kindOf.1.desc).map (fun d => d.parameters.length) = some 1) ∧ mX0_kindOf.2.2.1 ≤ 10 := ⟨⟨(br_W0_in (i := 40) (by decide +kernel) (by decide +kernel)), (br_W0_in (i := 225) (by decide +kernel) (by decide +kernel))⟩, ⟨(br_W0_in (i := 223) (by decide +kernel) (by decide +kernel)), (br_W0_in (i := 224) (by decide +kernel) (by decide +kernel))⟩, ⟨by decide +kernel, by decide +kernel, by decide +kernel⟩, by decide⟩
theorem vcX4_96 : br_vc RX4 96 mX0_kindOf 1 := ⟨⟨(br_W0_in (i := 222) (by decide +kernel) (by decide +kernel)), mwX0_kindOf.1.1, mwX0_kindOf.1.2⟩, mwX0_kindOf.2⟩
theorem vcX0_37 : br_vc RX0 37 mX0_has 1 := ⟨⟨(br_W0_in (i := 226) (by decide +kernel) (by decide +kernel)), mwX0_has.1.1, mwX0_has.1.2⟩, mwX0_has.2⟩
theorem mwX0_worthOf : (Cond.initialized mX0_worthOf.1.cls ∈ br_W0 ∧ Cond.code mX0_worthOf.1 mX0_worthOf.2.1 mX0_worthOf.2.2.1 mX0_worthOf.2.2.2 ∈ br_W0) ∧ (Cond.instanceMethod mX0_worthOf.1 ∈ br_W0 ∧ Cond.selects mX0_worthOf.1.cls mX0_worthOf.1 mX0_worthOf.1 ∈ br_W0) ∧ (mX0_worthOf.1.cls ≠ "java/lang/invoke/MethodHandle" ∧ mX0_worthOf.1.cls ≠ "java/lang/invoke/VarHandle" ∧ (parseMethodDescriptor mX0_worthOf.1.desc).map (fun d => d.parameters.length) = some 1) ∧ mX0_worthOf.2.2.1 ≤ 10 := ⟨⟨(br_W0_in (i := 40) (by decide +kernel) (by decide +kernel)), (br_W0_in (i := 230) (by decide +kernel) (by decide +kernel))⟩, ⟨(br_W0_in (i := 228) (by decide +kernel) (by decide +kernel)), (br_W0_in (i := 229) (by decide +kernel) (by decide +kernel))⟩, ⟨by decide +kernel, by decide +kernel, by decide +kernel⟩, by decide⟩
theorem vcX4_100 : br_vc RX4 100 mX0_worthOf 1 := ⟨⟨(br_W0_in (i := 227) (by decide +kernel) (by decide +kernel)), mwX0_worthOf.1.1, mwX0_worthOf.1.2⟩, mwX0_worthOf.2⟩
theorem mwX0_sureOf : (Cond.initialized mX0_sureOf.1.cls ∈ br_W0 ∧ Cond.code mX0_sureOf.1 mX0_sureOf.2.1 mX0_sureOf.2.2.1 mX0_sureOf.2.2.2 ∈ br_W0) ∧ (Cond.instanceMethod mX0_sureOf.1 ∈ br_W0 ∧ Cond.selects mX0_sureOf.1.cls mX0_sureOf.1 mX0_sureOf.1 ∈ br_W0) ∧ (mX0_sureOf.1.cls ≠ "java/lang/invoke/MethodHandle" ∧ mX0_sureOf.1.cls ≠ "java/lang/invoke/VarHandle" ∧ (parseMethodDescriptor mX0_sureOf.1.desc).map (fun d => d.parameters.length) = some 1) ∧ mX0_sureOf.2.2.1 ≤ 10 := ⟨⟨(br_W0_in (i := 40) (by decide +kernel) (by decide +kernel)), (br_W0_in (i := 234) (by decide +kernel) (by decide +kernel))⟩, ⟨(br_W0_in (i := 232) (by decide +kernel) (by decide +kernel)), (br_W0_in (i := 233) (by decide +kernel) (by decide +kernel))⟩, ⟨by decide +kernel, by decide +kernel, by decide +kernel⟩, by decide⟩
theorem vcX4_103 : br_vc RX4 103 mX0_sureOf 1 := ⟨⟨(br_W0_in (i := 231) (by decide +kernel) (by decide +kernel)), mwX0_sureOf.1.1, mwX0_sureOf.1.2⟩, mwX0_sureOf.2⟩
theorem mwX2_placeOf : (Cond.initialized mX2_placeOf.1.cls ∈ br_W0 ∧ Cond.code mX2_placeOf.1 mX2_placeOf.2.1 mX2_placeOf.2.2.1 mX2_placeOf.2.2.2 ∈ br_W0) ∧ (Cond.instanceMethod mX2_placeOf.1 ∈ br_W0 ∧ Cond.selects mX2_placeOf.1.cls mX2_placeOf.1 mX2_placeOf.1 ∈ br_W0) ∧ (mX2_placeOf.1.cls ≠ "java/lang/invoke/MethodHandle" ∧ mX2_placeOf.1.cls ≠ "java/lang/invoke/VarHandle" ∧ (parseMethodDescriptor mX2_placeOf.1.desc).map (fun d => d.parameters.length) = some 1) ∧ mX2_placeOf.2.2.1 ≤ 10 := ⟨⟨(br_W0_in (i := 41) (by decide +kernel) (by decide +kernel)), (br_W0_in (i := 238) (by decide +kernel) (by decide +kernel))⟩, ⟨(br_W0_in (i := 236) (by decide +kernel) (by decide +kernel)), (br_W0_in (i := 237) (by decide +kernel) (by decide +kernel))⟩, ⟨by decide +kernel, by decide +kernel, by decide +kernel⟩, by decide⟩
theorem vcX4_106 : br_vc RX4 106 mX2_placeOf 1 := ⟨⟨(br_W0_in (i := 235) (by decide +kernel) (by decide +kernel)), mwX2_placeOf.1.1, mwX2_placeOf.1.2⟩, mwX2_placeOf.2⟩
theorem mwX2_holds : (Cond.initialized mX2_holds.1.cls ∈ br_W0 ∧ Cond.code mX2_holds.1 mX2_holds.2.1 mX2_holds.2.2.1 mX2_holds.2.2.2 ∈ br_W0) ∧ (Cond.instanceMethod mX2_holds.1 ∈ br_W0 ∧ Cond.selects mX2_holds.1.cls mX2_holds.1 mX2_holds.1 ∈ br_W0) ∧ (mX2_holds.1.cls ≠ "java/lang/invoke/MethodHandle" ∧ mX2_holds.1.cls ≠ "java/lang/invoke/VarHandle" ∧ (parseMethodDescriptor mX2_holds.1.desc).map (fun d => d.parameters.length) = some 1) ∧ mX2_holds.2.2.1 ≤ 10 := ⟨⟨(br_W0_in (i := 41) (by decide +kernel) (by decide +kernel)), (br_W0_in (i := 242) (by decide +kernel) (by decide +kernel))⟩, ⟨(br_W0_in (i := 240) (by decide +kernel) (by decide +kernel)), (br_W0_in (i := 241) (by decide +kernel) (by decide +kernel))⟩, ⟨by decide +kernel, by decide +kernel, by decide +kernel⟩, by decide⟩
theorem vcX4_109 : br_vc RX4 109 mX2_holds 1 := ⟨⟨(br_W0_in (i := 239) (by decide +kernel) (by decide +kernel)), mwX2_holds.1.1, mwX2_holds.1.2⟩, mwX2_holds.2⟩
theorem vcX2_27 : br_vc RX2 27 mX2_placeOf 1 := ⟨⟨(br_W0_in (i := 243) (by decide +kernel) (by decide +kernel)), mwX2_placeOf.1.1, mwX2_placeOf.1.2⟩, mwX2_placeOf.2⟩
theorem mwX2_chanceAt : (Cond.initialized mX2_chanceAt.1.cls ∈ br_W0 ∧ Cond.code mX2_chanceAt.1 mX2_chanceAt.2.1 mX2_chanceAt.2.2.1 mX2_chanceAt.2.2.2 ∈ br_W0) ∧ (Cond.instanceMethod mX2_chanceAt.1 ∈ br_W0 ∧ Cond.selects mX2_chanceAt.1.cls mX2_chanceAt.1 mX2_chanceAt.1 ∈ br_W0) ∧ (mX2_chanceAt.1.cls ≠ "java/lang/invoke/MethodHandle" ∧ mX2_chanceAt.1.cls ≠ "java/lang/invoke/VarHandle" ∧ (parseMethodDescriptor mX2_chanceAt.1.desc).map (fun d => d.parameters.length) = some 1) ∧ mX2_chanceAt.2.2.1 ≤ 10 := ⟨⟨(br_W0_in (i := 41) (by decide +kernel) (by decide +kernel)), (br_W0_in (i := 247) (by decide +kernel) (by decide +kernel))⟩, ⟨(br_W0_in (i := 245) (by decide +kernel) (by decide +kernel)), (br_W0_in (i := 246) (by decide +kernel) (by decide +kernel))⟩, ⟨by decide +kernel, by decide +kernel, by decide +kernel⟩, by decide⟩
theorem vcX4_112 : br_vc RX4 112 mX2_chanceAt 1 := ⟨⟨(br_W0_in (i := 244) (by decide +kernel) (by decide +kernel)), mwX2_chanceAt.1.1, mwX2_chanceAt.1.2⟩, mwX2_chanceAt.2⟩
theorem mwX2_pieceAt : (Cond.initialized mX2_pieceAt.1.cls ∈ br_W0 ∧ Cond.code mX2_pieceAt.1 mX2_pieceAt.2.1 mX2_pieceAt.2.2.1 mX2_pieceAt.2.2.2 ∈ br_W0) ∧ (Cond.instanceMethod mX2_pieceAt.1 ∈ br_W0 ∧ Cond.selects mX2_pieceAt.1.cls mX2_pieceAt.1 mX2_pieceAt.1 ∈ br_W0) ∧ (mX2_pieceAt.1.cls ≠ "java/lang/invoke/MethodHandle" ∧ mX2_pieceAt.1.cls ≠ "java/lang/invoke/VarHandle" ∧ (parseMethodDescriptor mX2_pieceAt.1.desc).map (fun d => d.parameters.length) = some 1) ∧ mX2_pieceAt.2.2.1 ≤ 10 := ⟨⟨(br_W0_in (i := 41) (by decide +kernel) (by decide +kernel)), (br_W0_in (i := 251) (by decide +kernel) (by decide +kernel))⟩, ⟨(br_W0_in (i := 249) (by decide +kernel) (by decide +kernel)), (br_W0_in (i := 250) (by decide +kernel) (by decide +kernel))⟩, ⟨by decide +kernel, by decide +kernel, by decide +kernel⟩, by decide⟩
theorem vcX2_40 : br_vc RX2 40 mX2_pieceAt 1 := ⟨⟨(br_W0_in (i := 248) (by decide +kernel) (by decide +kernel)), mwX2_pieceAt.1.1, mwX2_pieceAt.1.2⟩, mwX2_pieceAt.2⟩
theorem mwX2_reaches : (Cond.initialized mX2_reaches.1.cls ∈ br_W0 ∧ Cond.code mX2_reaches.1 mX2_reaches.2.1 mX2_reaches.2.2.1 mX2_reaches.2.2.2 ∈ br_W0) ∧ (Cond.instanceMethod mX2_reaches.1 ∈ br_W0 ∧ Cond.selects mX2_reaches.1.cls mX2_reaches.1 mX2_reaches.1 ∈ br_W0) ∧ (mX2_reaches.1.cls ≠ "java/lang/invoke/MethodHandle" ∧ mX2_reaches.1.cls ≠ "java/lang/invoke/VarHandle" ∧ (parseMethodDescriptor mX2_reaches.1.desc).map (fun d => d.parameters.length) = some 1) ∧ mX2_reaches.2.2.1 ≤ 10 := ⟨⟨(br_W0_in (i := 41) (by decide +kernel) (by decide +kernel)), (br_W0_in (i := 255) (by decide +kernel) (by decide +kernel))⟩, ⟨(br_W0_in (i := 253) (by decide +kernel) (by decide +kernel)), (br_W0_in (i := 254) (by decide +kernel) (by decide +kernel))⟩, ⟨by decide +kernel, by decide +kernel, by decide +kernel⟩, by decide⟩
theorem vcX2_23 : br_vc RX2 23 mX2_reaches 1 := ⟨⟨(br_W0_in (i := 252) (by decide +kernel) (by decide +kernel)), mwX2_reaches.1.1, mwX2_reaches.1.2⟩, mwX2_reaches.2⟩
theorem vcX2_46 : br_vc RX2 46 mX0_kindOf 1 := ⟨⟨(br_W0_in (i := 256) (by decide +kernel) (by decide +kernel)), mwX0_kindOf.1.1, mwX0_kindOf.1.2⟩, mwX0_kindOf.2⟩
theorem vcX2_49 : br_vc RX2 49 mX0_sureOf 1 := ⟨⟨(br_W0_in (i := 257) (by decide +kernel) (by decide +kernel)), mwX0_sureOf.1.1, mwX0_sureOf.1.2⟩, mwX0_sureOf.2⟩
theorem mwJ9_max_7cf53 : (Cond.initialized mJ9_max_7cf53.1.cls ∈ br_W0 ∧ Cond.code mJ9_max_7cf53.1 mJ9_max_7cf53.2.1 mJ9_max_7cf53.2.2.1 mJ9_max_7cf53.2.2.2 ∈ br_W0) ∧ Cond.static mJ9_max_7cf53.1 ∈ br_W0 ∧ (mJ9_max_7cf53.1.cls ≠ "java/lang/invoke/MethodHandle" ∧ mJ9_max_7cf53.1.cls ≠ "java/lang/invoke/VarHandle" ∧ (parseMethodDescriptor mJ9_max_7cf53.1.desc).map (fun d => d.parameters.length) = some 2) ∧ mJ9_max_7cf53.2.2.1 ≤ 10 := ⟨⟨(br_W0_in (i := 44) (by decide +kernel) (by decide +kernel)), (br_W0_in (i := 263) (by decide +kernel) (by decide +kernel))⟩, (br_W0_in (i := 262) (by decide +kernel) (by decide +kernel)), ⟨by decide +kernel, by decide +kernel, by decide +kernel⟩, by decide⟩
theorem scX4_234 : br_sc RX4 234 mJ9_max_7cf53 2 := ⟨⟨(br_W0_in (i := 261) (by decide +kernel) (by decide +kernel)), mwJ9_max_7cf53.1.1, mwJ9_max_7cf53.1.2⟩, mwJ9_max_7cf53.2⟩
theorem mwX3_possibleSures : (Cond.initialized mX3_possibleSures.1.cls ∈ br_W0 ∧ Cond.code mX3_possibleSures.1 mX3_possibleSures.2.1 mX3_possibleSures.2.2.1 mX3_possibleSures.2.2.2 ∈ br_W0) ∧ (Cond.instanceMethod mX3_possibleSures.1 ∈ br_W0 ∧ Cond.selects mX3_possibleSures.1.cls mX3_possibleSures.1 mX3_possibleSures.1 ∈ br_W0) ∧ (mX3_possibleSures.1.cls ≠ "java/lang/invoke/MethodHandle" ∧ mX3_possibleSures.1.cls ≠ "java/lang/invoke/VarHandle" ∧ (parseMethodDescriptor mX3_possibleSures.1.desc).map (fun d => d.parameters.length) = some 1) ∧ mX3_possibleSures.2.2.1 ≤ 10 := ⟨⟨(br_W0_in (i := 42) (by decide +kernel) (by decide +kernel)), (br_W0_in (i := 267) (by decide +kernel) (by decide +kernel))⟩, ⟨(br_W0_in (i := 265) (by decide +kernel) (by decide +kernel)), (br_W0_in (i := 266) (by decide +kernel) (by decide +kernel))⟩, ⟨by decide +kernel, by decide +kernel, by decide +kernel⟩, by decide⟩
theorem vcX4_115 : br_vc RX4 115 mX3_possibleSures 1 := ⟨⟨(br_W0_in (i := 264) (by decide +kernel) (by decide +kernel)), mwX3_possibleSures.1.1, mwX3_possibleSures.1.2⟩, mwX3_possibleSures.2⟩
theorem mwX3_likelihood : (Cond.initialized mX3_likelihood.1.cls ∈ br_W0 ∧ Cond.code mX3_likelihood.1 mX3_likelihood.2.1 mX3_likelihood.2.2.1 mX3_likelihood.2.2.2 ∈ br_W0) ∧ (Cond.instanceMethod mX3_likelihood.1 ∈ br_W0 ∧ Cond.selects mX3_likelihood.1.cls mX3_likelihood.1 mX3_likelihood.1 ∈ br_W0) ∧ (mX3_likelihood.1.cls ≠ "java/lang/invoke/MethodHandle" ∧ mX3_likelihood.1.cls ≠ "java/lang/invoke/VarHandle" ∧ (parseMethodDescriptor mX3_likelihood.1.desc).map (fun d => d.parameters.length) = some 2) ∧ mX3_likelihood.2.2.1 ≤ 10 := ⟨⟨(br_W0_in (i := 42) (by decide +kernel) (by decide +kernel)), (br_W0_in (i := 271) (by decide +kernel) (by decide +kernel))⟩, ⟨(br_W0_in (i := 270) (by decide +kernel) (by decide +kernel)), (br_W0_in (i := 0) (by decide +kernel) (by decide +kernel))⟩, ⟨by decide +kernel, by decide +kernel, by decide +kernel⟩, by decide⟩
theorem vcX3_30 : br_vc RX3 30 mX3_likelihood 2 := ⟨⟨(br_W0_in (i := 268) (by decide +kernel) (by decide +kernel)), mwX3_likelihood.1.1, mwX3_likelihood.1.2⟩, mwX3_likelihood.2⟩
theorem vcX3_34 : br_vc RX3 34 mX0_kindOf 1 := ⟨⟨(br_W0_in (i := 272) (by decide +kernel) (by decide +kernel)), mwX0_kindOf.1.1, mwX0_kindOf.1.2⟩, mwX0_kindOf.2⟩
theorem mwX3_likeliestSure : (Cond.initialized mX3_likeliestSure.1.cls ∈ br_W0 ∧ Cond.code mX3_likeliestSure.1 mX3_likeliestSure.2.1 mX3_likeliestSure.2.2.1 mX3_likeliestSure.2.2.2 ∈ br_W0) ∧ (Cond.instanceMethod mX3_likeliestSure.1 ∈ br_W0 ∧ Cond.selects mX3_likeliestSure.1.cls mX3_likeliestSure.1 mX3_likeliestSure.1 ∈ br_W0) ∧ (mX3_likeliestSure.1.cls ≠ "java/lang/invoke/MethodHandle" ∧ mX3_likeliestSure.1.cls ≠ "java/lang/invoke/VarHandle" ∧ (parseMethodDescriptor mX3_likeliestSure.1.desc).map (fun d => d.parameters.length) = some 1) ∧ mX3_likeliestSure.2.2.1 ≤ 10 := ⟨⟨(br_W0_in (i := 42) (by decide +kernel) (by decide +kernel)), (br_W0_in (i := 277) (by decide +kernel) (by decide +kernel))⟩, ⟨(br_W0_in (i := 275) (by decide +kernel) (by decide +kernel)), (br_W0_in (i := 276) (by decide +kernel) (by decide +kernel))⟩, ⟨by decide +kernel, by decide +kernel, by decide +kernel⟩, by decide⟩
theorem vcX4_118 : br_vc RX4 118 mX3_likeliestSure 1 := ⟨⟨(br_W0_in (i := 274) (by decide +kernel) (by decide +kernel)), mwX3_likeliestSure.1.1, mwX3_likeliestSure.1.2⟩, mwX3_likeliestSure.2⟩
theorem mwX4_as : (Cond.initialized mX4_as.1.cls ∈ br_W0 ∧ Cond.code mX4_as.1 mX4_as.2.1 mX4_as.2.2.1 mX4_as.2.2.2 ∈ br_W0) ∧ (Cond.instanceMethod mX4_as.1 ∈ br_W0 ∧ Cond.selects mX4_as.1.cls mX4_as.1 mX4_as.1 ∈ br_W0) ∧ (mX4_as.1.cls ≠ "java/lang/invoke/MethodHandle" ∧ mX4_as.1.cls ≠ "java/lang/invoke/VarHandle" ∧ (parseMethodDescriptor mX4_as.1.desc).map (fun d => d.parameters.length) = some 2) ∧ mX4_as.2.2.1 ≤ 10 := ⟨⟨(br_W0_in (i := 38) (by decide +kernel) (by decide +kernel)), (br_W0_in (i := 281) (by decide +kernel) (by decide +kernel))⟩, ⟨(br_W0_in (i := 279) (by decide +kernel) (by decide +kernel)), (br_W0_in (i := 280) (by decide +kernel) (by decide +kernel))⟩, ⟨by decide +kernel, by decide +kernel, by decide +kernel⟩, by decide⟩
theorem vcL_36 : br_vc RL 36 mX4_as 2 := ⟨⟨(br_W0_in (i := 278) (by decide +kernel) (by decide +kernel)), mwX4_as.1.1, mwX4_as.1.2⟩, mwX4_as.2⟩
theorem mwX0_isA : (Cond.initialized mX0_isA.1.cls ∈ br_W0 ∧ Cond.code mX0_isA.1 mX0_isA.2.1 mX0_isA.2.2.1 mX0_isA.2.2.2 ∈ br_W0) ∧ (Cond.instanceMethod mX0_isA.1 ∈ br_W0 ∧ Cond.selects mX0_isA.1.cls mX0_isA.1 mX0_isA.1 ∈ br_W0) ∧ (mX0_isA.1.cls ≠ "java/lang/invoke/MethodHandle" ∧ mX0_isA.1.cls ≠ "java/lang/invoke/VarHandle" ∧ (parseMethodDescriptor mX0_isA.1.desc).map (fun d => d.parameters.length) = some 2) ∧ mX0_isA.2.2.1 ≤ 10 := ⟨⟨(br_W0_in (i := 40) (by decide +kernel) (by decide +kernel)), (br_W0_in (i := 285) (by decide +kernel) (by decide +kernel))⟩, ⟨(br_W0_in (i := 283) (by decide +kernel) (by decide +kernel)), (br_W0_in (i := 284) (by decide +kernel) (by decide +kernel))⟩, ⟨by decide +kernel, by decide +kernel, by decide +kernel⟩, by decide⟩
theorem vcX4_121 : br_vc RX4 121 mX0_isA 2 := ⟨⟨(br_W0_in (i := 282) (by decide +kernel) (by decide +kernel)), mwX0_isA.1.1, mwX0_isA.1.2⟩, mwX0_isA.2⟩
theorem mwX4_put : (Cond.initialized mX4_put.1.cls ∈ br_W0 ∧ Cond.code mX4_put.1 mX4_put.2.1 mX4_put.2.2.1 mX4_put.2.2.2 ∈ br_W0) ∧ (Cond.instanceMethod mX4_put.1 ∈ br_W0 ∧ Cond.selects mX4_put.1.cls mX4_put.1 mX4_put.1 ∈ br_W0) ∧ (mX4_put.1.cls ≠ "java/lang/invoke/MethodHandle" ∧ mX4_put.1.cls ≠ "java/lang/invoke/VarHandle" ∧ (parseMethodDescriptor mX4_put.1.desc).map (fun d => d.parameters.length) = some 1) ∧ mX4_put.2.2.1 ≤ 10 := ⟨⟨(br_W0_in (i := 38) (by decide +kernel) (by decide +kernel)), (br_W0_in (i := 289) (by decide +kernel) (by decide +kernel))⟩, ⟨(br_W0_in (i := 287) (by decide +kernel) (by decide +kernel)), (br_W0_in (i := 288) (by decide +kernel) (by decide +kernel))⟩, ⟨by decide +kernel, by decide +kernel, by decide +kernel⟩, by decide⟩
theorem vcL_40 : br_vc RL 40 mX4_put 1 := ⟨⟨(br_W0_in (i := 286) (by decide +kernel) (by decide +kernel)), mwX4_put.1.1, mwX4_put.1.2⟩, mwX4_put.2⟩
theorem mwX2_append : (Cond.initialized mX2_append.1.cls ∈ br_W0 ∧ Cond.code mX2_append.1 mX2_append.2.1 mX2_append.2.2.1 mX2_append.2.2.2 ∈ br_W0) ∧ (Cond.instanceMethod mX2_append.1 ∈ br_W0 ∧ Cond.selects mX2_append.1.cls mX2_append.1 mX2_append.1 ∈ br_W0) ∧ (mX2_append.1.cls ≠ "java/lang/invoke/MethodHandle" ∧ mX2_append.1.cls ≠ "java/lang/invoke/VarHandle" ∧ (parseMethodDescriptor mX2_append.1.desc).map (fun d => d.parameters.length) = some 1) ∧ mX2_append.2.2.1 ≤ 10 := ⟨⟨(br_W0_in (i := 41) (by decide +kernel) (by decide +kernel)), (br_W0_in (i := 293) (by decide +kernel) (by decide +kernel))⟩, ⟨(br_W0_in (i := 291) (by decide +kernel) (by decide +kernel)), (br_W0_in (i := 292) (by decide +kernel) (by decide +kernel))⟩, ⟨by decide +kernel, by decide +kernel, by decide +kernel⟩, by decide⟩
theorem vcX4_125 : br_vc RX4 125 mX2_append 1 := ⟨⟨(br_W0_in (i := 290) (by decide +kernel) (by decide +kernel)), mwX2_append.1.1, mwX2_append.1.2⟩, mwX2_append.2⟩
theorem mwX4_take : (Cond.initialized mX4_take.1.cls ∈ br_W0 ∧ Cond.code mX4_take.1 mX4_take.2.1 mX4_take.2.2.1 mX4_take.2.2.2 ∈ br_W0) ∧ (Cond.instanceMethod mX4_take.1 ∈ br_W0 ∧ Cond.selects mX4_take.1.cls mX4_take.1 mX4_take.1 ∈ br_W0) ∧ (mX4_take.1.cls ≠ "java/lang/invoke/MethodHandle" ∧ mX4_take.1.cls ≠ "java/lang/invoke/VarHandle" ∧ (parseMethodDescriptor mX4_take.1.desc).map (fun d => d.parameters.length) = some 1) ∧ mX4_take.2.2.1 ≤ 10 := ⟨⟨(br_W0_in (i := 38) (by decide +kernel) (by decide +kernel)), (br_W0_in (i := 297) (by decide +kernel) (by decide +kernel))⟩, ⟨(br_W0_in (i := 295) (by decide +kernel) (by decide +kernel)), (br_W0_in (i := 296) (by decide +kernel) (by decide +kernel))⟩, ⟨by decide +kernel, by decide +kernel, by decide +kernel⟩, by decide⟩
theorem vcL_44 : br_vc RL 44 mX4_take 1 := ⟨⟨(br_W0_in (i := 294) (by decide +kernel) (by decide +kernel)), mwX4_take.1.1, mwX4_take.1.2⟩, mwX4_take.2⟩
theorem vcX4_128 : br_vc RX4 128 mX2_reaches 1 := ⟨⟨(br_W0_in (i := 298) (by decide +kernel) (by decide +kernel)), mwX2_reaches.1.1, mwX2_reaches.1.2⟩, mwX2_reaches.2⟩
theorem mwX2_removeAt : (Cond.initialized mX2_removeAt.1.cls ∈ br_W0 ∧ Cond.code mX2_removeAt.1 mX2_removeAt.2.1 mX2_removeAt.2.2.1 mX2_removeAt.2.2.2 ∈ br_W0) ∧ (Cond.instanceMethod mX2_removeAt.1 ∈ br_W0 ∧ Cond.selects mX2_removeAt.1.cls mX2_removeAt.1 mX2_removeAt.1 ∈ br_W0) ∧ (mX2_removeAt.1.cls ≠ "java/lang/invoke/MethodHandle" ∧ mX2_removeAt.1.cls ≠ "java/lang/invoke/VarHandle" ∧ (parseMethodDescriptor mX2_removeAt.1.desc).map (fun d => d.parameters.length) = some 1) ∧ mX2_removeAt.2.2.1 ≤ 10 := ⟨⟨(br_W0_in (i := 41) (by decide +kernel) (by decide +kernel)), (br_W0_in (i := 302) (by decide +kernel) (by decide +kernel))⟩, ⟨(br_W0_in (i := 300) (by decide +kernel) (by decide +kernel)), (br_W0_in (i := 301) (by decide +kernel) (by decide +kernel))⟩, ⟨by decide +kernel, by decide +kernel, by decide +kernel⟩, by decide⟩
theorem vcX4_131 : br_vc RX4 131 mX2_removeAt 1 := ⟨⟨(br_W0_in (i := 299) (by decide +kernel) (by decide +kernel)), mwX2_removeAt.1.1, mwX2_removeAt.1.2⟩, mwX2_removeAt.2⟩
theorem mwX4_swap : (Cond.initialized mX4_swap.1.cls ∈ br_W0 ∧ Cond.code mX4_swap.1 mX4_swap.2.1 mX4_swap.2.2.1 mX4_swap.2.2.2 ∈ br_W0) ∧ (Cond.instanceMethod mX4_swap.1 ∈ br_W0 ∧ Cond.selects mX4_swap.1.cls mX4_swap.1 mX4_swap.1 ∈ br_W0) ∧ (mX4_swap.1.cls ≠ "java/lang/invoke/MethodHandle" ∧ mX4_swap.1.cls ≠ "java/lang/invoke/VarHandle" ∧ (parseMethodDescriptor mX4_swap.1.desc).map (fun d => d.parameters.length) = some 2) ∧ mX4_swap.2.2.1 ≤ 10 := ⟨⟨(br_W0_in (i := 38) (by decide +kernel) (by decide +kernel)), (br_W0_in (i := 306) (by decide +kernel) (by decide +kernel))⟩, ⟨(br_W0_in (i := 304) (by decide +kernel) (by decide +kernel)), (br_W0_in (i := 305) (by decide +kernel) (by decide +kernel))⟩, ⟨by decide +kernel, by decide +kernel, by decide +kernel⟩, by decide⟩
theorem vcL_48 : br_vc RL 48 mX4_swap 2 := ⟨⟨(br_W0_in (i := 303) (by decide +kernel) (by decide +kernel)), mwX4_swap.1.1, mwX4_swap.1.2⟩, mwX4_swap.2⟩
theorem mwX2_exchange : (Cond.initialized mX2_exchange.1.cls ∈ br_W0 ∧ Cond.code mX2_exchange.1 mX2_exchange.2.1 mX2_exchange.2.2.1 mX2_exchange.2.2.2 ∈ br_W0) ∧ (Cond.instanceMethod mX2_exchange.1 ∈ br_W0 ∧ Cond.selects mX2_exchange.1.cls mX2_exchange.1 mX2_exchange.1 ∈ br_W0) ∧ (mX2_exchange.1.cls ≠ "java/lang/invoke/MethodHandle" ∧ mX2_exchange.1.cls ≠ "java/lang/invoke/VarHandle" ∧ (parseMethodDescriptor mX2_exchange.1.desc).map (fun d => d.parameters.length) = some 2) ∧ mX2_exchange.2.2.1 ≤ 10 := ⟨⟨(br_W0_in (i := 41) (by decide +kernel) (by decide +kernel)), (br_W0_in (i := 310) (by decide +kernel) (by decide +kernel))⟩, ⟨(br_W0_in (i := 308) (by decide +kernel) (by decide +kernel)), (br_W0_in (i := 309) (by decide +kernel) (by decide +kernel))⟩, ⟨by decide +kernel, by decide +kernel, by decide +kernel⟩, by decide⟩
theorem vcX4_134 : br_vc RX4 134 mX2_exchange 2 := ⟨⟨(br_W0_in (i := 307) (by decide +kernel) (by decide +kernel)), mwX2_exchange.1.1, mwX2_exchange.1.2⟩, mwX2_exchange.2⟩
theorem mwX4_at : (Cond.initialized mX4_at.1.cls ∈ br_W0 ∧ Cond.code mX4_at.1 mX4_at.2.1 mX4_at.2.2.1 mX4_at.2.2.2 ∈ br_W0) ∧ (Cond.instanceMethod mX4_at.1 ∈ br_W0 ∧ Cond.selects mX4_at.1.cls mX4_at.1 mX4_at.1 ∈ br_W0) ∧ (mX4_at.1.cls ≠ "java/lang/invoke/MethodHandle" ∧ mX4_at.1.cls ≠ "java/lang/invoke/VarHandle" ∧ (parseMethodDescriptor mX4_at.1.desc).map (fun d => d.parameters.length) = some 1) ∧ mX4_at.2.2.1 ≤ 10 := ⟨⟨(br_W0_in (i := 38) (by decide +kernel) (by decide +kernel)), (br_W0_in (i := 314) (by decide +kernel) (by decide +kernel))⟩, ⟨(br_W0_in (i := 312) (by decide +kernel) (by decide +kernel)), (br_W0_in (i := 313) (by decide +kernel) (by decide +kernel))⟩, ⟨by decide +kernel, by decide +kernel, by decide +kernel⟩, by decide⟩
theorem vcL_52 : br_vc RL 52 mX4_at 1 := ⟨⟨(br_W0_in (i := 311) (by decide +kernel) (by decide +kernel)), mwX4_at.1.1, mwX4_at.1.2⟩, mwX4_at.2⟩
theorem vcX4_138 : br_vc RX4 138 mX2_pieceAt 1 := ⟨⟨(br_W0_in (i := 315) (by decide +kernel) (by decide +kernel)), mwX2_pieceAt.1.1, mwX2_pieceAt.1.2⟩, mwX2_pieceAt.2⟩
theorem mwX4_score : (Cond.initialized mX4_score.1.cls ∈ br_W0 ∧ Cond.code mX4_score.1 mX4_score.2.1 mX4_score.2.2.1 mX4_score.2.2.2 ∈ br_W0) ∧ (Cond.instanceMethod mX4_score.1 ∈ br_W0 ∧ Cond.selects mX4_score.1.cls mX4_score.1 mX4_score.1 ∈ br_W0) ∧ (mX4_score.1.cls ≠ "java/lang/invoke/MethodHandle" ∧ mX4_score.1.cls ≠ "java/lang/invoke/VarHandle" ∧ (parseMethodDescriptor mX4_score.1.desc).map (fun d => d.parameters.length) = some 1) ∧ mX4_score.2.2.1 ≤ 10 := ⟨⟨(br_W0_in (i := 38) (by decide +kernel) (by decide +kernel)), (br_W0_in (i := 319) (by decide +kernel) (by decide +kernel))⟩, ⟨(br_W0_in (i := 317) (by decide +kernel) (by decide +kernel)), (br_W0_in (i := 318) (by decide +kernel) (by decide +kernel))⟩, ⟨by decide +kernel, by decide +kernel, by decide +kernel⟩, by decide⟩
theorem vcL_56 : br_vc RL 56 mX4_score 1 := ⟨⟨(br_W0_in (i := 316) (by decide +kernel) (by decide +kernel)), mwX4_score.1.1, mwX4_score.1.2⟩, mwX4_score.2⟩
theorem mwX4_noGym : (Cond.initialized mX4_noGym.1.cls ∈ br_W0 ∧ Cond.code mX4_noGym.1 mX4_noGym.2.1 mX4_noGym.2.2.1 mX4_noGym.2.2.2 ∈ br_W0) ∧ (Cond.instanceMethod mX4_noGym.1 ∈ br_W0 ∧ Cond.selects mX4_noGym.1.cls mX4_noGym.1 mX4_noGym.1 ∈ br_W0) ∧ (mX4_noGym.1.cls ≠ "java/lang/invoke/MethodHandle" ∧ mX4_noGym.1.cls ≠ "java/lang/invoke/VarHandle" ∧ (parseMethodDescriptor mX4_noGym.1.desc).map (fun d => d.parameters.length) = some 0) ∧ mX4_noGym.2.2.1 ≤ 10 := ⟨⟨(br_W0_in (i := 38) (by decide +kernel) (by decide +kernel)), (br_W0_in (i := 323) (by decide +kernel) (by decide +kernel))⟩, ⟨(br_W0_in (i := 322) (by decide +kernel) (by decide +kernel)), (br_W0_in (i := 1) (by decide +kernel) (by decide +kernel))⟩, ⟨by decide +kernel, by decide +kernel, by decide +kernel⟩, by decide⟩
theorem vcX4_141 : br_vc RX4 141 mX4_noGym 0 := ⟨⟨(br_W0_in (i := 320) (by decide +kernel) (by decide +kernel)), mwX4_noGym.1.1, mwX4_noGym.1.2⟩, mwX4_noGym.2⟩
theorem mwX2_points : (Cond.initialized mX2_points.1.cls ∈ br_W0 ∧ Cond.code mX2_points.1 mX2_points.2.1 mX2_points.2.2.1 mX2_points.2.2.2 ∈ br_W0) ∧ (Cond.instanceMethod mX2_points.1 ∈ br_W0 ∧ Cond.selects mX2_points.1.cls mX2_points.1 mX2_points.1 ∈ br_W0) ∧ (mX2_points.1.cls ≠ "java/lang/invoke/MethodHandle" ∧ mX2_points.1.cls ≠ "java/lang/invoke/VarHandle" ∧ (parseMethodDescriptor mX2_points.1.desc).map (fun d => d.parameters.length) = some 1) ∧ mX2_points.2.2.1 ≤ 10 := ⟨⟨(br_W0_in (i := 41) (by decide +kernel) (by decide +kernel)), (br_W0_in (i := 327) (by decide +kernel) (by decide +kernel))⟩, ⟨(br_W0_in (i := 325) (by decide +kernel) (by decide +kernel)), (br_W0_in (i := 326) (by decide +kernel) (by decide +kernel))⟩, ⟨by decide +kernel, by decide +kernel, by decide +kernel⟩, by decide⟩
theorem vcX4_144 : br_vc RX4 144 mX2_points 1 := ⟨⟨(br_W0_in (i := 324) (by decide +kernel) (by decide +kernel)), mwX2_points.1.1, mwX2_points.1.2⟩, mwX2_points.2⟩
theorem mwX2_gained : (Cond.initialized mX2_gained.1.cls ∈ br_W0 ∧ Cond.code mX2_gained.1 mX2_gained.2.1 mX2_gained.2.2.1 mX2_gained.2.2.2 ∈ br_W0) ∧ (Cond.instanceMethod mX2_gained.1 ∈ br_W0 ∧ Cond.selects mX2_gained.1.cls mX2_gained.1 mX2_gained.1 ∈ br_W0) ∧ (mX2_gained.1.cls ≠ "java/lang/invoke/MethodHandle" ∧ mX2_gained.1.cls ≠ "java/lang/invoke/VarHandle" ∧ (parseMethodDescriptor mX2_gained.1.desc).map (fun d => d.parameters.length) = some 1) ∧ mX2_gained.2.2.1 ≤ 10 := ⟨⟨(br_W0_in (i := 41) (by decide +kernel) (by decide +kernel)), (br_W0_in (i := 331) (by decide +kernel) (by decide +kernel))⟩, ⟨(br_W0_in (i := 330) (by decide +kernel) (by decide +kernel)), (br_W0_in (i := 2) (by decide +kernel) (by decide +kernel))⟩, ⟨by decide +kernel, by decide +kernel, by decide +kernel⟩, by decide⟩
theorem vcX2_56 : br_vc RX2 56 mX2_gained 1 := ⟨⟨(br_W0_in (i := 328) (by decide +kernel) (by decide +kernel)), mwX2_gained.1.1, mwX2_gained.1.2⟩, mwX2_gained.2⟩
theorem vcX2_63 : br_vc RX2 63 mX0_worthOf 1 := ⟨⟨(br_W0_in (i := 332) (by decide +kernel) (by decide +kernel)), mwX0_worthOf.1.1, mwX0_worthOf.1.2⟩, mwX0_worthOf.2⟩
theorem mwX2_joinWorth : (Cond.initialized mX2_joinWorth.1.cls ∈ br_W0 ∧ Cond.code mX2_joinWorth.1 mX2_joinWorth.2.1 mX2_joinWorth.2.2.1 mX2_joinWorth.2.2.2 ∈ br_W0) ∧ (Cond.instanceMethod mX2_joinWorth.1 ∈ br_W0 ∧ Cond.selects mX2_joinWorth.1.cls mX2_joinWorth.1 mX2_joinWorth.1 ∈ br_W0) ∧ (mX2_joinWorth.1.cls ≠ "java/lang/invoke/MethodHandle" ∧ mX2_joinWorth.1.cls ≠ "java/lang/invoke/VarHandle" ∧ (parseMethodDescriptor mX2_joinWorth.1.desc).map (fun d => d.parameters.length) = some 1) ∧ mX2_joinWorth.2.2.1 ≤ 10 := ⟨⟨(br_W0_in (i := 41) (by decide +kernel) (by decide +kernel)), (br_W0_in (i := 336) (by decide +kernel) (by decide +kernel))⟩, ⟨(br_W0_in (i := 335) (by decide +kernel) (by decide +kernel)), (br_W0_in (i := 3) (by decide +kernel) (by decide +kernel))⟩, ⟨by decide +kernel, by decide +kernel, by decide +kernel⟩, by decide⟩
theorem vcX2_37 : br_vc RX2 37 mX2_joinWorth 1 := ⟨⟨(br_W0_in (i := 333) (by decide +kernel) (by decide +kernel)), mwX2_joinWorth.1.1, mwX2_joinWorth.1.2⟩, mwX2_joinWorth.2⟩
theorem vcX2_31 : br_vc RX2 31 mX0_isA 2 := ⟨⟨(br_W0_in (i := 337) (by decide +kernel) (by decide +kernel)), mwX0_isA.1.1, mwX0_isA.1.2⟩, mwX0_isA.2⟩
theorem mwX2_lackingPenalty : (Cond.initialized mX2_lackingPenalty.1.cls ∈ br_W0 ∧ Cond.code mX2_lackingPenalty.1 mX2_lackingPenalty.2.1 mX2_lackingPenalty.2.2.1 mX2_lackingPenalty.2.2.2 ∈ br_W0) ∧ (Cond.instanceMethod mX2_lackingPenalty.1 ∈ br_W0 ∧ Cond.selects mX2_lackingPenalty.1.cls mX2_lackingPenalty.1 mX2_lackingPenalty.1 ∈ br_W0) ∧ (mX2_lackingPenalty.1.cls ≠ "java/lang/invoke/MethodHandle" ∧ mX2_lackingPenalty.1.cls ≠ "java/lang/invoke/VarHandle" ∧ (parseMethodDescriptor mX2_lackingPenalty.1.desc).map (fun d => d.parameters.length) = some 0) ∧ mX2_lackingPenalty.2.2.1 ≤ 10 := ⟨⟨(br_W0_in (i := 41) (by decide +kernel) (by decide +kernel)), (br_W0_in (i := 341) (by decide +kernel) (by decide +kernel))⟩, ⟨(br_W0_in (i := 340) (by decide +kernel) (by decide +kernel)), (br_W0_in (i := 4) (by decide +kernel) (by decide +kernel))⟩, ⟨by decide +kernel, by decide +kernel, by decide +kernel⟩, by decide⟩
theorem vcX2_59 : br_vc RX2 59 mX2_lackingPenalty 0 := ⟨⟨(br_W0_in (i := 338) (by decide +kernel) (by decide +kernel)), mwX2_lackingPenalty.1.1, mwX2_lackingPenalty.1.2⟩, mwX2_lackingPenalty.2⟩
theorem mwX2_howMany : (Cond.initialized mX2_howMany.1.cls ∈ br_W0 ∧ Cond.code mX2_howMany.1 mX2_howMany.2.1 mX2_howMany.2.2.1 mX2_howMany.2.2.2 ∈ br_W0) ∧ (Cond.instanceMethod mX2_howMany.1 ∈ br_W0 ∧ Cond.selects mX2_howMany.1.cls mX2_howMany.1 mX2_howMany.1 ∈ br_W0) ∧ (mX2_howMany.1.cls ≠ "java/lang/invoke/MethodHandle" ∧ mX2_howMany.1.cls ≠ "java/lang/invoke/VarHandle" ∧ (parseMethodDescriptor mX2_howMany.1.desc).map (fun d => d.parameters.length) = some 1) ∧ mX2_howMany.2.2.1 ≤ 10 := ⟨⟨(br_W0_in (i := 41) (by decide +kernel) (by decide +kernel)), (br_W0_in (i := 345) (by decide +kernel) (by decide +kernel))⟩, ⟨(br_W0_in (i := 343) (by decide +kernel) (by decide +kernel)), (br_W0_in (i := 344) (by decide +kernel) (by decide +kernel))⟩, ⟨by decide +kernel, by decide +kernel, by decide +kernel⟩, by decide⟩
theorem vcX2_43 : br_vc RX2 43 mX2_howMany 1 := ⟨⟨(br_W0_in (i := 342) (by decide +kernel) (by decide +kernel)), mwX2_howMany.1.1, mwX2_howMany.1.2⟩, mwX2_howMany.2⟩
theorem mwX4_mean : (Cond.initialized mX4_mean.1.cls ∈ br_W0 ∧ Cond.code mX4_mean.1 mX4_mean.2.1 mX4_mean.2.2.1 mX4_mean.2.2.2 ∈ br_W0) ∧ (Cond.instanceMethod mX4_mean.1 ∈ br_W0 ∧ Cond.selects mX4_mean.1.cls mX4_mean.1 mX4_mean.1 ∈ br_W0) ∧ (mX4_mean.1.cls ≠ "java/lang/invoke/MethodHandle" ∧ mX4_mean.1.cls ≠ "java/lang/invoke/VarHandle" ∧ (parseMethodDescriptor mX4_mean.1.desc).map (fun d => d.parameters.length) = some 1) ∧ mX4_mean.2.2.1 ≤ 10 := ⟨⟨(br_W0_in (i := 38) (by decide +kernel) (by decide +kernel)), (br_W0_in (i := 349) (by decide +kernel) (by decide +kernel))⟩, ⟨(br_W0_in (i := 347) (by decide +kernel) (by decide +kernel)), (br_W0_in (i := 348) (by decide +kernel) (by decide +kernel))⟩, ⟨by decide +kernel, by decide +kernel, by decide +kernel⟩, by decide⟩
theorem vcL_60 : br_vc RL 60 mX4_mean 1 := ⟨⟨(br_W0_in (i := 346) (by decide +kernel) (by decide +kernel)), mwX4_mean.1.1, mwX4_mean.1.2⟩, mwX4_mean.2⟩
theorem mwX4_asksAboveOrBelow : (Cond.initialized mX4_asksAboveOrBelow.1.cls ∈ br_W0 ∧ Cond.code mX4_asksAboveOrBelow.1 mX4_asksAboveOrBelow.2.1 mX4_asksAboveOrBelow.2.2.1 mX4_asksAboveOrBelow.2.2.2 ∈ br_W0) ∧ Cond.static mX4_asksAboveOrBelow.1 ∈ br_W0 ∧ (mX4_asksAboveOrBelow.1.cls ≠ "java/lang/invoke/MethodHandle" ∧ mX4_asksAboveOrBelow.1.cls ≠ "java/lang/invoke/VarHandle" ∧ (parseMethodDescriptor mX4_asksAboveOrBelow.1.desc).map (fun d => d.parameters.length) = some 1) ∧ mX4_asksAboveOrBelow.2.2.1 ≤ 10 := ⟨⟨(br_W0_in (i := 38) (by decide +kernel) (by decide +kernel)), (br_W0_in (i := 352) (by decide +kernel) (by decide +kernel))⟩, (br_W0_in (i := 351) (by decide +kernel) (by decide +kernel)), ⟨by decide +kernel, by decide +kernel, by decide +kernel⟩, by decide⟩
theorem scX4_147 : br_sc RX4 147 mX4_asksAboveOrBelow 1 := ⟨⟨(br_W0_in (i := 350) (by decide +kernel) (by decide +kernel)), mwX4_asksAboveOrBelow.1.1, mwX4_asksAboveOrBelow.1.2⟩, mwX4_asksAboveOrBelow.2⟩
theorem mwX2_meanInHundredths : (Cond.initialized mX2_meanInHundredths.1.cls ∈ br_W0 ∧ Cond.code mX2_meanInHundredths.1 mX2_meanInHundredths.2.1 mX2_meanInHundredths.2.2.1 mX2_meanInHundredths.2.2.2 ∈ br_W0) ∧ (Cond.instanceMethod mX2_meanInHundredths.1 ∈ br_W0 ∧ Cond.selects mX2_meanInHundredths.1.cls mX2_meanInHundredths.1 mX2_meanInHundredths.1 ∈ br_W0) ∧ (mX2_meanInHundredths.1.cls ≠ "java/lang/invoke/MethodHandle" ∧ mX2_meanInHundredths.1.cls ≠ "java/lang/invoke/VarHandle" ∧ (parseMethodDescriptor mX2_meanInHundredths.1.desc).map (fun d => d.parameters.length) = some 0) ∧ mX2_meanInHundredths.2.2.1 ≤ 10 := ⟨⟨(br_W0_in (i := 41) (by decide +kernel) (by decide +kernel)), (br_W0_in (i := 356) (by decide +kernel) (by decide +kernel))⟩, ⟨(br_W0_in (i := 354) (by decide +kernel) (by decide +kernel)), (br_W0_in (i := 355) (by decide +kernel) (by decide +kernel))⟩, ⟨by decide +kernel, by decide +kernel, by decide +kernel⟩, by decide⟩
theorem vcX4_150 : br_vc RX4 150 mX2_meanInHundredths 0 := ⟨⟨(br_W0_in (i := 353) (by decide +kernel) (by decide +kernel)), mwX2_meanInHundredths.1.1, mwX2_meanInHundredths.1.2⟩, mwX2_meanInHundredths.2⟩
theorem vcX2_66 : br_vc RX2 66 mX2_chanceAt 1 := ⟨⟨(br_W0_in (i := 357) (by decide +kernel) (by decide +kernel)), mwX2_chanceAt.1.1, mwX2_chanceAt.1.2⟩, mwX2_chanceAt.2⟩
theorem mwX4_inLowestTerms : (Cond.initialized mX4_inLowestTerms.1.cls ∈ br_W0 ∧ Cond.code mX4_inLowestTerms.1 mX4_inLowestTerms.2.1 mX4_inLowestTerms.2.2.1 mX4_inLowestTerms.2.2.2 ∈ br_W0) ∧ Cond.static mX4_inLowestTerms.1 ∈ br_W0 ∧ (mX4_inLowestTerms.1.cls ≠ "java/lang/invoke/MethodHandle" ∧ mX4_inLowestTerms.1.cls ≠ "java/lang/invoke/VarHandle" ∧ (parseMethodDescriptor mX4_inLowestTerms.1.desc).map (fun d => d.parameters.length) = some 3) ∧ mX4_inLowestTerms.2.2.1 ≤ 10 := ⟨⟨(br_W0_in (i := 38) (by decide +kernel) (by decide +kernel)), (br_W0_in (i := 360) (by decide +kernel) (by decide +kernel))⟩, (br_W0_in (i := 359) (by decide +kernel) (by decide +kernel)), ⟨by decide +kernel, by decide +kernel, by decide +kernel⟩, by decide⟩
theorem scX4_153 : br_sc RX4 153 mX4_inLowestTerms 3 := ⟨⟨(br_W0_in (i := 358) (by decide +kernel) (by decide +kernel)), mwX4_inLowestTerms.1.1, mwX4_inLowestTerms.1.2⟩, mwX4_inLowestTerms.2⟩
theorem mwX4_commonDivisor : (Cond.initialized mX4_commonDivisor.1.cls ∈ br_W0 ∧ Cond.code mX4_commonDivisor.1 mX4_commonDivisor.2.1 mX4_commonDivisor.2.2.1 mX4_commonDivisor.2.2.2 ∈ br_W0) ∧ Cond.static mX4_commonDivisor.1 ∈ br_W0 ∧ (mX4_commonDivisor.1.cls ≠ "java/lang/invoke/MethodHandle" ∧ mX4_commonDivisor.1.cls ≠ "java/lang/invoke/VarHandle" ∧ (parseMethodDescriptor mX4_commonDivisor.1.desc).map (fun d => d.parameters.length) = some 2) ∧ mX4_commonDivisor.2.2.1 ≤ 10 := ⟨⟨(br_W0_in (i := 38) (by decide +kernel) (by decide +kernel)), (br_W0_in (i := 363) (by decide +kernel) (by decide +kernel))⟩, (br_W0_in (i := 362) (by decide +kernel) (by decide +kernel)), ⟨by decide +kernel, by decide +kernel, by decide +kernel⟩, by decide⟩
theorem scX4_225 : br_sc RX4 225 mX4_commonDivisor 2 := ⟨⟨(br_W0_in (i := 361) (by decide +kernel) (by decide +kernel)), mwX4_commonDivisor.1.1, mwX4_commonDivisor.1.2⟩, mwX4_commonDivisor.2⟩
theorem mwX4_odds : (Cond.initialized mX4_odds.1.cls ∈ br_W0 ∧ Cond.code mX4_odds.1 mX4_odds.2.1 mX4_odds.2.2.1 mX4_odds.2.2.2 ∈ br_W0) ∧ (Cond.instanceMethod mX4_odds.1 ∈ br_W0 ∧ Cond.selects mX4_odds.1.cls mX4_odds.1 mX4_odds.1 ∈ br_W0) ∧ (mX4_odds.1.cls ≠ "java/lang/invoke/MethodHandle" ∧ mX4_odds.1.cls ≠ "java/lang/invoke/VarHandle" ∧ (parseMethodDescriptor mX4_odds.1.desc).map (fun d => d.parameters.length) = some 2) ∧ mX4_odds.2.2.1 ≤ 10 := ⟨⟨(br_W0_in (i := 38) (by decide +kernel) (by decide +kernel)), (br_W0_in (i := 367) (by decide +kernel) (by decide +kernel))⟩, ⟨(br_W0_in (i := 365) (by decide +kernel) (by decide +kernel)), (br_W0_in (i := 366) (by decide +kernel) (by decide +kernel))⟩, ⟨by decide +kernel, by decide +kernel, by decide +kernel⟩, by decide⟩
theorem vcL_64 : br_vc RL 64 mX4_odds 2 := ⟨⟨(br_W0_in (i := 364) (by decide +kernel) (by decide +kernel)), mwX4_odds.1.1, mwX4_odds.1.2⟩, mwX4_odds.2⟩
theorem mwX4_isScore : (Cond.initialized mX4_isScore.1.cls ∈ br_W0 ∧ Cond.code mX4_isScore.1 mX4_isScore.2.1 mX4_isScore.2.2.1 mX4_isScore.2.2.2 ∈ br_W0) ∧ Cond.static mX4_isScore.1 ∈ br_W0 ∧ (mX4_isScore.1.cls ≠ "java/lang/invoke/MethodHandle" ∧ mX4_isScore.1.cls ≠ "java/lang/invoke/VarHandle" ∧ (parseMethodDescriptor mX4_isScore.1.desc).map (fun d => d.parameters.length) = some 1) ∧ mX4_isScore.2.2.1 ≤ 10 := ⟨⟨(br_W0_in (i := 38) (by decide +kernel) (by decide +kernel)), (br_W0_in (i := 370) (by decide +kernel) (by decide +kernel))⟩, (br_W0_in (i := 369) (by decide +kernel) (by decide +kernel)), ⟨by decide +kernel, by decide +kernel, by decide +kernel⟩, by decide⟩
theorem scX4_157 : br_sc RX4 157 mX4_isScore 1 := ⟨⟨(br_W0_in (i := 368) (by decide +kernel) (by decide +kernel)), mwX4_isScore.1.1, mwX4_isScore.1.2⟩, mwX4_isScore.2⟩
theorem mwX2_partsWith : (Cond.initialized mX2_partsWith.1.cls ∈ br_W0 ∧ Cond.code mX2_partsWith.1 mX2_partsWith.2.1 mX2_partsWith.2.2.1 mX2_partsWith.2.2.2 ∈ br_W0) ∧ (Cond.instanceMethod mX2_partsWith.1 ∈ br_W0 ∧ Cond.selects mX2_partsWith.1.cls mX2_partsWith.1 mX2_partsWith.1 ∈ br_W0) ∧ (mX2_partsWith.1.cls ≠ "java/lang/invoke/MethodHandle" ∧ mX2_partsWith.1.cls ≠ "java/lang/invoke/VarHandle" ∧ (parseMethodDescriptor mX2_partsWith.1.desc).map (fun d => d.parameters.length) = some 1) ∧ mX2_partsWith.2.2.1 ≤ 10 := ⟨⟨(br_W0_in (i := 41) (by decide +kernel) (by decide +kernel)), (br_W0_in (i := 374) (by decide +kernel) (by decide +kernel))⟩, ⟨(br_W0_in (i := 372) (by decide +kernel) (by decide +kernel)), (br_W0_in (i := 373) (by decide +kernel) (by decide +kernel))⟩, ⟨by decide +kernel, by decide +kernel, by decide +kernel⟩, by decide⟩
theorem vcX4_160 : br_vc RX4 160 mX2_partsWith 1 := ⟨⟨(br_W0_in (i := 371) (by decide +kernel) (by decide +kernel)), mwX2_partsWith.1.1, mwX2_partsWith.1.2⟩, mwX2_partsWith.2⟩
theorem mwX2_partsOf : (Cond.initialized mX2_partsOf.1.cls ∈ br_W0 ∧ Cond.code mX2_partsOf.1 mX2_partsOf.2.1 mX2_partsOf.2.2.1 mX2_partsOf.2.2.2 ∈ br_W0) ∧ (Cond.instanceMethod mX2_partsOf.1 ∈ br_W0 ∧ Cond.selects mX2_partsOf.1.cls mX2_partsOf.1 mX2_partsOf.1 ∈ br_W0) ∧ (mX2_partsOf.1.cls ≠ "java/lang/invoke/MethodHandle" ∧ mX2_partsOf.1.cls ≠ "java/lang/invoke/VarHandle" ∧ (parseMethodDescriptor mX2_partsOf.1.desc).map (fun d => d.parameters.length) = some 1) ∧ mX2_partsOf.2.2.1 ≤ 10 := ⟨⟨(br_W0_in (i := 41) (by decide +kernel) (by decide +kernel)), (br_W0_in (i := 378) (by decide +kernel) (by decide +kernel))⟩, ⟨(br_W0_in (i := 377) (by decide +kernel) (by decide +kernel)), (br_W0_in (i := 5) (by decide +kernel) (by decide +kernel))⟩, ⟨by decide +kernel, by decide +kernel, by decide +kernel⟩, by decide⟩
theorem vcX2_69 : br_vc RX2 69 mX2_partsOf 1 := ⟨⟨(br_W0_in (i := 375) (by decide +kernel) (by decide +kernel)), mwX2_partsOf.1.1, mwX2_partsOf.1.2⟩, mwX2_partsOf.2⟩
theorem mwX2_allParts : (Cond.initialized mX2_allParts.1.cls ∈ br_W0 ∧ Cond.code mX2_allParts.1 mX2_allParts.2.1 mX2_allParts.2.2.1 mX2_allParts.2.2.2 ∈ br_W0) ∧ (Cond.instanceMethod mX2_allParts.1 ∈ br_W0 ∧ Cond.selects mX2_allParts.1.cls mX2_allParts.1 mX2_allParts.1 ∈ br_W0) ∧ (mX2_allParts.1.cls ≠ "java/lang/invoke/MethodHandle" ∧ mX2_allParts.1.cls ≠ "java/lang/invoke/VarHandle" ∧ (parseMethodDescriptor mX2_allParts.1.desc).map (fun d => d.parameters.length) = some 0) ∧ mX2_allParts.2.2.1 ≤ 10 := ⟨⟨(br_W0_in (i := 41) (by decide +kernel) (by decide +kernel)), (br_W0_in (i := 382) (by decide +kernel) (by decide +kernel))⟩, ⟨(br_W0_in (i := 380) (by decide +kernel) (by decide +kernel)), (br_W0_in (i := 381) (by decide +kernel) (by decide +kernel))⟩, ⟨by decide +kernel, by decide +kernel, by decide +kernel⟩, by decide⟩
theorem vcX4_163 : br_vc RX4 163 mX2_allParts 0 := ⟨⟨(br_W0_in (i := 379) (by decide +kernel) (by decide +kernel)), mwX2_allParts.1.1, mwX2_allParts.1.2⟩, mwX2_allParts.2⟩
theorem mwX4_best : (Cond.initialized mX4_best.1.cls ∈ br_W0 ∧ Cond.code mX4_best.1 mX4_best.2.1 mX4_best.2.2.1 mX4_best.2.2.2 ∈ br_W0) ∧ (Cond.instanceMethod mX4_best.1 ∈ br_W0 ∧ Cond.selects mX4_best.1.cls mX4_best.1 mX4_best.1 ∈ br_W0) ∧ (mX4_best.1.cls ≠ "java/lang/invoke/MethodHandle" ∧ mX4_best.1.cls ≠ "java/lang/invoke/VarHandle" ∧ (parseMethodDescriptor mX4_best.1.desc).map (fun d => d.parameters.length) = some 2) ∧ mX4_best.2.2.1 ≤ 10 := ⟨⟨(br_W0_in (i := 38) (by decide +kernel) (by decide +kernel)), (br_W0_in (i := 386) (by decide +kernel) (by decide +kernel))⟩, ⟨(br_W0_in (i := 384) (by decide +kernel) (by decide +kernel)), (br_W0_in (i := 385) (by decide +kernel) (by decide +kernel))⟩, ⟨by decide +kernel, by decide +kernel, by decide +kernel⟩, by decide⟩
theorem vcL_68 : br_vc RL 68 mX4_best 2 := ⟨⟨(br_W0_in (i := 383) (by decide +kernel) (by decide +kernel)), mwX4_best.1.1, mwX4_best.1.2⟩, mwX4_best.2⟩
theorem mwX4_findFinest : (Cond.initialized mX4_findFinest.1.cls ∈ br_W0 ∧ Cond.code mX4_findFinest.1 mX4_findFinest.2.1 mX4_findFinest.2.2.1 mX4_findFinest.2.2.2 ∈ br_W0) ∧ (Cond.instanceMethod mX4_findFinest.1 ∈ br_W0 ∧ Cond.selects mX4_findFinest.1.cls mX4_findFinest.1 mX4_findFinest.1 ∈ br_W0) ∧ (mX4_findFinest.1.cls ≠ "java/lang/invoke/MethodHandle" ∧ mX4_findFinest.1.cls ≠ "java/lang/invoke/VarHandle" ∧ (parseMethodDescriptor mX4_findFinest.1.desc).map (fun d => d.parameters.length) = some 1) ∧ mX4_findFinest.2.2.1 ≤ 10 := ⟨⟨(br_W0_in (i := 38) (by decide +kernel) (by decide +kernel)), (br_W0_in (i := 390) (by decide +kernel) (by decide +kernel))⟩, ⟨(br_W0_in (i := 389) (by decide +kernel) (by decide +kernel)), (br_W0_in (i := 6) (by decide +kernel) (by decide +kernel))⟩, ⟨by decide +kernel, by decide +kernel, by decide +kernel⟩, by decide⟩
theorem vcX4_166 : br_vc RX4 166 mX4_findFinest 1 := ⟨⟨(br_W0_in (i := 387) (by decide +kernel) (by decide +kernel)), mwX4_findFinest.1.1, mwX4_findFinest.1.2⟩, mwX4_findFinest.2⟩
theorem mwX4_picksOf : (Cond.initialized mX4_picksOf.1.cls ∈ br_W0 ∧ Cond.code mX4_picksOf.1 mX4_picksOf.2.1 mX4_picksOf.2.2.1 mX4_picksOf.2.2.2 ∈ br_W0) ∧ (Cond.instanceMethod mX4_picksOf.1 ∈ br_W0 ∧ Cond.selects mX4_picksOf.1.cls mX4_picksOf.1 mX4_picksOf.1 ∈ br_W0) ∧ (mX4_picksOf.1.cls ≠ "java/lang/invoke/MethodHandle" ∧ mX4_picksOf.1.cls ≠ "java/lang/invoke/VarHandle" ∧ (parseMethodDescriptor mX4_picksOf.1.desc).map (fun d => d.parameters.length) = some 1) ∧ mX4_picksOf.2.2.1 ≤ 10 := ⟨⟨(br_W0_in (i := 38) (by decide +kernel) (by decide +kernel)), (br_W0_in (i := 394) (by decide +kernel) (by decide +kernel))⟩, ⟨(br_W0_in (i := 393) (by decide +kernel) (by decide +kernel)), (br_W0_in (i := 7) (by decide +kernel) (by decide +kernel))⟩, ⟨by decide +kernel, by decide +kernel, by decide +kernel⟩, by decide⟩
theorem vcX4_228 : br_vc RX4 228 mX4_picksOf 1 := ⟨⟨(br_W0_in (i := 391) (by decide +kernel) (by decide +kernel)), mwX4_picksOf.1.1, mwX4_picksOf.1.2⟩, mwX4_picksOf.2⟩
theorem mwX4_pickByNumber : (Cond.initialized mX4_pickByNumber.1.cls ∈ br_W0 ∧ Cond.code mX4_pickByNumber.1 mX4_pickByNumber.2.1 mX4_pickByNumber.2.2.1 mX4_pickByNumber.2.2.2 ∈ br_W0) ∧ (Cond.instanceMethod mX4_pickByNumber.1 ∈ br_W0 ∧ Cond.selects mX4_pickByNumber.1.cls mX4_pickByNumber.1 mX4_pickByNumber.1 ∈ br_W0) ∧ (mX4_pickByNumber.1.cls ≠ "java/lang/invoke/MethodHandle" ∧ mX4_pickByNumber.1.cls ≠ "java/lang/invoke/VarHandle" ∧ (parseMethodDescriptor mX4_pickByNumber.1.desc).map (fun d => d.parameters.length) = some 2) ∧ mX4_pickByNumber.2.2.1 ≤ 10 := ⟨⟨(br_W0_in (i := 38) (by decide +kernel) (by decide +kernel)), (br_W0_in (i := 398) (by decide +kernel) (by decide +kernel))⟩, ⟨(br_W0_in (i := 397) (by decide +kernel) (by decide +kernel)), (br_W0_in (i := 8) (by decide +kernel) (by decide +kernel))⟩, ⟨by decide +kernel, by decide +kernel, by decide +kernel⟩, by decide⟩
theorem vcX4_231 : br_vc RX4 231 mX4_pickByNumber 2 := ⟨⟨(br_W0_in (i := 395) (by decide +kernel) (by decide +kernel)), mwX4_pickByNumber.1.1, mwX4_pickByNumber.1.2⟩, mwX4_pickByNumber.2⟩
theorem mwX2_copyFrom : (Cond.initialized mX2_copyFrom.1.cls ∈ br_W0 ∧ Cond.code mX2_copyFrom.1 mX2_copyFrom.2.1 mX2_copyFrom.2.2.1 mX2_copyFrom.2.2.2 ∈ br_W0) ∧ (Cond.instanceMethod mX2_copyFrom.1 ∈ br_W0 ∧ Cond.selects mX2_copyFrom.1.cls mX2_copyFrom.1 mX2_copyFrom.1 ∈ br_W0) ∧ (mX2_copyFrom.1.cls ≠ "java/lang/invoke/MethodHandle" ∧ mX2_copyFrom.1.cls ≠ "java/lang/invoke/VarHandle" ∧ (parseMethodDescriptor mX2_copyFrom.1.desc).map (fun d => d.parameters.length) = some 1) ∧ mX2_copyFrom.2.2.1 ≤ 10 := ⟨⟨(br_W0_in (i := 41) (by decide +kernel) (by decide +kernel)), (br_W0_in (i := 402) (by decide +kernel) (by decide +kernel))⟩, ⟨(br_W0_in (i := 400) (by decide +kernel) (by decide +kernel)), (br_W0_in (i := 401) (by decide +kernel) (by decide +kernel))⟩, ⟨by decide +kernel, by decide +kernel, by decide +kernel⟩, by decide⟩
theorem vcX4_169 : br_vc RX4 169 mX2_copyFrom 1 := ⟨⟨(br_W0_in (i := 399) (by decide +kernel) (by decide +kernel)), mwX2_copyFrom.1.1, mwX2_copyFrom.1.2⟩, mwX2_copyFrom.2⟩
theorem mwX4_more : (Cond.initialized mX4_more.1.cls ∈ br_W0 ∧ Cond.code mX4_more.1 mX4_more.2.1 mX4_more.2.2.1 mX4_more.2.2.2 ∈ br_W0) ∧ (Cond.instanceMethod mX4_more.1 ∈ br_W0 ∧ Cond.selects mX4_more.1.cls mX4_more.1 mX4_more.1 ∈ br_W0) ∧ (mX4_more.1.cls ≠ "java/lang/invoke/MethodHandle" ∧ mX4_more.1.cls ≠ "java/lang/invoke/VarHandle" ∧ (parseMethodDescriptor mX4_more.1.desc).map (fun d => d.parameters.length) = some 1) ∧ mX4_more.2.2.1 ≤ 10 := ⟨⟨(br_W0_in (i := 38) (by decide +kernel) (by decide +kernel)), (br_W0_in (i := 406) (by decide +kernel) (by decide +kernel))⟩, ⟨(br_W0_in (i := 404) (by decide +kernel) (by decide +kernel)), (br_W0_in (i := 405) (by decide +kernel) (by decide +kernel))⟩, ⟨by decide +kernel, by decide +kernel, by decide +kernel⟩, by decide⟩
theorem vcL_72 : br_vc RL 72 mX4_more 1 := ⟨⟨(br_W0_in (i := 403) (by decide +kernel) (by decide +kernel)), mwX4_more.1.1, mwX4_more.1.2⟩, mwX4_more.2⟩
theorem mwX4_tryIt : (Cond.initialized mX4_tryIt.1.cls ∈ br_W0 ∧ Cond.code mX4_tryIt.1 mX4_tryIt.2.1 mX4_tryIt.2.2.1 mX4_tryIt.2.2.2 ∈ br_W0) ∧ (Cond.instanceMethod mX4_tryIt.1 ∈ br_W0 ∧ Cond.selects mX4_tryIt.1.cls mX4_tryIt.1 mX4_tryIt.1 ∈ br_W0) ∧ (mX4_tryIt.1.cls ≠ "java/lang/invoke/MethodHandle" ∧ mX4_tryIt.1.cls ≠ "java/lang/invoke/VarHandle" ∧ (parseMethodDescriptor mX4_tryIt.1.desc).map (fun d => d.parameters.length) = some 3) ∧ mX4_tryIt.2.2.1 ≤ 10 := ⟨⟨(br_W0_in (i := 38) (by decide +kernel) (by decide +kernel)), (br_W0_in (i := 410) (by decide +kernel) (by decide +kernel))⟩, ⟨(br_W0_in (i := 408) (by decide +kernel) (by decide +kernel)), (br_W0_in (i := 409) (by decide +kernel) (by decide +kernel))⟩, ⟨by decide +kernel, by decide +kernel, by decide +kernel⟩, by decide⟩
theorem vcL_76 : br_vc RL 76 mX4_tryIt 3 := ⟨⟨(br_W0_in (i := 407) (by decide +kernel) (by decide +kernel)), mwX4_tryIt.1.1, mwX4_tryIt.1.2⟩, mwX4_tryIt.2⟩
theorem mwX3_add : (Cond.initialized mX3_add.1.cls ∈ br_W0 ∧ Cond.code mX3_add.1 mX3_add.2.1 mX3_add.2.2.1 mX3_add.2.2.2 ∈ br_W0) ∧ (Cond.instanceMethod mX3_add.1 ∈ br_W0 ∧ Cond.selects mX3_add.1.cls mX3_add.1 mX3_add.1 ∈ br_W0) ∧ (mX3_add.1.cls ≠ "java/lang/invoke/MethodHandle" ∧ mX3_add.1.cls ≠ "java/lang/invoke/VarHandle" ∧ (parseMethodDescriptor mX3_add.1.desc).map (fun d => d.parameters.length) = some 3) ∧ mX3_add.2.2.1 ≤ 10 := ⟨⟨(br_W0_in (i := 42) (by decide +kernel) (by decide +kernel)), (br_W0_in (i := 414) (by decide +kernel) (by decide +kernel))⟩, ⟨(br_W0_in (i := 412) (by decide +kernel) (by decide +kernel)), (br_W0_in (i := 413) (by decide +kernel) (by decide +kernel))⟩, ⟨by decide +kernel, by decide +kernel, by decide +kernel⟩, by decide⟩
theorem vcX4_173 : br_vc RX4 173 mX3_add 3 := ⟨⟨(br_W0_in (i := 411) (by decide +kernel) (by decide +kernel)), mwX3_add.1.1, mwX3_add.1.2⟩, mwX3_add.2⟩
theorem mwX4_forget : (Cond.initialized mX4_forget.1.cls ∈ br_W0 ∧ Cond.code mX4_forget.1 mX4_forget.2.1 mX4_forget.2.2.1 mX4_forget.2.2.2 ∈ br_W0) ∧ (Cond.instanceMethod mX4_forget.1 ∈ br_W0 ∧ Cond.selects mX4_forget.1.cls mX4_forget.1 mX4_forget.1 ∈ br_W0) ∧ (mX4_forget.1.cls ≠ "java/lang/invoke/MethodHandle" ∧ mX4_forget.1.cls ≠ "java/lang/invoke/VarHandle" ∧ (parseMethodDescriptor mX4_forget.1.desc).map (fun d => d.parameters.length) = some 0) ∧ mX4_forget.2.2.1 ≤ 10 := ⟨⟨(br_W0_in (i := 38) (by decide +kernel) (by decide +kernel)), (br_W0_in (i := 418) (by decide +kernel) (by decide +kernel))⟩, ⟨(br_W0_in (i := 416) (by decide +kernel) (by decide +kernel)), (br_W0_in (i := 417) (by decide +kernel) (by decide +kernel))⟩, ⟨by decide +kernel, by decide +kernel, by decide +kernel⟩, by decide⟩
theorem vcL_81 : br_vc RL 81 mX4_forget 0 := ⟨⟨(br_W0_in (i := 415) (by decide +kernel) (by decide +kernel)), mwX4_forget.1.1, mwX4_forget.1.2⟩, mwX4_forget.2⟩
theorem mwX4_meets : (Cond.initialized mX4_meets.1.cls ∈ br_W0 ∧ Cond.code mX4_meets.1 mX4_meets.2.1 mX4_meets.2.2.1 mX4_meets.2.2.2 ∈ br_W0) ∧ (Cond.instanceMethod mX4_meets.1 ∈ br_W0 ∧ Cond.selects mX4_meets.1.cls mX4_meets.1 mX4_meets.1 ∈ br_W0) ∧ (mX4_meets.1.cls ≠ "java/lang/invoke/MethodHandle" ∧ mX4_meets.1.cls ≠ "java/lang/invoke/VarHandle" ∧ (parseMethodDescriptor mX4_meets.1.desc).map (fun d => d.parameters.length) = some 3) ∧ mX4_meets.2.2.1 ≤ 10 := ⟨⟨(br_W0_in (i := 38) (by decide +kernel) (by decide +kernel)), (br_W0_in (i := 422) (by decide +kernel) (by decide +kernel))⟩, ⟨(br_W0_in (i := 420) (by decide +kernel) (by decide +kernel)), (br_W0_in (i := 421) (by decide +kernel) (by decide +kernel))⟩, ⟨by decide +kernel, by decide +kernel, by decide +kernel⟩, by decide⟩
theorem vcL_85 : br_vc RL 85 mX4_meets 3 := ⟨⟨(br_W0_in (i := 419) (by decide +kernel) (by decide +kernel)), mwX4_meets.1.1, mwX4_meets.1.2⟩, mwX4_meets.2⟩
theorem mwX4_nextSeed : (Cond.initialized mX4_nextSeed.1.cls ∈ br_W0 ∧ Cond.code mX4_nextSeed.1 mX4_nextSeed.2.1 mX4_nextSeed.2.2.1 mX4_nextSeed.2.2.2 ∈ br_W0) ∧ Cond.static mX4_nextSeed.1 ∈ br_W0 ∧ (mX4_nextSeed.1.cls ≠ "java/lang/invoke/MethodHandle" ∧ mX4_nextSeed.1.cls ≠ "java/lang/invoke/VarHandle" ∧ (parseMethodDescriptor mX4_nextSeed.1.desc).map (fun d => d.parameters.length) = some 1) ∧ mX4_nextSeed.2.2.1 ≤ 10 := ⟨⟨(br_W0_in (i := 38) (by decide +kernel) (by decide +kernel)), (br_W0_in (i := 425) (by decide +kernel) (by decide +kernel))⟩, (br_W0_in (i := 424) (by decide +kernel) (by decide +kernel)), ⟨by decide +kernel, by decide +kernel, by decide +kernel⟩, by decide⟩
theorem scX4_176 : br_sc RX4 176 mX4_nextSeed 1 := ⟨⟨(br_W0_in (i := 423) (by decide +kernel) (by decide +kernel)), mwX4_nextSeed.1.1, mwX4_nextSeed.1.2⟩, mwX4_nextSeed.2⟩
theorem mwX4_drawOfTen : (Cond.initialized mX4_drawOfTen.1.cls ∈ br_W0 ∧ Cond.code mX4_drawOfTen.1 mX4_drawOfTen.2.1 mX4_drawOfTen.2.2.1 mX4_drawOfTen.2.2.2 ∈ br_W0) ∧ Cond.static mX4_drawOfTen.1 ∈ br_W0 ∧ (mX4_drawOfTen.1.cls ≠ "java/lang/invoke/MethodHandle" ∧ mX4_drawOfTen.1.cls ≠ "java/lang/invoke/VarHandle" ∧ (parseMethodDescriptor mX4_drawOfTen.1.desc).map (fun d => d.parameters.length) = some 1) ∧ mX4_drawOfTen.2.2.1 ≤ 10 := ⟨⟨(br_W0_in (i := 38) (by decide +kernel) (by decide +kernel)), (br_W0_in (i := 431) (by decide +kernel) (by decide +kernel))⟩, (br_W0_in (i := 430) (by decide +kernel) (by decide +kernel)), ⟨by decide +kernel, by decide +kernel, by decide +kernel⟩, by decide⟩
theorem scX4_179 : br_sc RX4 179 mX4_drawOfTen 1 := ⟨⟨(br_W0_in (i := 429) (by decide +kernel) (by decide +kernel)), mwX4_drawOfTen.1.1, mwX4_drawOfTen.1.2⟩, mwX4_drawOfTen.2⟩
theorem mwX4_image : (Cond.initialized mX4_image.1.cls ∈ br_W0 ∧ Cond.code mX4_image.1 mX4_image.2.1 mX4_image.2.2.1 mX4_image.2.2.2 ∈ br_W0) ∧ (Cond.instanceMethod mX4_image.1 ∈ br_W0 ∧ Cond.selects mX4_image.1.cls mX4_image.1 mX4_image.1 ∈ br_W0) ∧ (mX4_image.1.cls ≠ "java/lang/invoke/MethodHandle" ∧ mX4_image.1.cls ≠ "java/lang/invoke/VarHandle" ∧ (parseMethodDescriptor mX4_image.1.desc).map (fun d => d.parameters.length) = some 0) ∧ mX4_image.2.2.1 ≤ 10 := ⟨⟨(br_W0_in (i := 38) (by decide +kernel) (by decide +kernel)), (br_W0_in (i := 436) (by decide +kernel) (by decide +kernel))⟩, ⟨(br_W0_in (i := 434) (by decide +kernel) (by decide +kernel)), (br_W0_in (i := 435) (by decide +kernel) (by decide +kernel))⟩, ⟨by decide +kernel, by decide +kernel, by decide +kernel⟩, by decide⟩
theorem vcL_90 : br_vc RL 90 mX4_image 0 := ⟨⟨(br_W0_in (i := 433) (by decide +kernel) (by decide +kernel)), mwX4_image.1.1, mwX4_image.1.2⟩, mwX4_image.2⟩
theorem mwX3_copyFrom : (Cond.initialized mX3_copyFrom.1.cls ∈ br_W0 ∧ Cond.code mX3_copyFrom.1 mX3_copyFrom.2.1 mX3_copyFrom.2.2.1 mX3_copyFrom.2.2.2 ∈ br_W0) ∧ (Cond.instanceMethod mX3_copyFrom.1 ∈ br_W0 ∧ Cond.selects mX3_copyFrom.1.cls mX3_copyFrom.1 mX3_copyFrom.1 ∈ br_W0) ∧ (mX3_copyFrom.1.cls ≠ "java/lang/invoke/MethodHandle" ∧ mX3_copyFrom.1.cls ≠ "java/lang/invoke/VarHandle" ∧ (parseMethodDescriptor mX3_copyFrom.1.desc).map (fun d => d.parameters.length) = some 1) ∧ mX3_copyFrom.2.2.1 ≤ 10 := ⟨⟨(br_W0_in (i := 42) (by decide +kernel) (by decide +kernel)), (br_W0_in (i := 440) (by decide +kernel) (by decide +kernel))⟩, ⟨(br_W0_in (i := 438) (by decide +kernel) (by decide +kernel)), (br_W0_in (i := 439) (by decide +kernel) (by decide +kernel))⟩, ⟨by decide +kernel, by decide +kernel, by decide +kernel⟩, by decide⟩
theorem vcX4_182 : br_vc RX4 182 mX3_copyFrom 1 := ⟨⟨(br_W0_in (i := 437) (by decide +kernel) (by decide +kernel)), mwX3_copyFrom.1.1, mwX3_copyFrom.1.2⟩, mwX3_copyFrom.2⟩
theorem mwX4_restore : (Cond.initialized mX4_restore.1.cls ∈ br_W0 ∧ Cond.code mX4_restore.1 mX4_restore.2.1 mX4_restore.2.2.1 mX4_restore.2.2.2 ∈ br_W0) ∧ (Cond.instanceMethod mX4_restore.1 ∈ br_W0 ∧ Cond.selects mX4_restore.1.cls mX4_restore.1 mX4_restore.1 ∈ br_W0) ∧ (mX4_restore.1.cls ≠ "java/lang/invoke/MethodHandle" ∧ mX4_restore.1.cls ≠ "java/lang/invoke/VarHandle" ∧ (parseMethodDescriptor mX4_restore.1.desc).map (fun d => d.parameters.length) = some 0) ∧ mX4_restore.2.2.1 ≤ 10 := ⟨⟨(br_W0_in (i := 38) (by decide +kernel) (by decide +kernel)), (br_W0_in (i := 444) (by decide +kernel) (by decide +kernel))⟩, ⟨(br_W0_in (i := 442) (by decide +kernel) (by decide +kernel)), (br_W0_in (i := 443) (by decide +kernel) (by decide +kernel))⟩, ⟨by decide +kernel, by decide +kernel, by decide +kernel⟩, by decide⟩
theorem vcL_94 : br_vc RL 94 mX4_restore 0 := ⟨⟨(br_W0_in (i := 441) (by decide +kernel) (by decide +kernel)), mwX4_restore.1.1, mwX4_restore.1.2⟩, mwX4_restore.2⟩
theorem mwX4_count : (Cond.initialized mX4_count.1.cls ∈ br_W0 ∧ Cond.code mX4_count.1 mX4_count.2.1 mX4_count.2.2.1 mX4_count.2.2.2 ∈ br_W0) ∧ (Cond.instanceMethod mX4_count.1 ∈ br_W0 ∧ Cond.selects mX4_count.1.cls mX4_count.1 mX4_count.1 ∈ br_W0) ∧ (mX4_count.1.cls ≠ "java/lang/invoke/MethodHandle" ∧ mX4_count.1.cls ≠ "java/lang/invoke/VarHandle" ∧ (parseMethodDescriptor mX4_count.1.desc).map (fun d => d.parameters.length) = some 1) ∧ mX4_count.2.2.1 ≤ 10 := ⟨⟨(br_W0_in (i := 38) (by decide +kernel) (by decide +kernel)), (br_W0_in (i := 448) (by decide +kernel) (by decide +kernel))⟩, ⟨(br_W0_in (i := 446) (by decide +kernel) (by decide +kernel)), (br_W0_in (i := 447) (by decide +kernel) (by decide +kernel))⟩, ⟨by decide +kernel, by decide +kernel, by decide +kernel⟩, by decide⟩
theorem vcL_98 : br_vc RL 98 mX4_count 1 := ⟨⟨(br_W0_in (i := 445) (by decide +kernel) (by decide +kernel)), mwX4_count.1.1, mwX4_count.1.2⟩, mwX4_count.2⟩
theorem vcX4_185 : br_vc RX4 185 mX2_howMany 1 := ⟨⟨(br_W0_in (i := 449) (by decide +kernel) (by decide +kernel)), mwX2_howMany.1.1, mwX2_howMany.1.2⟩, mwX2_howMany.2⟩
theorem mwX2_joins : (Cond.initialized mX2_joins.1.cls ∈ br_W0 ∧ Cond.code mX2_joins.1 mX2_joins.2.1 mX2_joins.2.2.1 mX2_joins.2.2.2 ∈ br_W0) ∧ (Cond.instanceMethod mX2_joins.1 ∈ br_W0 ∧ Cond.selects mX2_joins.1.cls mX2_joins.1 mX2_joins.1 ∈ br_W0) ∧ (mX2_joins.1.cls ≠ "java/lang/invoke/MethodHandle" ∧ mX2_joins.1.cls ≠ "java/lang/invoke/VarHandle" ∧ (parseMethodDescriptor mX2_joins.1.desc).map (fun d => d.parameters.length) = some 0) ∧ mX2_joins.2.2.1 ≤ 10 := ⟨⟨(br_W0_in (i := 41) (by decide +kernel) (by decide +kernel)), (br_W0_in (i := 453) (by decide +kernel) (by decide +kernel))⟩, ⟨(br_W0_in (i := 451) (by decide +kernel) (by decide +kernel)), (br_W0_in (i := 452) (by decide +kernel) (by decide +kernel))⟩, ⟨by decide +kernel, by decide +kernel, by decide +kernel⟩, by decide⟩
theorem vcX4_188 : br_vc RX4 188 mX2_joins 0 := ⟨⟨(br_W0_in (i := 450) (by decide +kernel) (by decide +kernel)), mwX2_joins.1.1, mwX2_joins.1.2⟩, mwX2_joins.2⟩
theorem mwX4_digest : (Cond.initialized mX4_digest.1.cls ∈ br_W0 ∧ Cond.code mX4_digest.1 mX4_digest.2.1 mX4_digest.2.2.1 mX4_digest.2.2.2 ∈ br_W0) ∧ (Cond.instanceMethod mX4_digest.1 ∈ br_W0 ∧ Cond.selects mX4_digest.1.cls mX4_digest.1 mX4_digest.1 ∈ br_W0) ∧ (mX4_digest.1.cls ≠ "java/lang/invoke/MethodHandle" ∧ mX4_digest.1.cls ≠ "java/lang/invoke/VarHandle" ∧ (parseMethodDescriptor mX4_digest.1.desc).map (fun d => d.parameters.length) = some 0) ∧ mX4_digest.2.2.1 ≤ 10 := ⟨⟨(br_W0_in (i := 38) (by decide +kernel) (by decide +kernel)), (br_W0_in (i := 457) (by decide +kernel) (by decide +kernel))⟩, ⟨(br_W0_in (i := 455) (by decide +kernel) (by decide +kernel)), (br_W0_in (i := 456) (by decide +kernel) (by decide +kernel))⟩, ⟨by decide +kernel, by decide +kernel, by decide +kernel⟩, by decide⟩
theorem vcL_102 : br_vc RL 102 mX4_digest 0 := ⟨⟨(br_W0_in (i := 454) (by decide +kernel) (by decide +kernel)), mwX4_digest.1.1, mwX4_digest.1.2⟩, mwX4_digest.2⟩
theorem vcX4_193 : br_vc RX4 193 mX4_piece 2 := ⟨⟨(br_W0_in (i := 459) (by decide +kernel) (by decide +kernel)), mwX4_piece.1.1, mwX4_piece.1.2⟩, mwX4_piece.2⟩
theorem mwX4_mixed : (Cond.initialized mX4_mixed.1.cls ∈ br_W0 ∧ Cond.code mX4_mixed.1 mX4_mixed.2.1 mX4_mixed.2.2.1 mX4_mixed.2.2.2 ∈ br_W0) ∧ Cond.static mX4_mixed.1 ∈ br_W0 ∧ (mX4_mixed.1.cls ≠ "java/lang/invoke/MethodHandle" ∧ mX4_mixed.1.cls ≠ "java/lang/invoke/VarHandle" ∧ (parseMethodDescriptor mX4_mixed.1.desc).map (fun d => d.parameters.length) = some 2) ∧ mX4_mixed.2.2.1 ≤ 10 := ⟨⟨(br_W0_in (i := 38) (by decide +kernel) (by decide +kernel)), (br_W0_in (i := 462) (by decide +kernel) (by decide +kernel))⟩, (br_W0_in (i := 461) (by decide +kernel) (by decide +kernel)), ⟨by decide +kernel, by decide +kernel, by decide +kernel⟩, by decide⟩
theorem scX4_197 : br_sc RX4 197 mX4_mixed 2 := ⟨⟨(br_W0_in (i := 460) (by decide +kernel) (by decide +kernel)), mwX4_mixed.1.1, mwX4_mixed.1.2⟩, mwX4_mixed.2⟩
theorem vcX4_201 : br_vc RX4 201 mX4_score 1 := ⟨⟨(br_W0_in (i := 464) (by decide +kernel) (by decide +kernel)), mwX4_score.1.1, mwX4_score.1.2⟩, mwX4_score.2⟩
theorem vcX4_204 : br_vc RX4 204 mX4_mean 1 := ⟨⟨(br_W0_in (i := 465) (by decide +kernel) (by decide +kernel)), mwX4_mean.1.1, mwX4_mean.1.2⟩, mwX4_mean.2⟩
theorem vcX4_207 : br_vc RX4 207 mX4_odds 2 := ⟨⟨(br_W0_in (i := 466) (by decide +kernel) (by decide +kernel)), mwX4_odds.1.1, mwX4_odds.1.2⟩, mwX4_odds.2⟩
theorem vcX4_210 : br_vc RX4 210 mX1_codeAt 1 := ⟨⟨(br_W0_in (i := 467) (by decide +kernel) (by decide +kernel)), mwX1_codeAt.1.1, mwX1_codeAt.1.2⟩, mwX1_codeAt.2⟩
theorem vcX4_213 : br_vc RX4 213 mX4_count 1 := ⟨⟨(br_W0_in (i := 468) (by decide +kernel) (by decide +kernel)), mwX4_count.1.1, mwX4_count.1.2⟩, mwX4_count.2⟩
theorem mwX5_letter : (Cond.initialized mX5_letter.1.cls ∈ br_W0 ∧ Cond.code mX5_letter.1 mX5_letter.2.1 mX5_letter.2.2.1 mX5_letter.2.2.2 ∈ br_W0) ∧ (Cond.instanceMethod mX5_letter.1 ∈ br_W0 ∧ Cond.selects mX5_letter.1.cls mX5_letter.1 mX5_letter.1 ∈ br_W0) ∧ (mX5_letter.1.cls ≠ "java/lang/invoke/MethodHandle" ∧ mX5_letter.1.cls ≠ "java/lang/invoke/VarHandle" ∧ (parseMethodDescriptor mX5_letter.1.desc).map (fun d => d.parameters.length) = some 1) ∧ mX5_letter.2.2.1 ≤ 10 := ⟨⟨(br_W0_in (i := 43) (by decide +kernel) (by decide +kernel)), (br_W0_in (i := 542) (by decide +kernel) (by decide +kernel))⟩, ⟨(br_W0_in (i := 540) (by decide +kernel) (by decide +kernel)), (br_W0_in (i := 541) (by decide +kernel) (by decide +kernel))⟩, ⟨by decide +kernel, by decide +kernel, by decide +kernel⟩, by decide⟩
theorem vcL_17 : br_vc RL 17 mX5_letter 1 := ⟨⟨(br_W0_in (i := 539) (by decide +kernel) (by decide +kernel)), mwX5_letter.1.1, mwX5_letter.1.2⟩, mwX5_letter.2⟩
theorem mwX5_in : (Cond.initialized mX5_in.1.cls ∈ br_W0 ∧ Cond.code mX5_in.1 mX5_in.2.1 mX5_in.2.2.1 mX5_in.2.2.2 ∈ br_W0) ∧ Cond.static mX5_in.1 ∈ br_W0 ∧ (mX5_in.1.cls ≠ "java/lang/invoke/MethodHandle" ∧ mX5_in.1.cls ≠ "java/lang/invoke/VarHandle" ∧ (parseMethodDescriptor mX5_in.1.desc).map (fun d => d.parameters.length) = some 3) ∧ mX5_in.2.2.1 ≤ 10 := ⟨⟨(br_W0_in (i := 43) (by decide +kernel) (by decide +kernel)), (br_W0_in (i := 546) (by decide +kernel) (by decide +kernel))⟩, (br_W0_in (i := 545) (by decide +kernel) (by decide +kernel)), ⟨by decide +kernel, by decide +kernel, by decide +kernel⟩, by decide⟩
theorem scX5_40 : br_sc RX5 40 mX5_in 3 := ⟨⟨(br_W0_in (i := 544) (by decide +kernel) (by decide +kernel)), mwX5_in.1.1, mwX5_in.1.2⟩, mwX5_in.2⟩
theorem mwX5_blank : (Cond.initialized mX5_blank.1.cls ∈ br_W0 ∧ Cond.code mX5_blank.1 mX5_blank.2.1 mX5_blank.2.2.1 mX5_blank.2.2.2 ∈ br_W0) ∧ (Cond.instanceMethod mX5_blank.1 ∈ br_W0 ∧ Cond.selects mX5_blank.1.cls mX5_blank.1 mX5_blank.1 ∈ br_W0) ∧ (mX5_blank.1.cls ≠ "java/lang/invoke/MethodHandle" ∧ mX5_blank.1.cls ≠ "java/lang/invoke/VarHandle" ∧ (parseMethodDescriptor mX5_blank.1.desc).map (fun d => d.parameters.length) = some 0) ∧ mX5_blank.2.2.1 ≤ 10 := ⟨⟨(br_W0_in (i := 43) (by decide +kernel) (by decide +kernel)), (br_W0_in (i := 550) (by decide +kernel) (by decide +kernel))⟩, ⟨(br_W0_in (i := 548) (by decide +kernel) (by decide +kernel)), (br_W0_in (i := 549) (by decide +kernel) (by decide +kernel))⟩, ⟨by decide +kernel, by decide +kernel, by decide +kernel⟩, by decide⟩
theorem vcL_22 : br_vc RL 22 mX5_blank 0 := ⟨⟨(br_W0_in (i := 547) (by decide +kernel) (by decide +kernel)), mwX5_blank.1.1, mwX5_blank.1.2⟩, mwX5_blank.2⟩
theorem mwX5_fault : (Cond.initialized mX5_fault.1.cls ∈ br_W0 ∧ Cond.code mX5_fault.1 mX5_fault.2.1 mX5_fault.2.2.1 mX5_fault.2.2.2 ∈ br_W0) ∧ (Cond.instanceMethod mX5_fault.1 ∈ br_W0 ∧ Cond.selects mX5_fault.1.cls mX5_fault.1 mX5_fault.1 ∈ br_W0) ∧ (mX5_fault.1.cls ≠ "java/lang/invoke/MethodHandle" ∧ mX5_fault.1.cls ≠ "java/lang/invoke/VarHandle" ∧ (parseMethodDescriptor mX5_fault.1.desc).map (fun d => d.parameters.length) = some 0) ∧ mX5_fault.2.2.1 ≤ 10 := ⟨⟨(br_W0_in (i := 43) (by decide +kernel) (by decide +kernel)), (br_W0_in (i := 554) (by decide +kernel) (by decide +kernel))⟩, ⟨(br_W0_in (i := 552) (by decide +kernel) (by decide +kernel)), (br_W0_in (i := 553) (by decide +kernel) (by decide +kernel))⟩, ⟨by decide +kernel, by decide +kernel, by decide +kernel⟩, by decide⟩
theorem vcL_26 : br_vc RL 26 mX5_fault 0 := ⟨⟨(br_W0_in (i := 551) (by decide +kernel) (by decide +kernel)), mwX5_fault.1.1, mwX5_fault.1.2⟩, mwX5_fault.2⟩
theorem mwX5_faultOf : (Cond.initialized mX5_faultOf.1.cls ∈ br_W0 ∧ Cond.code mX5_faultOf.1 mX5_faultOf.2.1 mX5_faultOf.2.2.1 mX5_faultOf.2.2.2 ∈ br_W0) ∧ (Cond.instanceMethod mX5_faultOf.1 ∈ br_W0 ∧ Cond.selects mX5_faultOf.1.cls mX5_faultOf.1 mX5_faultOf.1 ∈ br_W0) ∧ (mX5_faultOf.1.cls ≠ "java/lang/invoke/MethodHandle" ∧ mX5_faultOf.1.cls ≠ "java/lang/invoke/VarHandle" ∧ (parseMethodDescriptor mX5_faultOf.1.desc).map (fun d => d.parameters.length) = some 0) ∧ mX5_faultOf.2.2.1 ≤ 10 := ⟨⟨(br_W0_in (i := 43) (by decide +kernel) (by decide +kernel)), (br_W0_in (i := 558) (by decide +kernel) (by decide +kernel))⟩, ⟨(br_W0_in (i := 557) (by decide +kernel) (by decide +kernel)), (br_W0_in (i := 9) (by decide +kernel) (by decide +kernel))⟩, ⟨by decide +kernel, by decide +kernel, by decide +kernel⟩, by decide⟩
theorem vcX5_59 : br_vc RX5 59 mX5_faultOf 0 := ⟨⟨(br_W0_in (i := 555) (by decide +kernel) (by decide +kernel)), mwX5_faultOf.1.1, mwX5_faultOf.1.2⟩, mwX5_faultOf.2⟩
theorem mwX5_isGood : (Cond.initialized mX5_isGood.1.cls ∈ br_W0 ∧ Cond.code mX5_isGood.1 mX5_isGood.2.1 mX5_isGood.2.2.1 mX5_isGood.2.2.2 ∈ br_W0) ∧ Cond.static mX5_isGood.1 ∈ br_W0 ∧ (mX5_isGood.1.cls ≠ "java/lang/invoke/MethodHandle" ∧ mX5_isGood.1.cls ≠ "java/lang/invoke/VarHandle" ∧ (parseMethodDescriptor mX5_isGood.1.desc).map (fun d => d.parameters.length) = some 2) ∧ mX5_isGood.2.2.1 ≤ 10 := ⟨⟨(br_W0_in (i := 43) (by decide +kernel) (by decide +kernel)), (br_W0_in (i := 561) (by decide +kernel) (by decide +kernel))⟩, (br_W0_in (i := 560) (by decide +kernel) (by decide +kernel)), ⟨by decide +kernel, by decide +kernel, by decide +kernel⟩, by decide⟩
theorem scX5_55 : br_sc RX5 55 mX5_isGood 2 := ⟨⟨(br_W0_in (i := 559) (by decide +kernel) (by decide +kernel)), mwX5_isGood.1.1, mwX5_isGood.1.2⟩, mwX5_isGood.2⟩
theorem mwX5_kindBy : (Cond.initialized mX5_kindBy.1.cls ∈ br_W0 ∧ Cond.code mX5_kindBy.1 mX5_kindBy.2.1 mX5_kindBy.2.2.1 mX5_kindBy.2.2.2 ∈ br_W0) ∧ Cond.static mX5_kindBy.1 ∈ br_W0 ∧ (mX5_kindBy.1.cls ≠ "java/lang/invoke/MethodHandle" ∧ mX5_kindBy.1.cls ≠ "java/lang/invoke/VarHandle" ∧ (parseMethodDescriptor mX5_kindBy.1.desc).map (fun d => d.parameters.length) = some 1) ∧ mX5_kindBy.2.2.1 ≤ 10 := ⟨⟨(br_W0_in (i := 43) (by decide +kernel) (by decide +kernel)), (br_W0_in (i := 564) (by decide +kernel) (by decide +kernel))⟩, (br_W0_in (i := 563) (by decide +kernel) (by decide +kernel)), ⟨by decide +kernel, by decide +kernel, by decide +kernel⟩, by decide⟩
theorem scX5_47 : br_sc RX5 47 mX5_kindBy 1 := ⟨⟨(br_W0_in (i := 562) (by decide +kernel) (by decide +kernel)), mwX5_kindBy.1.1, mwX5_kindBy.1.2⟩, mwX5_kindBy.2⟩
theorem mwX5_gym : (Cond.initialized mX5_gym.1.cls ∈ br_W0 ∧ Cond.code mX5_gym.1 mX5_gym.2.1 mX5_gym.2.2.1 mX5_gym.2.2.2 ∈ br_W0) ∧ (Cond.instanceMethod mX5_gym.1 ∈ br_W0 ∧ Cond.selects mX5_gym.1.cls mX5_gym.1 mX5_gym.1 ∈ br_W0) ∧ (mX5_gym.1.cls ≠ "java/lang/invoke/MethodHandle" ∧ mX5_gym.1.cls ≠ "java/lang/invoke/VarHandle" ∧ (parseMethodDescriptor mX5_gym.1.desc).map (fun d => d.parameters.length) = some 0) ∧ mX5_gym.2.2.1 ≤ 10 := ⟨⟨(br_W0_in (i := 43) (by decide +kernel) (by decide +kernel)), (br_W0_in (i := 570) (by decide +kernel) (by decide +kernel))⟩, ⟨(br_W0_in (i := 568) (by decide +kernel) (by decide +kernel)), (br_W0_in (i := 569) (by decide +kernel) (by decide +kernel))⟩, ⟨by decide +kernel, by decide +kernel, by decide +kernel⟩, by decide⟩
theorem vcL_30 : br_vc RL 30 mX5_gym 0 := ⟨⟨(br_W0_in (i := 567) (by decide +kernel) (by decide +kernel)), mwX5_gym.1.1, mwX5_gym.1.2⟩, mwX5_gym.2⟩
theorem mwX5_piece : (Cond.initialized mX5_piece.1.cls ∈ br_W0 ∧ Cond.code mX5_piece.1 mX5_piece.2.1 mX5_piece.2.2.1 mX5_piece.2.2.2 ∈ br_W0) ∧ (Cond.instanceMethod mX5_piece.1 ∈ br_W0 ∧ Cond.selects mX5_piece.1.cls mX5_piece.1 mX5_piece.1 ∈ br_W0) ∧ (mX5_piece.1.cls ≠ "java/lang/invoke/MethodHandle" ∧ mX5_piece.1.cls ≠ "java/lang/invoke/VarHandle" ∧ (parseMethodDescriptor mX5_piece.1.desc).map (fun d => d.parameters.length) = some 2) ∧ mX5_piece.2.2.1 ≤ 10 := ⟨⟨(br_W0_in (i := 43) (by decide +kernel) (by decide +kernel)), (br_W0_in (i := 574) (by decide +kernel) (by decide +kernel))⟩, ⟨(br_W0_in (i := 572) (by decide +kernel) (by decide +kernel)), (br_W0_in (i := 573) (by decide +kernel) (by decide +kernel))⟩, ⟨by decide +kernel, by decide +kernel, by decide +kernel⟩, by decide⟩
theorem vcL_35 : br_vc RL 35 mX5_piece 2 := ⟨⟨(br_W0_in (i := 571) (by decide +kernel) (by decide +kernel)), mwX5_piece.1.1, mwX5_piece.1.2⟩, mwX5_piece.2⟩
theorem mwX5_isPiece : (Cond.initialized mX5_isPiece.1.cls ∈ br_W0 ∧ Cond.code mX5_isPiece.1 mX5_isPiece.2.1 mX5_isPiece.2.2.1 mX5_isPiece.2.2.2 ∈ br_W0) ∧ (Cond.instanceMethod mX5_isPiece.1 ∈ br_W0 ∧ Cond.selects mX5_isPiece.1.cls mX5_isPiece.1 mX5_isPiece.1 ∈ br_W0) ∧ (mX5_isPiece.1.cls ≠ "java/lang/invoke/MethodHandle" ∧ mX5_isPiece.1.cls ≠ "java/lang/invoke/VarHandle" ∧ (parseMethodDescriptor mX5_isPiece.1.desc).map (fun d => d.parameters.length) = some 1) ∧ mX5_isPiece.2.2.1 ≤ 10 := ⟨⟨(br_W0_in (i := 43) (by decide +kernel) (by decide +kernel)), (br_W0_in (i := 578) (by decide +kernel) (by decide +kernel))⟩, ⟨(br_W0_in (i := 577) (by decide +kernel) (by decide +kernel)), (br_W0_in (i := 10) (by decide +kernel) (by decide +kernel))⟩, ⟨by decide +kernel, by decide +kernel, by decide +kernel⟩, by decide⟩
theorem vcX5_95 : br_vc RX5 95 mX5_isPiece 1 := ⟨⟨(br_W0_in (i := 575) (by decide +kernel) (by decide +kernel)), mwX5_isPiece.1.1, mwX5_isPiece.1.2⟩, mwX5_isPiece.2⟩
theorem mwX5_tell : (Cond.initialized mX5_tell.1.cls ∈ br_W0 ∧ Cond.code mX5_tell.1 mX5_tell.2.1 mX5_tell.2.2.1 mX5_tell.2.2.2 ∈ br_W0) ∧ (Cond.instanceMethod mX5_tell.1 ∈ br_W0 ∧ Cond.selects mX5_tell.1.cls mX5_tell.1 mX5_tell.1 ∈ br_W0) ∧ (mX5_tell.1.cls ≠ "java/lang/invoke/MethodHandle" ∧ mX5_tell.1.cls ≠ "java/lang/invoke/VarHandle" ∧ (parseMethodDescriptor mX5_tell.1.desc).map (fun d => d.parameters.length) = some 2) ∧ mX5_tell.2.2.1 ≤ 10 := ⟨⟨(br_W0_in (i := 43) (by decide +kernel) (by decide +kernel)), (br_W0_in (i := 582) (by decide +kernel) (by decide +kernel))⟩, ⟨(br_W0_in (i := 581) (by decide +kernel) (by decide +kernel)), (br_W0_in (i := 11) (by decide +kernel) (by decide +kernel))⟩, ⟨by decide +kernel, by decide +kernel, by decide +kernel⟩, by decide⟩
theorem vcX5_99 : br_vc RX5 99 mX5_tell 2 := ⟨⟨(br_W0_in (i := 579) (by decide +kernel) (by decide +kernel)), mwX5_tell.1.1, mwX5_tell.1.2⟩, mwX5_tell.2⟩
theorem mwX5_placeOf : (Cond.initialized mX5_placeOf.1.cls ∈ br_W0 ∧ Cond.code mX5_placeOf.1 mX5_placeOf.2.1 mX5_placeOf.2.2.1 mX5_placeOf.2.2.2 ∈ br_W0) ∧ (Cond.instanceMethod mX5_placeOf.1 ∈ br_W0 ∧ Cond.selects mX5_placeOf.1.cls mX5_placeOf.1 mX5_placeOf.1 ∈ br_W0) ∧ (mX5_placeOf.1.cls ≠ "java/lang/invoke/MethodHandle" ∧ mX5_placeOf.1.cls ≠ "java/lang/invoke/VarHandle" ∧ (parseMethodDescriptor mX5_placeOf.1.desc).map (fun d => d.parameters.length) = some 1) ∧ mX5_placeOf.2.2.1 ≤ 10 := ⟨⟨(br_W0_in (i := 43) (by decide +kernel) (by decide +kernel)), (br_W0_in (i := 586) (by decide +kernel) (by decide +kernel))⟩, ⟨(br_W0_in (i := 585) (by decide +kernel) (by decide +kernel)), (br_W0_in (i := 12) (by decide +kernel) (by decide +kernel))⟩, ⟨by decide +kernel, by decide +kernel, by decide +kernel⟩, by decide⟩
theorem vcX5_82 : br_vc RX5 82 mX5_placeOf 1 := ⟨⟨(br_W0_in (i := 583) (by decide +kernel) (by decide +kernel)), mwX5_placeOf.1.1, mwX5_placeOf.1.2⟩, mwX5_placeOf.2⟩
theorem mwX5_tenthsOf : (Cond.initialized mX5_tenthsOf.1.cls ∈ br_W0 ∧ Cond.code mX5_tenthsOf.1 mX5_tenthsOf.2.1 mX5_tenthsOf.2.2.1 mX5_tenthsOf.2.2.2 ∈ br_W0) ∧ (Cond.instanceMethod mX5_tenthsOf.1 ∈ br_W0 ∧ Cond.selects mX5_tenthsOf.1.cls mX5_tenthsOf.1 mX5_tenthsOf.1 ∈ br_W0) ∧ (mX5_tenthsOf.1.cls ≠ "java/lang/invoke/MethodHandle" ∧ mX5_tenthsOf.1.cls ≠ "java/lang/invoke/VarHandle" ∧ (parseMethodDescriptor mX5_tenthsOf.1.desc).map (fun d => d.parameters.length) = some 2) ∧ mX5_tenthsOf.2.2.1 ≤ 10 := ⟨⟨(br_W0_in (i := 43) (by decide +kernel) (by decide +kernel)), (br_W0_in (i := 590) (by decide +kernel) (by decide +kernel))⟩, ⟨(br_W0_in (i := 589) (by decide +kernel) (by decide +kernel)), (br_W0_in (i := 13) (by decide +kernel) (by decide +kernel))⟩, ⟨by decide +kernel, by decide +kernel, by decide +kernel⟩, by decide⟩
theorem vcX5_85 : br_vc RX5 85 mX5_tenthsOf 2 := ⟨⟨(br_W0_in (i := 587) (by decide +kernel) (by decide +kernel)), mwX5_tenthsOf.1.1, mwX5_tenthsOf.1.2⟩, mwX5_tenthsOf.2⟩
theorem mwX5_tenthsBy : (Cond.initialized mX5_tenthsBy.1.cls ∈ br_W0 ∧ Cond.code mX5_tenthsBy.1 mX5_tenthsBy.2.1 mX5_tenthsBy.2.2.1 mX5_tenthsBy.2.2.2 ∈ br_W0) ∧ Cond.static mX5_tenthsBy.1 ∈ br_W0 ∧ (mX5_tenthsBy.1.cls ≠ "java/lang/invoke/MethodHandle" ∧ mX5_tenthsBy.1.cls ≠ "java/lang/invoke/VarHandle" ∧ (parseMethodDescriptor mX5_tenthsBy.1.desc).map (fun d => d.parameters.length) = some 3) ∧ mX5_tenthsBy.2.2.1 ≤ 10 := ⟨⟨(br_W0_in (i := 43) (by decide +kernel) (by decide +kernel)), (br_W0_in (i := 593) (by decide +kernel) (by decide +kernel))⟩, (br_W0_in (i := 592) (by decide +kernel) (by decide +kernel)), ⟨by decide +kernel, by decide +kernel, by decide +kernel⟩, by decide⟩
theorem scX5_78 : br_sc RX5 78 mX5_tenthsBy 3 := ⟨⟨(br_W0_in (i := 591) (by decide +kernel) (by decide +kernel)), mwX5_tenthsBy.1.1, mwX5_tenthsBy.1.2⟩, mwX5_tenthsBy.2⟩
theorem mwX5_sureOf : (Cond.initialized mX5_sureOf.1.cls ∈ br_W0 ∧ Cond.code mX5_sureOf.1 mX5_sureOf.2.1 mX5_sureOf.2.2.1 mX5_sureOf.2.2.2 ∈ br_W0) ∧ (Cond.instanceMethod mX5_sureOf.1 ∈ br_W0 ∧ Cond.selects mX5_sureOf.1.cls mX5_sureOf.1 mX5_sureOf.1 ∈ br_W0) ∧ (mX5_sureOf.1.cls ≠ "java/lang/invoke/MethodHandle" ∧ mX5_sureOf.1.cls ≠ "java/lang/invoke/VarHandle" ∧ (parseMethodDescriptor mX5_sureOf.1.desc).map (fun d => d.parameters.length) = some 1) ∧ mX5_sureOf.2.2.1 ≤ 10 := ⟨⟨(br_W0_in (i := 43) (by decide +kernel) (by decide +kernel)), (br_W0_in (i := 597) (by decide +kernel) (by decide +kernel))⟩, ⟨(br_W0_in (i := 596) (by decide +kernel) (by decide +kernel)), (br_W0_in (i := 14) (by decide +kernel) (by decide +kernel))⟩, ⟨by decide +kernel, by decide +kernel, by decide +kernel⟩, by decide⟩
theorem vcX5_89 : br_vc RX5 89 mX5_sureOf 1 := ⟨⟨(br_W0_in (i := 594) (by decide +kernel) (by decide +kernel)), mwX5_sureOf.1.1, mwX5_sureOf.1.2⟩, mwX5_sureOf.2⟩
theorem mwX5_triedWays : (Cond.initialized mX5_triedWays.1.cls ∈ br_W0 ∧ Cond.code mX5_triedWays.1 mX5_triedWays.2.1 mX5_triedWays.2.2.1 mX5_triedWays.2.2.2 ∈ br_W0) ∧ (Cond.instanceMethod mX5_triedWays.1 ∈ br_W0 ∧ Cond.selects mX5_triedWays.1.cls mX5_triedWays.1 mX5_triedWays.1 ∈ br_W0) ∧ (mX5_triedWays.1.cls ≠ "java/lang/invoke/MethodHandle" ∧ mX5_triedWays.1.cls ≠ "java/lang/invoke/VarHandle" ∧ (parseMethodDescriptor mX5_triedWays.1.desc).map (fun d => d.parameters.length) = some 2) ∧ mX5_triedWays.2.2.1 ≤ 10 := ⟨⟨(br_W0_in (i := 43) (by decide +kernel) (by decide +kernel)), (br_W0_in (i := 601) (by decide +kernel) (by decide +kernel))⟩, ⟨(br_W0_in (i := 600) (by decide +kernel) (by decide +kernel)), (br_W0_in (i := 15) (by decide +kernel) (by decide +kernel))⟩, ⟨by decide +kernel, by decide +kernel, by decide +kernel⟩, by decide⟩
theorem vcX5_173 : br_vc RX5 173 mX5_triedWays 2 := ⟨⟨(br_W0_in (i := 598) (by decide +kernel) (by decide +kernel)), mwX5_triedWays.1.1, mwX5_triedWays.1.2⟩, mwX5_triedWays.2⟩
theorem mwX5_likelyOf : (Cond.initialized mX5_likelyOf.1.cls ∈ br_W0 ∧ Cond.code mX5_likelyOf.1 mX5_likelyOf.2.1 mX5_likelyOf.2.2.1 mX5_likelyOf.2.2.2 ∈ br_W0) ∧ (Cond.instanceMethod mX5_likelyOf.1 ∈ br_W0 ∧ Cond.selects mX5_likelyOf.1.cls mX5_likelyOf.1 mX5_likelyOf.1 ∈ br_W0) ∧ (mX5_likelyOf.1.cls ≠ "java/lang/invoke/MethodHandle" ∧ mX5_likelyOf.1.cls ≠ "java/lang/invoke/VarHandle" ∧ (parseMethodDescriptor mX5_likelyOf.1.desc).map (fun d => d.parameters.length) = some 1) ∧ mX5_likelyOf.2.2.1 ≤ 10 := ⟨⟨(br_W0_in (i := 43) (by decide +kernel) (by decide +kernel)), (br_W0_in (i := 605) (by decide +kernel) (by decide +kernel))⟩, ⟨(br_W0_in (i := 604) (by decide +kernel) (by decide +kernel)), (br_W0_in (i := 16) (by decide +kernel) (by decide +kernel))⟩, ⟨by decide +kernel, by decide +kernel, by decide +kernel⟩, by decide⟩
theorem vcX5_92 : br_vc RX5 92 mX5_likelyOf 1 := ⟨⟨(br_W0_in (i := 602) (by decide +kernel) (by decide +kernel)), mwX5_likelyOf.1.1, mwX5_likelyOf.1.2⟩, mwX5_likelyOf.2⟩
theorem mwX5_as : (Cond.initialized mX5_as.1.cls ∈ br_W0 ∧ Cond.code mX5_as.1 mX5_as.2.1 mX5_as.2.2.1 mX5_as.2.2.2 ∈ br_W0) ∧ (Cond.instanceMethod mX5_as.1 ∈ br_W0 ∧ Cond.selects mX5_as.1.cls mX5_as.1 mX5_as.1 ∈ br_W0) ∧ (mX5_as.1.cls ≠ "java/lang/invoke/MethodHandle" ∧ mX5_as.1.cls ≠ "java/lang/invoke/VarHandle" ∧ (parseMethodDescriptor mX5_as.1.desc).map (fun d => d.parameters.length) = some 2) ∧ mX5_as.2.2.1 ≤ 10 := ⟨⟨(br_W0_in (i := 43) (by decide +kernel) (by decide +kernel)), (br_W0_in (i := 609) (by decide +kernel) (by decide +kernel))⟩, ⟨(br_W0_in (i := 607) (by decide +kernel) (by decide +kernel)), (br_W0_in (i := 608) (by decide +kernel) (by decide +kernel))⟩, ⟨by decide +kernel, by decide +kernel, by decide +kernel⟩, by decide⟩
theorem vcL_39 : br_vc RL 39 mX5_as 2 := ⟨⟨(br_W0_in (i := 606) (by decide +kernel) (by decide +kernel)), mwX5_as.1.1, mwX5_as.1.2⟩, mwX5_as.2⟩
theorem mwX5_put : (Cond.initialized mX5_put.1.cls ∈ br_W0 ∧ Cond.code mX5_put.1 mX5_put.2.1 mX5_put.2.2.1 mX5_put.2.2.2 ∈ br_W0) ∧ (Cond.instanceMethod mX5_put.1 ∈ br_W0 ∧ Cond.selects mX5_put.1.cls mX5_put.1 mX5_put.1 ∈ br_W0) ∧ (mX5_put.1.cls ≠ "java/lang/invoke/MethodHandle" ∧ mX5_put.1.cls ≠ "java/lang/invoke/VarHandle" ∧ (parseMethodDescriptor mX5_put.1.desc).map (fun d => d.parameters.length) = some 1) ∧ mX5_put.2.2.1 ≤ 10 := ⟨⟨(br_W0_in (i := 43) (by decide +kernel) (by decide +kernel)), (br_W0_in (i := 614) (by decide +kernel) (by decide +kernel))⟩, ⟨(br_W0_in (i := 612) (by decide +kernel) (by decide +kernel)), (br_W0_in (i := 613) (by decide +kernel) (by decide +kernel))⟩, ⟨by decide +kernel, by decide +kernel, by decide +kernel⟩, by decide⟩
theorem vcL_43 : br_vc RL 43 mX5_put 1 := ⟨⟨(br_W0_in (i := 611) (by decide +kernel) (by decide +kernel)), mwX5_put.1.1, mwX5_put.1.2⟩, mwX5_put.2⟩
theorem mwX5_take : (Cond.initialized mX5_take.1.cls ∈ br_W0 ∧ Cond.code mX5_take.1 mX5_take.2.1 mX5_take.2.2.1 mX5_take.2.2.2 ∈ br_W0) ∧ (Cond.instanceMethod mX5_take.1 ∈ br_W0 ∧ Cond.selects mX5_take.1.cls mX5_take.1 mX5_take.1 ∈ br_W0) ∧ (mX5_take.1.cls ≠ "java/lang/invoke/MethodHandle" ∧ mX5_take.1.cls ≠ "java/lang/invoke/VarHandle" ∧ (parseMethodDescriptor mX5_take.1.desc).map (fun d => d.parameters.length) = some 1) ∧ mX5_take.2.2.1 ≤ 10 := ⟨⟨(br_W0_in (i := 43) (by decide +kernel) (by decide +kernel)), (br_W0_in (i := 618) (by decide +kernel) (by decide +kernel))⟩, ⟨(br_W0_in (i := 616) (by decide +kernel) (by decide +kernel)), (br_W0_in (i := 617) (by decide +kernel) (by decide +kernel))⟩, ⟨by decide +kernel, by decide +kernel, by decide +kernel⟩, by decide⟩
theorem vcL_47 : br_vc RL 47 mX5_take 1 := ⟨⟨(br_W0_in (i := 615) (by decide +kernel) (by decide +kernel)), mwX5_take.1.1, mwX5_take.1.2⟩, mwX5_take.2⟩
theorem mwX5_isPlace : (Cond.initialized mX5_isPlace.1.cls ∈ br_W0 ∧ Cond.code mX5_isPlace.1 mX5_isPlace.2.1 mX5_isPlace.2.2.1 mX5_isPlace.2.2.2 ∈ br_W0) ∧ (Cond.instanceMethod mX5_isPlace.1 ∈ br_W0 ∧ Cond.selects mX5_isPlace.1.cls mX5_isPlace.1 mX5_isPlace.1 ∈ br_W0) ∧ (mX5_isPlace.1.cls ≠ "java/lang/invoke/MethodHandle" ∧ mX5_isPlace.1.cls ≠ "java/lang/invoke/VarHandle" ∧ (parseMethodDescriptor mX5_isPlace.1.desc).map (fun d => d.parameters.length) = some 1) ∧ mX5_isPlace.2.2.1 ≤ 10 := ⟨⟨(br_W0_in (i := 43) (by decide +kernel) (by decide +kernel)), (br_W0_in (i := 622) (by decide +kernel) (by decide +kernel))⟩, ⟨(br_W0_in (i := 621) (by decide +kernel) (by decide +kernel)), (br_W0_in (i := 17) (by decide +kernel) (by decide +kernel))⟩, ⟨by decide +kernel, by decide +kernel, by decide +kernel⟩, by decide⟩
theorem vcX5_104 : br_vc RX5 104 mX5_isPlace 1 := ⟨⟨(br_W0_in (i := 619) (by decide +kernel) (by decide +kernel)), mwX5_isPlace.1.1, mwX5_isPlace.1.2⟩, mwX5_isPlace.2⟩
theorem mwX5_swap : (Cond.initialized mX5_swap.1.cls ∈ br_W0 ∧ Cond.code mX5_swap.1 mX5_swap.2.1 mX5_swap.2.2.1 mX5_swap.2.2.2 ∈ br_W0) ∧ (Cond.instanceMethod mX5_swap.1 ∈ br_W0 ∧ Cond.selects mX5_swap.1.cls mX5_swap.1 mX5_swap.1 ∈ br_W0) ∧ (mX5_swap.1.cls ≠ "java/lang/invoke/MethodHandle" ∧ mX5_swap.1.cls ≠ "java/lang/invoke/VarHandle" ∧ (parseMethodDescriptor mX5_swap.1.desc).map (fun d => d.parameters.length) = some 2) ∧ mX5_swap.2.2.1 ≤ 10 := ⟨⟨(br_W0_in (i := 43) (by decide +kernel) (by decide +kernel)), (br_W0_in (i := 626) (by decide +kernel) (by decide +kernel))⟩, ⟨(br_W0_in (i := 624) (by decide +kernel) (by decide +kernel)), (br_W0_in (i := 625) (by decide +kernel) (by decide +kernel))⟩, ⟨by decide +kernel, by decide +kernel, by decide +kernel⟩, by decide⟩
theorem vcL_51 : br_vc RL 51 mX5_swap 2 := ⟨⟨(br_W0_in (i := 623) (by decide +kernel) (by decide +kernel)), mwX5_swap.1.1, mwX5_swap.1.2⟩, mwX5_swap.2⟩
theorem mwX5_at : (Cond.initialized mX5_at.1.cls ∈ br_W0 ∧ Cond.code mX5_at.1 mX5_at.2.1 mX5_at.2.2.1 mX5_at.2.2.2 ∈ br_W0) ∧ (Cond.instanceMethod mX5_at.1 ∈ br_W0 ∧ Cond.selects mX5_at.1.cls mX5_at.1 mX5_at.1 ∈ br_W0) ∧ (mX5_at.1.cls ≠ "java/lang/invoke/MethodHandle" ∧ mX5_at.1.cls ≠ "java/lang/invoke/VarHandle" ∧ (parseMethodDescriptor mX5_at.1.desc).map (fun d => d.parameters.length) = some 1) ∧ mX5_at.2.2.1 ≤ 10 := ⟨⟨(br_W0_in (i := 43) (by decide +kernel) (by decide +kernel)), (br_W0_in (i := 630) (by decide +kernel) (by decide +kernel))⟩, ⟨(br_W0_in (i := 628) (by decide +kernel) (by decide +kernel)), (br_W0_in (i := 629) (by decide +kernel) (by decide +kernel))⟩, ⟨by decide +kernel, by decide +kernel, by decide +kernel⟩, by decide⟩
theorem vcL_55 : br_vc RL 55 mX5_at 1 := ⟨⟨(br_W0_in (i := 627) (by decide +kernel) (by decide +kernel)), mwX5_at.1.1, mwX5_at.1.2⟩, mwX5_at.2⟩
theorem mwX5_score : (Cond.initialized mX5_score.1.cls ∈ br_W0 ∧ Cond.code mX5_score.1 mX5_score.2.1 mX5_score.2.2.1 mX5_score.2.2.2 ∈ br_W0) ∧ (Cond.instanceMethod mX5_score.1 ∈ br_W0 ∧ Cond.selects mX5_score.1.cls mX5_score.1 mX5_score.1 ∈ br_W0) ∧ (mX5_score.1.cls ≠ "java/lang/invoke/MethodHandle" ∧ mX5_score.1.cls ≠ "java/lang/invoke/VarHandle" ∧ (parseMethodDescriptor mX5_score.1.desc).map (fun d => d.parameters.length) = some 1) ∧ mX5_score.2.2.1 ≤ 10 := ⟨⟨(br_W0_in (i := 43) (by decide +kernel) (by decide +kernel)), (br_W0_in (i := 634) (by decide +kernel) (by decide +kernel))⟩, ⟨(br_W0_in (i := 632) (by decide +kernel) (by decide +kernel)), (br_W0_in (i := 633) (by decide +kernel) (by decide +kernel))⟩, ⟨by decide +kernel, by decide +kernel, by decide +kernel⟩, by decide⟩
theorem vcL_59 : br_vc RL 59 mX5_score 1 := ⟨⟨(br_W0_in (i := 631) (by decide +kernel) (by decide +kernel)), mwX5_score.1.1, mwX5_score.1.2⟩, mwX5_score.2⟩
theorem mwX5_lacks : (Cond.initialized mX5_lacks.1.cls ∈ br_W0 ∧ Cond.code mX5_lacks.1 mX5_lacks.2.1 mX5_lacks.2.2.1 mX5_lacks.2.2.2 ∈ br_W0) ∧ (Cond.instanceMethod mX5_lacks.1 ∈ br_W0 ∧ Cond.selects mX5_lacks.1.cls mX5_lacks.1 mX5_lacks.1 ∈ br_W0) ∧ (mX5_lacks.1.cls ≠ "java/lang/invoke/MethodHandle" ∧ mX5_lacks.1.cls ≠ "java/lang/invoke/VarHandle" ∧ (parseMethodDescriptor mX5_lacks.1.desc).map (fun d => d.parameters.length) = some 0) ∧ mX5_lacks.2.2.1 ≤ 10 := ⟨⟨(br_W0_in (i := 43) (by decide +kernel) (by decide +kernel)), (br_W0_in (i := 638) (by decide +kernel) (by decide +kernel))⟩, ⟨(br_W0_in (i := 637) (by decide +kernel) (by decide +kernel)), (br_W0_in (i := 18) (by decide +kernel) (by decide +kernel))⟩, ⟨by decide +kernel, by decide +kernel, by decide +kernel⟩, by decide⟩
theorem vcX5_117 : br_vc RX5 117 mX5_lacks 0 := ⟨⟨(br_W0_in (i := 635) (by decide +kernel) (by decide +kernel)), mwX5_lacks.1.1, mwX5_lacks.1.2⟩, mwX5_lacks.2⟩
theorem mwX5_scoreOf : (Cond.initialized mX5_scoreOf.1.cls ∈ br_W0 ∧ Cond.code mX5_scoreOf.1 mX5_scoreOf.2.1 mX5_scoreOf.2.2.1 mX5_scoreOf.2.2.2 ∈ br_W0) ∧ (Cond.instanceMethod mX5_scoreOf.1 ∈ br_W0 ∧ Cond.selects mX5_scoreOf.1.cls mX5_scoreOf.1 mX5_scoreOf.1 ∈ br_W0) ∧ (mX5_scoreOf.1.cls ≠ "java/lang/invoke/MethodHandle" ∧ mX5_scoreOf.1.cls ≠ "java/lang/invoke/VarHandle" ∧ (parseMethodDescriptor mX5_scoreOf.1.desc).map (fun d => d.parameters.length) = some 3) ∧ mX5_scoreOf.2.2.1 ≤ 10 := ⟨⟨(br_W0_in (i := 43) (by decide +kernel) (by decide +kernel)), (br_W0_in (i := 642) (by decide +kernel) (by decide +kernel))⟩, ⟨(br_W0_in (i := 641) (by decide +kernel) (by decide +kernel)), (br_W0_in (i := 19) (by decide +kernel) (by decide +kernel))⟩, ⟨by decide +kernel, by decide +kernel, by decide +kernel⟩, by decide⟩
theorem vcX5_121 : br_vc RX5 121 mX5_scoreOf 3 := ⟨⟨(br_W0_in (i := 639) (by decide +kernel) (by decide +kernel)), mwX5_scoreOf.1.1, mwX5_scoreOf.1.2⟩, mwX5_scoreOf.2⟩
theorem mwX5_isFlight : (Cond.initialized mX5_isFlight.1.cls ∈ br_W0 ∧ Cond.code mX5_isFlight.1 mX5_isFlight.2.1 mX5_isFlight.2.2.1 mX5_isFlight.2.2.2 ∈ br_W0) ∧ (Cond.instanceMethod mX5_isFlight.1 ∈ br_W0 ∧ Cond.selects mX5_isFlight.1.cls mX5_isFlight.1 mX5_isFlight.1 ∈ br_W0) ∧ (mX5_isFlight.1.cls ≠ "java/lang/invoke/MethodHandle" ∧ mX5_isFlight.1.cls ≠ "java/lang/invoke/VarHandle" ∧ (parseMethodDescriptor mX5_isFlight.1.desc).map (fun d => d.parameters.length) = some 1) ∧ mX5_isFlight.2.2.1 ≤ 10 := ⟨⟨(br_W0_in (i := 43) (by decide +kernel) (by decide +kernel)), (br_W0_in (i := 646) (by decide +kernel) (by decide +kernel))⟩, ⟨(br_W0_in (i := 645) (by decide +kernel) (by decide +kernel)), (br_W0_in (i := 20) (by decide +kernel) (by decide +kernel))⟩, ⟨by decide +kernel, by decide +kernel, by decide +kernel⟩, by decide⟩
theorem vcX5_107 : br_vc RX5 107 mX5_isFlight 1 := ⟨⟨(br_W0_in (i := 643) (by decide +kernel) (by decide +kernel)), mwX5_isFlight.1.1, mwX5_isFlight.1.2⟩, mwX5_isFlight.2⟩
theorem mwX5_isTurn : (Cond.initialized mX5_isTurn.1.cls ∈ br_W0 ∧ Cond.code mX5_isTurn.1 mX5_isTurn.2.1 mX5_isTurn.2.2.1 mX5_isTurn.2.2.2 ∈ br_W0) ∧ (Cond.instanceMethod mX5_isTurn.1 ∈ br_W0 ∧ Cond.selects mX5_isTurn.1.cls mX5_isTurn.1 mX5_isTurn.1 ∈ br_W0) ∧ (mX5_isTurn.1.cls ≠ "java/lang/invoke/MethodHandle" ∧ mX5_isTurn.1.cls ≠ "java/lang/invoke/VarHandle" ∧ (parseMethodDescriptor mX5_isTurn.1.desc).map (fun d => d.parameters.length) = some 1) ∧ mX5_isTurn.2.2.1 ≤ 10 := ⟨⟨(br_W0_in (i := 43) (by decide +kernel) (by decide +kernel)), (br_W0_in (i := 650) (by decide +kernel) (by decide +kernel))⟩, ⟨(br_W0_in (i := 649) (by decide +kernel) (by decide +kernel)), (br_W0_in (i := 21) (by decide +kernel) (by decide +kernel))⟩, ⟨by decide +kernel, by decide +kernel, by decide +kernel⟩, by decide⟩
theorem vcX5_110 : br_vc RX5 110 mX5_isTurn 1 := ⟨⟨(br_W0_in (i := 647) (by decide +kernel) (by decide +kernel)), mwX5_isTurn.1.1, mwX5_isTurn.1.2⟩, mwX5_isTurn.2⟩
theorem mwX5_joins : (Cond.initialized mX5_joins.1.cls ∈ br_W0 ∧ Cond.code mX5_joins.1 mX5_joins.2.1 mX5_joins.2.2.1 mX5_joins.2.2.2 ∈ br_W0) ∧ (Cond.instanceMethod mX5_joins.1 ∈ br_W0 ∧ Cond.selects mX5_joins.1.cls mX5_joins.1 mX5_joins.1 ∈ br_W0) ∧ (mX5_joins.1.cls ≠ "java/lang/invoke/MethodHandle" ∧ mX5_joins.1.cls ≠ "java/lang/invoke/VarHandle" ∧ (parseMethodDescriptor mX5_joins.1.desc).map (fun d => d.parameters.length) = some 3) ∧ mX5_joins.2.2.1 ≤ 10 := ⟨⟨(br_W0_in (i := 43) (by decide +kernel) (by decide +kernel)), (br_W0_in (i := 654) (by decide +kernel) (by decide +kernel))⟩, ⟨(br_W0_in (i := 653) (by decide +kernel) (by decide +kernel)), (br_W0_in (i := 22) (by decide +kernel) (by decide +kernel))⟩, ⟨by decide +kernel, by decide +kernel, by decide +kernel⟩, by decide⟩
theorem vcX5_113 : br_vc RX5 113 mX5_joins 3 := ⟨⟨(br_W0_in (i := 651) (by decide +kernel) (by decide +kernel)), mwX5_joins.1.1, mwX5_joins.1.2⟩, mwX5_joins.2⟩
theorem mwX5_mean : (Cond.initialized mX5_mean.1.cls ∈ br_W0 ∧ Cond.code mX5_mean.1 mX5_mean.2.1 mX5_mean.2.2.1 mX5_mean.2.2.2 ∈ br_W0) ∧ (Cond.instanceMethod mX5_mean.1 ∈ br_W0 ∧ Cond.selects mX5_mean.1.cls mX5_mean.1 mX5_mean.1 ∈ br_W0) ∧ (mX5_mean.1.cls ≠ "java/lang/invoke/MethodHandle" ∧ mX5_mean.1.cls ≠ "java/lang/invoke/VarHandle" ∧ (parseMethodDescriptor mX5_mean.1.desc).map (fun d => d.parameters.length) = some 1) ∧ mX5_mean.2.2.1 ≤ 10 := ⟨⟨(br_W0_in (i := 43) (by decide +kernel) (by decide +kernel)), (br_W0_in (i := 658) (by decide +kernel) (by decide +kernel))⟩, ⟨(br_W0_in (i := 656) (by decide +kernel) (by decide +kernel)), (br_W0_in (i := 657) (by decide +kernel) (by decide +kernel))⟩, ⟨by decide +kernel, by decide +kernel, by decide +kernel⟩, by decide⟩
theorem vcL_63 : br_vc RL 63 mX5_mean 1 := ⟨⟨(br_W0_in (i := 655) (by decide +kernel) (by decide +kernel)), mwX5_mean.1.1, mwX5_mean.1.2⟩, mwX5_mean.2⟩
theorem mwX5_meanOf : (Cond.initialized mX5_meanOf.1.cls ∈ br_W0 ∧ Cond.code mX5_meanOf.1 mX5_meanOf.2.1 mX5_meanOf.2.2.1 mX5_meanOf.2.2.2 ∈ br_W0) ∧ (Cond.instanceMethod mX5_meanOf.1 ∈ br_W0 ∧ Cond.selects mX5_meanOf.1.cls mX5_meanOf.1 mX5_meanOf.1 ∈ br_W0) ∧ (mX5_meanOf.1.cls ≠ "java/lang/invoke/MethodHandle" ∧ mX5_meanOf.1.cls ≠ "java/lang/invoke/VarHandle" ∧ (parseMethodDescriptor mX5_meanOf.1.desc).map (fun d => d.parameters.length) = some 3) ∧ mX5_meanOf.2.2.1 ≤ 10 := ⟨⟨(br_W0_in (i := 43) (by decide +kernel) (by decide +kernel)), (br_W0_in (i := 662) (by decide +kernel) (by decide +kernel))⟩, ⟨(br_W0_in (i := 661) (by decide +kernel) (by decide +kernel)), (br_W0_in (i := 23) (by decide +kernel) (by decide +kernel))⟩, ⟨by decide +kernel, by decide +kernel, by decide +kernel⟩, by decide⟩
theorem vcX5_138 : br_vc RX5 138 mX5_meanOf 3 := ⟨⟨(br_W0_in (i := 659) (by decide +kernel) (by decide +kernel)), mwX5_meanOf.1.1, mwX5_meanOf.1.2⟩, mwX5_meanOf.2⟩
theorem mwX5_meanUp : (Cond.initialized mX5_meanUp.1.cls ∈ br_W0 ∧ Cond.code mX5_meanUp.1 mX5_meanUp.2.1 mX5_meanUp.2.2.1 mX5_meanUp.2.2.2 ∈ br_W0) ∧ (Cond.instanceMethod mX5_meanUp.1 ∈ br_W0 ∧ Cond.selects mX5_meanUp.1.cls mX5_meanUp.1 mX5_meanUp.1 ∈ br_W0) ∧ (mX5_meanUp.1.cls ≠ "java/lang/invoke/MethodHandle" ∧ mX5_meanUp.1.cls ≠ "java/lang/invoke/VarHandle" ∧ (parseMethodDescriptor mX5_meanUp.1.desc).map (fun d => d.parameters.length) = some 2) ∧ mX5_meanUp.2.2.1 ≤ 10 := ⟨⟨(br_W0_in (i := 43) (by decide +kernel) (by decide +kernel)), (br_W0_in (i := 666) (by decide +kernel) (by decide +kernel))⟩, ⟨(br_W0_in (i := 665) (by decide +kernel) (by decide +kernel)), (br_W0_in (i := 24) (by decide +kernel) (by decide +kernel))⟩, ⟨by decide +kernel, by decide +kernel, by decide +kernel⟩, by decide⟩
theorem vcX5_128 : br_vc RX5 128 mX5_meanUp 2 := ⟨⟨(br_W0_in (i := 663) (by decide +kernel) (by decide +kernel)), mwX5_meanUp.1.1, mwX5_meanUp.1.2⟩, mwX5_meanUp.2⟩
theorem mwX5_waysOf : (Cond.initialized mX5_waysOf.1.cls ∈ br_W0 ∧ Cond.code mX5_waysOf.1 mX5_waysOf.2.1 mX5_waysOf.2.2.1 mX5_waysOf.2.2.2 ∈ br_W0) ∧ (Cond.instanceMethod mX5_waysOf.1 ∈ br_W0 ∧ Cond.selects mX5_waysOf.1.cls mX5_waysOf.1 mX5_waysOf.1 ∈ br_W0) ∧ (mX5_waysOf.1.cls ≠ "java/lang/invoke/MethodHandle" ∧ mX5_waysOf.1.cls ≠ "java/lang/invoke/VarHandle" ∧ (parseMethodDescriptor mX5_waysOf.1.desc).map (fun d => d.parameters.length) = some 3) ∧ mX5_waysOf.2.2.1 ≤ 10 := ⟨⟨(br_W0_in (i := 43) (by decide +kernel) (by decide +kernel)), (br_W0_in (i := 670) (by decide +kernel) (by decide +kernel))⟩, ⟨(br_W0_in (i := 669) (by decide +kernel) (by decide +kernel)), (br_W0_in (i := 25) (by decide +kernel) (by decide +kernel))⟩, ⟨by decide +kernel, by decide +kernel, by decide +kernel⟩, by decide⟩
theorem vcX5_125 : br_vc RX5 125 mX5_waysOf 3 := ⟨⟨(br_W0_in (i := 667) (by decide +kernel) (by decide +kernel)), mwX5_waysOf.1.1, mwX5_waysOf.1.2⟩, mwX5_waysOf.2⟩
theorem mwX5_powerOf : (Cond.initialized mX5_powerOf.1.cls ∈ br_W0 ∧ Cond.code mX5_powerOf.1 mX5_powerOf.2.1 mX5_powerOf.2.2.1 mX5_powerOf.2.2.2 ∈ br_W0) ∧ Cond.static mX5_powerOf.1 ∈ br_W0 ∧ (mX5_powerOf.1.cls ≠ "java/lang/invoke/MethodHandle" ∧ mX5_powerOf.1.cls ≠ "java/lang/invoke/VarHandle" ∧ (parseMethodDescriptor mX5_powerOf.1.desc).map (fun d => d.parameters.length) = some 1) ∧ mX5_powerOf.2.2.1 ≤ 10 := ⟨⟨(br_W0_in (i := 43) (by decide +kernel) (by decide +kernel)), (br_W0_in (i := 673) (by decide +kernel) (by decide +kernel))⟩, (br_W0_in (i := 672) (by decide +kernel) (by decide +kernel)), ⟨by decide +kernel, by decide +kernel, by decide +kernel⟩, by decide⟩
theorem scX5_132 : br_sc RX5 132 mX5_powerOf 1 := ⟨⟨(br_W0_in (i := 671) (by decide +kernel) (by decide +kernel)), mwX5_powerOf.1.1, mwX5_powerOf.1.2⟩, mwX5_powerOf.2⟩
theorem mwX5_common : (Cond.initialized mX5_common.1.cls ∈ br_W0 ∧ Cond.code mX5_common.1 mX5_common.2.1 mX5_common.2.2.1 mX5_common.2.2.2 ∈ br_W0) ∧ Cond.static mX5_common.1 ∈ br_W0 ∧ (mX5_common.1.cls ≠ "java/lang/invoke/MethodHandle" ∧ mX5_common.1.cls ≠ "java/lang/invoke/VarHandle" ∧ (parseMethodDescriptor mX5_common.1.desc).map (fun d => d.parameters.length) = some 2) ∧ mX5_common.2.2.1 ≤ 10 := ⟨⟨(br_W0_in (i := 43) (by decide +kernel) (by decide +kernel)), (br_W0_in (i := 676) (by decide +kernel) (by decide +kernel))⟩, (br_W0_in (i := 675) (by decide +kernel) (by decide +kernel)), ⟨by decide +kernel, by decide +kernel, by decide +kernel⟩, by decide⟩
theorem scX5_135 : br_sc RX5 135 mX5_common 2 := ⟨⟨(br_W0_in (i := 674) (by decide +kernel) (by decide +kernel)), mwX5_common.1.1, mwX5_common.1.2⟩, mwX5_common.2⟩
theorem mwX5_odds : (Cond.initialized mX5_odds.1.cls ∈ br_W0 ∧ Cond.code mX5_odds.1 mX5_odds.2.1 mX5_odds.2.2.1 mX5_odds.2.2.2 ∈ br_W0) ∧ (Cond.instanceMethod mX5_odds.1 ∈ br_W0 ∧ Cond.selects mX5_odds.1.cls mX5_odds.1 mX5_odds.1 ∈ br_W0) ∧ (mX5_odds.1.cls ≠ "java/lang/invoke/MethodHandle" ∧ mX5_odds.1.cls ≠ "java/lang/invoke/VarHandle" ∧ (parseMethodDescriptor mX5_odds.1.desc).map (fun d => d.parameters.length) = some 2) ∧ mX5_odds.2.2.1 ≤ 10 := ⟨⟨(br_W0_in (i := 43) (by decide +kernel) (by decide +kernel)), (br_W0_in (i := 680) (by decide +kernel) (by decide +kernel))⟩, ⟨(br_W0_in (i := 678) (by decide +kernel) (by decide +kernel)), (br_W0_in (i := 679) (by decide +kernel) (by decide +kernel))⟩, ⟨by decide +kernel, by decide +kernel, by decide +kernel⟩, by decide⟩
theorem vcL_67 : br_vc RL 67 mX5_odds 2 := ⟨⟨(br_W0_in (i := 677) (by decide +kernel) (by decide +kernel)), mwX5_odds.1.1, mwX5_odds.1.2⟩, mwX5_odds.2⟩
theorem mwX5_oddsOf : (Cond.initialized mX5_oddsOf.1.cls ∈ br_W0 ∧ Cond.code mX5_oddsOf.1 mX5_oddsOf.2.1 mX5_oddsOf.2.2.1 mX5_oddsOf.2.2.2 ∈ br_W0) ∧ (Cond.instanceMethod mX5_oddsOf.1 ∈ br_W0 ∧ Cond.selects mX5_oddsOf.1.cls mX5_oddsOf.1 mX5_oddsOf.1 ∈ br_W0) ∧ (mX5_oddsOf.1.cls ≠ "java/lang/invoke/MethodHandle" ∧ mX5_oddsOf.1.cls ≠ "java/lang/invoke/VarHandle" ∧ (parseMethodDescriptor mX5_oddsOf.1.desc).map (fun d => d.parameters.length) = some 2) ∧ mX5_oddsOf.2.2.1 ≤ 10 := ⟨⟨(br_W0_in (i := 43) (by decide +kernel) (by decide +kernel)), (br_W0_in (i := 686) (by decide +kernel) (by decide +kernel))⟩, ⟨(br_W0_in (i := 685) (by decide +kernel) (by decide +kernel)), (br_W0_in (i := 26) (by decide +kernel) (by decide +kernel))⟩, ⟨by decide +kernel, by decide +kernel, by decide +kernel⟩, by decide⟩
theorem vcX5_148 : br_vc RX5 148 mX5_oddsOf 2 := ⟨⟨(br_W0_in (i := 683) (by decide +kernel) (by decide +kernel)), mwX5_oddsOf.1.1, mwX5_oddsOf.1.2⟩, mwX5_oddsOf.2⟩
theorem mwX5_oddsUp : (Cond.initialized mX5_oddsUp.1.cls ∈ br_W0 ∧ Cond.code mX5_oddsUp.1 mX5_oddsUp.2.1 mX5_oddsUp.2.2.1 mX5_oddsUp.2.2.2 ∈ br_W0) ∧ (Cond.instanceMethod mX5_oddsUp.1 ∈ br_W0 ∧ Cond.selects mX5_oddsUp.1.cls mX5_oddsUp.1 mX5_oddsUp.1 ∈ br_W0) ∧ (mX5_oddsUp.1.cls ≠ "java/lang/invoke/MethodHandle" ∧ mX5_oddsUp.1.cls ≠ "java/lang/invoke/VarHandle" ∧ (parseMethodDescriptor mX5_oddsUp.1.desc).map (fun d => d.parameters.length) = some 3) ∧ mX5_oddsUp.2.2.1 ≤ 10 := ⟨⟨(br_W0_in (i := 43) (by decide +kernel) (by decide +kernel)), (br_W0_in (i := 690) (by decide +kernel) (by decide +kernel))⟩, ⟨(br_W0_in (i := 689) (by decide +kernel) (by decide +kernel)), (br_W0_in (i := 27) (by decide +kernel) (by decide +kernel))⟩, ⟨by decide +kernel, by decide +kernel, by decide +kernel⟩, by decide⟩
theorem vcX5_141 : br_vc RX5 141 mX5_oddsUp 3 := ⟨⟨(br_W0_in (i := 687) (by decide +kernel) (by decide +kernel)), mwX5_oddsUp.1.1, mwX5_oddsUp.1.2⟩, mwX5_oddsUp.2⟩
theorem mwX5_best : (Cond.initialized mX5_best.1.cls ∈ br_W0 ∧ Cond.code mX5_best.1 mX5_best.2.1 mX5_best.2.2.1 mX5_best.2.2.2 ∈ br_W0) ∧ (Cond.instanceMethod mX5_best.1 ∈ br_W0 ∧ Cond.selects mX5_best.1.cls mX5_best.1 mX5_best.1 ∈ br_W0) ∧ (mX5_best.1.cls ≠ "java/lang/invoke/MethodHandle" ∧ mX5_best.1.cls ≠ "java/lang/invoke/VarHandle" ∧ (parseMethodDescriptor mX5_best.1.desc).map (fun d => d.parameters.length) = some 2) ∧ mX5_best.2.2.1 ≤ 10 := ⟨⟨(br_W0_in (i := 43) (by decide +kernel) (by decide +kernel)), (br_W0_in (i := 694) (by decide +kernel) (by decide +kernel))⟩, ⟨(br_W0_in (i := 692) (by decide +kernel) (by decide +kernel)), (br_W0_in (i := 693) (by decide +kernel) (by decide +kernel))⟩, ⟨by decide +kernel, by decide +kernel, by decide +kernel⟩, by decide⟩
theorem vcL_71 : br_vc RL 71 mX5_best 2 := ⟨⟨(br_W0_in (i := 691) (by decide +kernel) (by decide +kernel)), mwX5_best.1.1, mwX5_best.1.2⟩, mwX5_best.2⟩
theorem mwX5_bestOf : (Cond.initialized mX5_bestOf.1.cls ∈ br_W0 ∧ Cond.code mX5_bestOf.1 mX5_bestOf.2.1 mX5_bestOf.2.2.1 mX5_bestOf.2.2.2 ∈ br_W0) ∧ (Cond.instanceMethod mX5_bestOf.1 ∈ br_W0 ∧ Cond.selects mX5_bestOf.1.cls mX5_bestOf.1 mX5_bestOf.1 ∈ br_W0) ∧ (mX5_bestOf.1.cls ≠ "java/lang/invoke/MethodHandle" ∧ mX5_bestOf.1.cls ≠ "java/lang/invoke/VarHandle" ∧ (parseMethodDescriptor mX5_bestOf.1.desc).map (fun d => d.parameters.length) = some 2) ∧ mX5_bestOf.2.2.1 ≤ 10 := ⟨⟨(br_W0_in (i := 43) (by decide +kernel) (by decide +kernel)), (br_W0_in (i := 701) (by decide +kernel) (by decide +kernel))⟩, ⟨(br_W0_in (i := 700) (by decide +kernel) (by decide +kernel)), (br_W0_in (i := 28) (by decide +kernel) (by decide +kernel))⟩, ⟨by decide +kernel, by decide +kernel, by decide +kernel⟩, by decide⟩
theorem vcX5_167 : br_vc RX5 167 mX5_bestOf 2 := ⟨⟨(br_W0_in (i := 698) (by decide +kernel) (by decide +kernel)), mwX5_bestOf.1.1, mwX5_bestOf.1.2⟩, mwX5_bestOf.2⟩
theorem mwX5_layRow : (Cond.initialized mX5_layRow.1.cls ∈ br_W0 ∧ Cond.code mX5_layRow.1 mX5_layRow.2.1 mX5_layRow.2.2.1 mX5_layRow.2.2.2 ∈ br_W0) ∧ (Cond.instanceMethod mX5_layRow.1 ∈ br_W0 ∧ Cond.selects mX5_layRow.1.cls mX5_layRow.1 mX5_layRow.1 ∈ br_W0) ∧ (mX5_layRow.1.cls ≠ "java/lang/invoke/MethodHandle" ∧ mX5_layRow.1.cls ≠ "java/lang/invoke/VarHandle" ∧ (parseMethodDescriptor mX5_layRow.1.desc).map (fun d => d.parameters.length) = some 2) ∧ mX5_layRow.2.2.1 ≤ 10 := ⟨⟨(br_W0_in (i := 43) (by decide +kernel) (by decide +kernel)), (br_W0_in (i := 705) (by decide +kernel) (by decide +kernel))⟩, ⟨(br_W0_in (i := 704) (by decide +kernel) (by decide +kernel)), (br_W0_in (i := 29) (by decide +kernel) (by decide +kernel))⟩, ⟨by decide +kernel, by decide +kernel, by decide +kernel⟩, by decide⟩
theorem vcX5_151 : br_vc RX5 151 mX5_layRow 2 := ⟨⟨(br_W0_in (i := 702) (by decide +kernel) (by decide +kernel)), mwX5_layRow.1.1, mwX5_layRow.1.2⟩, mwX5_layRow.2⟩
theorem mwX5_copy : (Cond.initialized mX5_copy.1.cls ∈ br_W0 ∧ Cond.code mX5_copy.1 mX5_copy.2.1 mX5_copy.2.2.1 mX5_copy.2.2.2 ∈ br_W0) ∧ Cond.static mX5_copy.1 ∈ br_W0 ∧ (mX5_copy.1.cls ≠ "java/lang/invoke/MethodHandle" ∧ mX5_copy.1.cls ≠ "java/lang/invoke/VarHandle" ∧ (parseMethodDescriptor mX5_copy.1.desc).map (fun d => d.parameters.length) = some 2) ∧ mX5_copy.2.2.1 ≤ 10 := ⟨⟨(br_W0_in (i := 43) (by decide +kernel) (by decide +kernel)), (br_W0_in (i := 708) (by decide +kernel) (by decide +kernel))⟩, (br_W0_in (i := 707) (by decide +kernel) (by decide +kernel)), ⟨by decide +kernel, by decide +kernel, by decide +kernel⟩, by decide⟩
theorem scX5_154 : br_sc RX5 154 mX5_copy 2 := ⟨⟨(br_W0_in (i := 706) (by decide +kernel) (by decide +kernel)), mwX5_copy.1.1, mwX5_copy.1.2⟩, mwX5_copy.2⟩
theorem mwX5_more : (Cond.initialized mX5_more.1.cls ∈ br_W0 ∧ Cond.code mX5_more.1 mX5_more.2.1 mX5_more.2.2.1 mX5_more.2.2.2 ∈ br_W0) ∧ (Cond.instanceMethod mX5_more.1 ∈ br_W0 ∧ Cond.selects mX5_more.1.cls mX5_more.1 mX5_more.1 ∈ br_W0) ∧ (mX5_more.1.cls ≠ "java/lang/invoke/MethodHandle" ∧ mX5_more.1.cls ≠ "java/lang/invoke/VarHandle" ∧ (parseMethodDescriptor mX5_more.1.desc).map (fun d => d.parameters.length) = some 1) ∧ mX5_more.2.2.1 ≤ 10 := ⟨⟨(br_W0_in (i := 43) (by decide +kernel) (by decide +kernel)), (br_W0_in (i := 712) (by decide +kernel) (by decide +kernel))⟩, ⟨(br_W0_in (i := 710) (by decide +kernel) (by decide +kernel)), (br_W0_in (i := 711) (by decide +kernel) (by decide +kernel))⟩, ⟨by decide +kernel, by decide +kernel, by decide +kernel⟩, by decide⟩
theorem vcL_75 : br_vc RL 75 mX5_more 1 := ⟨⟨(br_W0_in (i := 709) (by decide +kernel) (by decide +kernel)), mwX5_more.1.1, mwX5_more.1.2⟩, mwX5_more.2⟩
theorem mwX5_moreOf : (Cond.initialized mX5_moreOf.1.cls ∈ br_W0 ∧ Cond.code mX5_moreOf.1 mX5_moreOf.2.1 mX5_moreOf.2.2.1 mX5_moreOf.2.2.2 ∈ br_W0) ∧ (Cond.instanceMethod mX5_moreOf.1 ∈ br_W0 ∧ Cond.selects mX5_moreOf.1.cls mX5_moreOf.1 mX5_moreOf.1 ∈ br_W0) ∧ (mX5_moreOf.1.cls ≠ "java/lang/invoke/MethodHandle" ∧ mX5_moreOf.1.cls ≠ "java/lang/invoke/VarHandle" ∧ (parseMethodDescriptor mX5_moreOf.1.desc).map (fun d => d.parameters.length) = some 1) ∧ mX5_moreOf.2.2.1 ≤ 10 := ⟨⟨(br_W0_in (i := 43) (by decide +kernel) (by decide +kernel)), (br_W0_in (i := 716) (by decide +kernel) (by decide +kernel))⟩, ⟨(br_W0_in (i := 715) (by decide +kernel) (by decide +kernel)), (br_W0_in (i := 30) (by decide +kernel) (by decide +kernel))⟩, ⟨by decide +kernel, by decide +kernel, by decide +kernel⟩, by decide⟩
theorem vcX5_170 : br_vc RX5 170 mX5_moreOf 1 := ⟨⟨(br_W0_in (i := 713) (by decide +kernel) (by decide +kernel)), mwX5_moreOf.1.1, mwX5_moreOf.1.2⟩, mwX5_moreOf.2⟩
theorem mwX5_tryIt : (Cond.initialized mX5_tryIt.1.cls ∈ br_W0 ∧ Cond.code mX5_tryIt.1 mX5_tryIt.2.1 mX5_tryIt.2.2.1 mX5_tryIt.2.2.2 ∈ br_W0) ∧ (Cond.instanceMethod mX5_tryIt.1 ∈ br_W0 ∧ Cond.selects mX5_tryIt.1.cls mX5_tryIt.1 mX5_tryIt.1 ∈ br_W0) ∧ (mX5_tryIt.1.cls ≠ "java/lang/invoke/MethodHandle" ∧ mX5_tryIt.1.cls ≠ "java/lang/invoke/VarHandle" ∧ (parseMethodDescriptor mX5_tryIt.1.desc).map (fun d => d.parameters.length) = some 3) ∧ mX5_tryIt.2.2.1 ≤ 10 := ⟨⟨(br_W0_in (i := 43) (by decide +kernel) (by decide +kernel)), (br_W0_in (i := 720) (by decide +kernel) (by decide +kernel))⟩, ⟨(br_W0_in (i := 718) (by decide +kernel) (by decide +kernel)), (br_W0_in (i := 719) (by decide +kernel) (by decide +kernel))⟩, ⟨by decide +kernel, by decide +kernel, by decide +kernel⟩, by decide⟩
theorem vcL_80 : br_vc RL 80 mX5_tryIt 3 := ⟨⟨(br_W0_in (i := 717) (by decide +kernel) (by decide +kernel)), mwX5_tryIt.1.1, mwX5_tryIt.1.2⟩, mwX5_tryIt.2⟩
theorem mwX5_forget : (Cond.initialized mX5_forget.1.cls ∈ br_W0 ∧ Cond.code mX5_forget.1 mX5_forget.2.1 mX5_forget.2.2.1 mX5_forget.2.2.2 ∈ br_W0) ∧ (Cond.instanceMethod mX5_forget.1 ∈ br_W0 ∧ Cond.selects mX5_forget.1.cls mX5_forget.1 mX5_forget.1 ∈ br_W0) ∧ (mX5_forget.1.cls ≠ "java/lang/invoke/MethodHandle" ∧ mX5_forget.1.cls ≠ "java/lang/invoke/VarHandle" ∧ (parseMethodDescriptor mX5_forget.1.desc).map (fun d => d.parameters.length) = some 0) ∧ mX5_forget.2.2.1 ≤ 10 := ⟨⟨(br_W0_in (i := 43) (by decide +kernel) (by decide +kernel)), (br_W0_in (i := 724) (by decide +kernel) (by decide +kernel))⟩, ⟨(br_W0_in (i := 722) (by decide +kernel) (by decide +kernel)), (br_W0_in (i := 723) (by decide +kernel) (by decide +kernel))⟩, ⟨by decide +kernel, by decide +kernel, by decide +kernel⟩, by decide⟩
theorem vcL_84 : br_vc RL 84 mX5_forget 0 := ⟨⟨(br_W0_in (i := 721) (by decide +kernel) (by decide +kernel)), mwX5_forget.1.1, mwX5_forget.1.2⟩, mwX5_forget.2⟩
theorem mwX5_meets : (Cond.initialized mX5_meets.1.cls ∈ br_W0 ∧ Cond.code mX5_meets.1 mX5_meets.2.1 mX5_meets.2.2.1 mX5_meets.2.2.2 ∈ br_W0) ∧ (Cond.instanceMethod mX5_meets.1 ∈ br_W0 ∧ Cond.selects mX5_meets.1.cls mX5_meets.1 mX5_meets.1 ∈ br_W0) ∧ (mX5_meets.1.cls ≠ "java/lang/invoke/MethodHandle" ∧ mX5_meets.1.cls ≠ "java/lang/invoke/VarHandle" ∧ (parseMethodDescriptor mX5_meets.1.desc).map (fun d => d.parameters.length) = some 3) ∧ mX5_meets.2.2.1 ≤ 10 := ⟨⟨(br_W0_in (i := 43) (by decide +kernel) (by decide +kernel)), (br_W0_in (i := 728) (by decide +kernel) (by decide +kernel))⟩, ⟨(br_W0_in (i := 726) (by decide +kernel) (by decide +kernel)), (br_W0_in (i := 727) (by decide +kernel) (by decide +kernel))⟩, ⟨by decide +kernel, by decide +kernel, by decide +kernel⟩, by decide⟩
theorem vcL_89 : br_vc RL 89 mX5_meets 3 := ⟨⟨(br_W0_in (i := 725) (by decide +kernel) (by decide +kernel)), mwX5_meets.1.1, mwX5_meets.1.2⟩, mwX5_meets.2⟩
theorem mwX5_draw : (Cond.initialized mX5_draw.1.cls ∈ br_W0 ∧ Cond.code mX5_draw.1 mX5_draw.2.1 mX5_draw.2.2.1 mX5_draw.2.2.2 ∈ br_W0) ∧ (Cond.instanceMethod mX5_draw.1 ∈ br_W0 ∧ Cond.selects mX5_draw.1.cls mX5_draw.1 mX5_draw.1 ∈ br_W0) ∧ (mX5_draw.1.cls ≠ "java/lang/invoke/MethodHandle" ∧ mX5_draw.1.cls ≠ "java/lang/invoke/VarHandle" ∧ (parseMethodDescriptor mX5_draw.1.desc).map (fun d => d.parameters.length) = some 1) ∧ mX5_draw.2.2.1 ≤ 10 := ⟨⟨(br_W0_in (i := 43) (by decide +kernel) (by decide +kernel)), (br_W0_in (i := 734) (by decide +kernel) (by decide +kernel))⟩, ⟨(br_W0_in (i := 733) (by decide +kernel) (by decide +kernel)), (br_W0_in (i := 31) (by decide +kernel) (by decide +kernel))⟩, ⟨by decide +kernel, by decide +kernel, by decide +kernel⟩, by decide⟩
theorem vcX5_191 : br_vc RX5 191 mX5_draw 1 := ⟨⟨(br_W0_in (i := 731) (by decide +kernel) (by decide +kernel)), mwX5_draw.1.1, mwX5_draw.1.2⟩, mwX5_draw.2⟩
theorem mwX5_image : (Cond.initialized mX5_image.1.cls ∈ br_W0 ∧ Cond.code mX5_image.1 mX5_image.2.1 mX5_image.2.2.1 mX5_image.2.2.2 ∈ br_W0) ∧ (Cond.instanceMethod mX5_image.1 ∈ br_W0 ∧ Cond.selects mX5_image.1.cls mX5_image.1 mX5_image.1 ∈ br_W0) ∧ (mX5_image.1.cls ≠ "java/lang/invoke/MethodHandle" ∧ mX5_image.1.cls ≠ "java/lang/invoke/VarHandle" ∧ (parseMethodDescriptor mX5_image.1.desc).map (fun d => d.parameters.length) = some 0) ∧ mX5_image.2.2.1 ≤ 10 := ⟨⟨(br_W0_in (i := 43) (by decide +kernel) (by decide +kernel)), (br_W0_in (i := 742) (by decide +kernel) (by decide +kernel))⟩, ⟨(br_W0_in (i := 740) (by decide +kernel) (by decide +kernel)), (br_W0_in (i := 741) (by decide +kernel) (by decide +kernel))⟩, ⟨by decide +kernel, by decide +kernel, by decide +kernel⟩, by decide⟩
theorem vcL_93 : br_vc RL 93 mX5_image 0 := ⟨⟨(br_W0_in (i := 739) (by decide +kernel) (by decide +kernel)), mwX5_image.1.1, mwX5_image.1.2⟩, mwX5_image.2⟩
theorem mwX5_restore : (Cond.initialized mX5_restore.1.cls ∈ br_W0 ∧ Cond.code mX5_restore.1 mX5_restore.2.1 mX5_restore.2.2.1 mX5_restore.2.2.2 ∈ br_W0) ∧ (Cond.instanceMethod mX5_restore.1 ∈ br_W0 ∧ Cond.selects mX5_restore.1.cls mX5_restore.1 mX5_restore.1 ∈ br_W0) ∧ (mX5_restore.1.cls ≠ "java/lang/invoke/MethodHandle" ∧ mX5_restore.1.cls ≠ "java/lang/invoke/VarHandle" ∧ (parseMethodDescriptor mX5_restore.1.desc).map (fun d => d.parameters.length) = some 0) ∧ mX5_restore.2.2.1 ≤ 10 := ⟨⟨(br_W0_in (i := 43) (by decide +kernel) (by decide +kernel)), (br_W0_in (i := 746) (by decide +kernel) (by decide +kernel))⟩, ⟨(br_W0_in (i := 744) (by decide +kernel) (by decide +kernel)), (br_W0_in (i := 745) (by decide +kernel) (by decide +kernel))⟩, ⟨by decide +kernel, by decide +kernel, by decide +kernel⟩, by decide⟩
theorem vcL_97 : br_vc RL 97 mX5_restore 0 := ⟨⟨(br_W0_in (i := 743) (by decide +kernel) (by decide +kernel)), mwX5_restore.1.1, mwX5_restore.1.2⟩, mwX5_restore.2⟩
theorem mwX5_count : (Cond.initialized mX5_count.1.cls ∈ br_W0 ∧ Cond.code mX5_count.1 mX5_count.2.1 mX5_count.2.2.1 mX5_count.2.2.2 ∈ br_W0) ∧ (Cond.instanceMethod mX5_count.1 ∈ br_W0 ∧ Cond.selects mX5_count.1.cls mX5_count.1 mX5_count.1 ∈ br_W0) ∧ (mX5_count.1.cls ≠ "java/lang/invoke/MethodHandle" ∧ mX5_count.1.cls ≠ "java/lang/invoke/VarHandle" ∧ (parseMethodDescriptor mX5_count.1.desc).map (fun d => d.parameters.length) = some 1) ∧ mX5_count.2.2.1 ≤ 10 := ⟨⟨(br_W0_in (i := 43) (by decide +kernel) (by decide +kernel)), (br_W0_in (i := 750) (by decide +kernel) (by decide +kernel))⟩, ⟨(br_W0_in (i := 748) (by decide +kernel) (by decide +kernel)), (br_W0_in (i := 749) (by decide +kernel) (by decide +kernel))⟩, ⟨by decide +kernel, by decide +kernel, by decide +kernel⟩, by decide⟩
theorem vcL_101 : br_vc RL 101 mX5_count 1 := ⟨⟨(br_W0_in (i := 747) (by decide +kernel) (by decide +kernel)), mwX5_count.1.1, mwX5_count.1.2⟩, mwX5_count.2⟩
theorem mwX5_countOf : (Cond.initialized mX5_countOf.1.cls ∈ br_W0 ∧ Cond.code mX5_countOf.1 mX5_countOf.2.1 mX5_countOf.2.2.1 mX5_countOf.2.2.2 ∈ br_W0) ∧ (Cond.instanceMethod mX5_countOf.1 ∈ br_W0 ∧ Cond.selects mX5_countOf.1.cls mX5_countOf.1 mX5_countOf.1 ∈ br_W0) ∧ (mX5_countOf.1.cls ≠ "java/lang/invoke/MethodHandle" ∧ mX5_countOf.1.cls ≠ "java/lang/invoke/VarHandle" ∧ (parseMethodDescriptor mX5_countOf.1.desc).map (fun d => d.parameters.length) = some 1) ∧ mX5_countOf.2.2.1 ≤ 10 := ⟨⟨(br_W0_in (i := 43) (by decide +kernel) (by decide +kernel)), (br_W0_in (i := 754) (by decide +kernel) (by decide +kernel))⟩, ⟨(br_W0_in (i := 753) (by decide +kernel) (by decide +kernel)), (br_W0_in (i := 32) (by decide +kernel) (by decide +kernel))⟩, ⟨by decide +kernel, by decide +kernel, by decide +kernel⟩, by decide⟩
theorem vcX5_212 : br_vc RX5 212 mX5_countOf 1 := ⟨⟨(br_W0_in (i := 751) (by decide +kernel) (by decide +kernel)), mwX5_countOf.1.1, mwX5_countOf.1.2⟩, mwX5_countOf.2⟩
theorem mwX5_flightsIn : (Cond.initialized mX5_flightsIn.1.cls ∈ br_W0 ∧ Cond.code mX5_flightsIn.1 mX5_flightsIn.2.1 mX5_flightsIn.2.2.1 mX5_flightsIn.2.2.2 ∈ br_W0) ∧ (Cond.instanceMethod mX5_flightsIn.1 ∈ br_W0 ∧ Cond.selects mX5_flightsIn.1.cls mX5_flightsIn.1 mX5_flightsIn.1 ∈ br_W0) ∧ (mX5_flightsIn.1.cls ≠ "java/lang/invoke/MethodHandle" ∧ mX5_flightsIn.1.cls ≠ "java/lang/invoke/VarHandle" ∧ (parseMethodDescriptor mX5_flightsIn.1.desc).map (fun d => d.parameters.length) = some 0) ∧ mX5_flightsIn.2.2.1 ≤ 10 := ⟨⟨(br_W0_in (i := 43) (by decide +kernel) (by decide +kernel)), (br_W0_in (i := 758) (by decide +kernel) (by decide +kernel))⟩, ⟨(br_W0_in (i := 757) (by decide +kernel) (by decide +kernel)), (br_W0_in (i := 33) (by decide +kernel) (by decide +kernel))⟩, ⟨by decide +kernel, by decide +kernel, by decide +kernel⟩, by decide⟩
theorem vcX5_203 : br_vc RX5 203 mX5_flightsIn 0 := ⟨⟨(br_W0_in (i := 755) (by decide +kernel) (by decide +kernel)), mwX5_flightsIn.1.1, mwX5_flightsIn.1.2⟩, mwX5_flightsIn.2⟩
theorem mwX5_turnsIn : (Cond.initialized mX5_turnsIn.1.cls ∈ br_W0 ∧ Cond.code mX5_turnsIn.1 mX5_turnsIn.2.1 mX5_turnsIn.2.2.1 mX5_turnsIn.2.2.2 ∈ br_W0) ∧ (Cond.instanceMethod mX5_turnsIn.1 ∈ br_W0 ∧ Cond.selects mX5_turnsIn.1.cls mX5_turnsIn.1 mX5_turnsIn.1 ∈ br_W0) ∧ (mX5_turnsIn.1.cls ≠ "java/lang/invoke/MethodHandle" ∧ mX5_turnsIn.1.cls ≠ "java/lang/invoke/VarHandle" ∧ (parseMethodDescriptor mX5_turnsIn.1.desc).map (fun d => d.parameters.length) = some 0) ∧ mX5_turnsIn.2.2.1 ≤ 10 := ⟨⟨(br_W0_in (i := 43) (by decide +kernel) (by decide +kernel)), (br_W0_in (i := 762) (by decide +kernel) (by decide +kernel))⟩, ⟨(br_W0_in (i := 761) (by decide +kernel) (by decide +kernel)), (br_W0_in (i := 34) (by decide +kernel) (by decide +kernel))⟩, ⟨by decide +kernel, by decide +kernel, by decide +kernel⟩, by decide⟩
theorem vcX5_206 : br_vc RX5 206 mX5_turnsIn 0 := ⟨⟨(br_W0_in (i := 759) (by decide +kernel) (by decide +kernel)), mwX5_turnsIn.1.1, mwX5_turnsIn.1.2⟩, mwX5_turnsIn.2⟩
theorem mwX5_joinsIn : (Cond.initialized mX5_joinsIn.1.cls ∈ br_W0 ∧ Cond.code mX5_joinsIn.1 mX5_joinsIn.2.1 mX5_joinsIn.2.2.1 mX5_joinsIn.2.2.2 ∈ br_W0) ∧ (Cond.instanceMethod mX5_joinsIn.1 ∈ br_W0 ∧ Cond.selects mX5_joinsIn.1.cls mX5_joinsIn.1 mX5_joinsIn.1 ∈ br_W0) ∧ (mX5_joinsIn.1.cls ≠ "java/lang/invoke/MethodHandle" ∧ mX5_joinsIn.1.cls ≠ "java/lang/invoke/VarHandle" ∧ (parseMethodDescriptor mX5_joinsIn.1.desc).map (fun d => d.parameters.length) = some 0) ∧ mX5_joinsIn.2.2.1 ≤ 10 := ⟨⟨(br_W0_in (i := 43) (by decide +kernel) (by decide +kernel)), (br_W0_in (i := 766) (by decide +kernel) (by decide +kernel))⟩, ⟨(br_W0_in (i := 765) (by decide +kernel) (by decide +kernel)), (br_W0_in (i := 35) (by decide +kernel) (by decide +kernel))⟩, ⟨by decide +kernel, by decide +kernel, by decide +kernel⟩, by decide⟩
theorem vcX5_209 : br_vc RX5 209 mX5_joinsIn 0 := ⟨⟨(br_W0_in (i := 763) (by decide +kernel) (by decide +kernel)), mwX5_joinsIn.1.1, mwX5_joinsIn.1.2⟩, mwX5_joinsIn.2⟩
theorem mwX5_digest : (Cond.initialized mX5_digest.1.cls ∈ br_W0 ∧ Cond.code mX5_digest.1 mX5_digest.2.1 mX5_digest.2.2.1 mX5_digest.2.2.2 ∈ br_W0) ∧ (Cond.instanceMethod mX5_digest.1 ∈ br_W0 ∧ Cond.selects mX5_digest.1.cls mX5_digest.1 mX5_digest.1 ∈ br_W0) ∧ (mX5_digest.1.cls ≠ "java/lang/invoke/MethodHandle" ∧ mX5_digest.1.cls ≠ "java/lang/invoke/VarHandle" ∧ (parseMethodDescriptor mX5_digest.1.desc).map (fun d => d.parameters.length) = some 0) ∧ mX5_digest.2.2.1 ≤ 10 := ⟨⟨(br_W0_in (i := 43) (by decide +kernel) (by decide +kernel)), (br_W0_in (i := 770) (by decide +kernel) (by decide +kernel))⟩, ⟨(br_W0_in (i := 768) (by decide +kernel) (by decide +kernel)), (br_W0_in (i := 769) (by decide +kernel) (by decide +kernel))⟩, ⟨by decide +kernel, by decide +kernel, by decide +kernel⟩, by decide⟩
theorem vcL_106 : br_vc RL 106 mX5_digest 0 := ⟨⟨(br_W0_in (i := 767) (by decide +kernel) (by decide +kernel)), mwX5_digest.1.1, mwX5_digest.1.2⟩, mwX5_digest.2⟩
theorem mwX5_say : (Cond.initialized mX5_say.1.cls ∈ br_W0 ∧ Cond.code mX5_say.1 mX5_say.2.1 mX5_say.2.2.1 mX5_say.2.2.2 ∈ br_W0) ∧ (Cond.instanceMethod mX5_say.1 ∈ br_W0 ∧ Cond.selects mX5_say.1.cls mX5_say.1 mX5_say.1 ∈ br_W0) ∧ (mX5_say.1.cls ≠ "java/lang/invoke/MethodHandle" ∧ mX5_say.1.cls ≠ "java/lang/invoke/VarHandle" ∧ (parseMethodDescriptor mX5_say.1.desc).map (fun d => d.parameters.length) = some 1) ∧ mX5_say.2.2.1 ≤ 10 := ⟨⟨(br_W0_in (i := 43) (by decide +kernel) (by decide +kernel)), (br_W0_in (i := 775) (by decide +kernel) (by decide +kernel))⟩, ⟨(br_W0_in (i := 774) (by decide +kernel) (by decide +kernel)), (br_W0_in (i := 36) (by decide +kernel) (by decide +kernel))⟩, ⟨by decide +kernel, by decide +kernel, by decide +kernel⟩, by decide⟩
theorem vcX5_223 : br_vc RX5 223 mX5_say 1 := ⟨⟨(br_W0_in (i := 772) (by decide +kernel) (by decide +kernel)), mwX5_say.1.1, mwX5_say.1.2⟩, mwX5_say.2⟩
theorem klX4_218 : Cond.constantLong RX4 218 (1103515245) ∈ br_W0 := (br_W0_in (i := 426) (by decide +kernel) (by decide +kernel))
theorem klX4_220 : Cond.constantLong RX4 220 (12345) ∈ br_W0 := (br_W0_in (i := 427) (by decide +kernel) (by decide +kernel))
theorem klX4_222 : Cond.constantLong RX4 222 (2147483648) ∈ br_W0 := (br_W0_in (i := 428) (by decide +kernel) (by decide +kernel))
theorem kiX4_224 : Cond.constant RX4 224 (65536) ∈ br_W0 := (br_W0_in (i := 432) (by decide +kernel) (by decide +kernel))
theorem klX4_191 : Cond.constantLong RX4 191 (1033) ∈ br_W0 := (br_W0_in (i := 458) (by decide +kernel) (by decide +kernel))
theorem klX4_216 : Cond.constantLong RX4 216 (31) ∈ br_W0 := (br_W0_in (i := 463) (by decide +kernel) (by decide +kernel))
theorem klX5_38 : Cond.constantLong RX5 38 (126) ∈ br_W0 := (br_W0_in (i := 543) (by decide +kernel) (by decide +kernel))
theorem klX5_51 : Cond.constantLong RX5 51 (49) ∈ br_W0 := (br_W0_in (i := 565) (by decide +kernel) (by decide +kernel))
theorem klX5_53 : Cond.constantLong RX5 53 (57) ∈ br_W0 := (br_W0_in (i := 566) (by decide +kernel) (by decide +kernel))
theorem klX5_102 : Cond.constantLong RX5 102 (4) ∈ br_W0 := (br_W0_in (i := 610) (by decide +kernel) (by decide +kernel))
theorem klX5_144 : Cond.constantLong RX5 144 (-100) ∈ br_W0 := (br_W0_in (i := 681) (by decide +kernel) (by decide +kernel))
theorem klX5_146 : Cond.constantLong RX5 146 (100) ∈ br_W0 := (br_W0_in (i := 682) (by decide +kernel) (by decide +kernel))
theorem klX5_158 : Cond.constantLong RX5 158 (3) ∈ br_W0 := (br_W0_in (i := 695) (by decide +kernel) (by decide +kernel))
theorem klX5_160 : Cond.constantLong RX5 160 (10) ∈ br_W0 := (br_W0_in (i := 696) (by decide +kernel) (by decide +kernel))
theorem klX5_162 : Cond.constantLong RX5 162 (12) ∈ br_W0 := (br_W0_in (i := 697) (by decide +kernel) (by decide +kernel))
theorem klX5_187 : Cond.constantLong RX5 187 (60) ∈ br_W0 := (br_W0_in (i := 729) (by decide +kernel) (by decide +kernel))
theorem klX5_189 : Cond.constantLong RX5 189 (2) ∈ br_W0 := (br_W0_in (i := 730) (by decide +kernel) (by decide +kernel))
theorem klX5_177 : Cond.constantLong RX5 177 (1103515245) ∈ br_W0 := (br_W0_in (i := 735) (by decide +kernel) (by decide +kernel))
theorem klX5_182 : Cond.constantLong RX5 182 (12345) ∈ br_W0 := (br_W0_in (i := 736) (by decide +kernel) (by decide +kernel))
theorem klX5_184 : Cond.constantLong RX5 184 (2147483647) ∈ br_W0 := (br_W0_in (i := 737) (by decide +kernel) (by decide +kernel))
theorem kiX5_186 : Cond.constant RX5 186 (65536) ∈ br_W0 := (br_W0_in (i := 738) (by decide +kernel) (by decide +kernel))
theorem klX5_221 : Cond.constantLong RX5 221 (1033) ∈ br_W0 := (br_W0_in (i := 771) (by decide +kernel) (by decide +kernel))
theorem klX5_215 : Cond.constantLong RX5 215 (31) ∈ br_W0 := (br_W0_in (i := 776) (by decide +kernel) (by decide +kernel))
end
