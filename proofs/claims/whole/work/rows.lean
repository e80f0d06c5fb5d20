section
-- ===== PART A: goes FIRST, ahead of the names: the tables' words, and 'selects' of the private methods out of them =====
/-- a private method of a class that the tables say can be made, by its rows of tables_1 -/
def lw_okq (q : MethodName × Nat) : Prop := (q.1.cls ≠ "java/lang/invoke/MethodHandle" ∧ q.1.cls ≠ "java/lang/invoke/VarHandle") ∧ Cond.instantiable q.1.cls q.2 ∈ tables_1 ∧ Cond.privateMethod q.1 ∈ tables_1 ∧ Cond.instanceMethod q.1 ∈ tables_1
theorem lw_p0 : lw_okq (⟨"BarRoutine$Tries", "likelihood", "(II)I"⟩, 5) := ⟨⟨by decide +kernel, by decide +kernel⟩, List.mem_of_getElem? (i := 70) (by decide +kernel), List.mem_of_getElem? (i := 232) (by decide +kernel), List.mem_of_getElem? (i := 233) (by decide +kernel)⟩
theorem lw_p1 : lw_okq (⟨"BarRoutine", "noGym", "()Z"⟩, 13) := ⟨⟨by decide +kernel, by decide +kernel⟩, List.mem_of_getElem? (i := 9) (by decide +kernel), List.mem_of_getElem? (i := 284) (by decide +kernel), List.mem_of_getElem? (i := 285) (by decide +kernel)⟩
theorem lw_p2 : lw_okq (⟨"BarRoutine$Routine", "gained", "(I)I"⟩, 3) := ⟨⟨by decide +kernel, by decide +kernel⟩, List.mem_of_getElem? (i := 53) (by decide +kernel), List.mem_of_getElem? (i := 292) (by decide +kernel), List.mem_of_getElem? (i := 293) (by decide +kernel)⟩
theorem lw_p3 : lw_okq (⟨"BarRoutine$Routine", "joinWorth", "(I)I"⟩, 3) := ⟨⟨by decide +kernel, by decide +kernel⟩, List.mem_of_getElem? (i := 53) (by decide +kernel), List.mem_of_getElem? (i := 297) (by decide +kernel), List.mem_of_getElem? (i := 298) (by decide +kernel)⟩
theorem lw_p4 : lw_okq (⟨"BarRoutine$Routine", "lackingPenalty", "()I"⟩, 3) := ⟨⟨by decide +kernel, by decide +kernel⟩, List.mem_of_getElem? (i := 53) (by decide +kernel), List.mem_of_getElem? (i := 302) (by decide +kernel), List.mem_of_getElem? (i := 303) (by decide +kernel)⟩
theorem lw_p5 : lw_okq (⟨"BarRoutine$Routine", "partsOf", "(I)I"⟩, 3) := ⟨⟨by decide +kernel, by decide +kernel⟩, List.mem_of_getElem? (i := 53) (by decide +kernel), List.mem_of_getElem? (i := 339) (by decide +kernel), List.mem_of_getElem? (i := 340) (by decide +kernel)⟩
theorem lw_p6 : lw_okq (⟨"BarRoutine", "findFinest", "(I)V"⟩, 13) := ⟨⟨by decide +kernel, by decide +kernel⟩, List.mem_of_getElem? (i := 9) (by decide +kernel), List.mem_of_getElem? (i := 351) (by decide +kernel), List.mem_of_getElem? (i := 352) (by decide +kernel)⟩
theorem lw_p7 : lw_okq (⟨"BarRoutine", "picksOf", "(I)I"⟩, 13) := ⟨⟨by decide +kernel, by decide +kernel⟩, List.mem_of_getElem? (i := 9) (by decide +kernel), List.mem_of_getElem? (i := 355) (by decide +kernel), List.mem_of_getElem? (i := 356) (by decide +kernel)⟩
theorem lw_p8 : lw_okq (⟨"BarRoutine", "pickByNumber", "(II)Z"⟩, 13) := ⟨⟨by decide +kernel, by decide +kernel⟩, List.mem_of_getElem? (i := 9) (by decide +kernel), List.mem_of_getElem? (i := 359) (by decide +kernel), List.mem_of_getElem? (i := 360) (by decide +kernel)⟩
theorem lw_p9 : lw_okq (⟨"BarRoutineModel", "faultOf", "()I"⟩, 21) := ⟨⟨by decide +kernel, by decide +kernel⟩, List.mem_of_getElem? (i := 433) (by decide +kernel), List.mem_of_getElem? (i := 519) (by decide +kernel), List.mem_of_getElem? (i := 520) (by decide +kernel)⟩
theorem lw_p10 : lw_okq (⟨"BarRoutineModel", "isPiece", "(I)Z"⟩, 21) := ⟨⟨by decide +kernel, by decide +kernel⟩, List.mem_of_getElem? (i := 433) (by decide +kernel), List.mem_of_getElem? (i := 539) (by decide +kernel), List.mem_of_getElem? (i := 540) (by decide +kernel)⟩
theorem lw_p11 : lw_okq (⟨"BarRoutineModel", "tell", "(II)I"⟩, 21) := ⟨⟨by decide +kernel, by decide +kernel⟩, List.mem_of_getElem? (i := 433) (by decide +kernel), List.mem_of_getElem? (i := 543) (by decide +kernel), List.mem_of_getElem? (i := 544) (by decide +kernel)⟩
theorem lw_p12 : lw_okq (⟨"BarRoutineModel", "placeOf", "(I)I"⟩, 21) := ⟨⟨by decide +kernel, by decide +kernel⟩, List.mem_of_getElem? (i := 433) (by decide +kernel), List.mem_of_getElem? (i := 547) (by decide +kernel), List.mem_of_getElem? (i := 548) (by decide +kernel)⟩
theorem lw_p13 : lw_okq (⟨"BarRoutineModel", "tenthsOf", "(II)I"⟩, 21) := ⟨⟨by decide +kernel, by decide +kernel⟩, List.mem_of_getElem? (i := 433) (by decide +kernel), List.mem_of_getElem? (i := 551) (by decide +kernel), List.mem_of_getElem? (i := 552) (by decide +kernel)⟩
theorem lw_p14 : lw_okq (⟨"BarRoutineModel", "sureOf", "(I)I"⟩, 21) := ⟨⟨by decide +kernel, by decide +kernel⟩, List.mem_of_getElem? (i := 433) (by decide +kernel), List.mem_of_getElem? (i := 558) (by decide +kernel), List.mem_of_getElem? (i := 559) (by decide +kernel)⟩
theorem lw_p15 : lw_okq (⟨"BarRoutineModel", "triedWays", "(II)J"⟩, 21) := ⟨⟨by decide +kernel, by decide +kernel⟩, List.mem_of_getElem? (i := 433) (by decide +kernel), List.mem_of_getElem? (i := 562) (by decide +kernel), List.mem_of_getElem? (i := 563) (by decide +kernel)⟩
def lw_privs_1 : List (MethodName × Nat) := [(⟨"BarRoutine$Tries", "likelihood", "(II)I"⟩, 5), (⟨"BarRoutine", "noGym", "()Z"⟩, 13), (⟨"BarRoutine$Routine", "gained", "(I)I"⟩, 3), (⟨"BarRoutine$Routine", "joinWorth", "(I)I"⟩, 3), (⟨"BarRoutine$Routine", "lackingPenalty", "()I"⟩, 3), (⟨"BarRoutine$Routine", "partsOf", "(I)I"⟩, 3), (⟨"BarRoutine", "findFinest", "(I)V"⟩, 13), (⟨"BarRoutine", "picksOf", "(I)I"⟩, 13), (⟨"BarRoutine", "pickByNumber", "(II)Z"⟩, 13), (⟨"BarRoutineModel", "faultOf", "()I"⟩, 21), (⟨"BarRoutineModel", "isPiece", "(I)Z"⟩, 21), (⟨"BarRoutineModel", "tell", "(II)I"⟩, 21), (⟨"BarRoutineModel", "placeOf", "(I)I"⟩, 21), (⟨"BarRoutineModel", "tenthsOf", "(II)I"⟩, 21), (⟨"BarRoutineModel", "sureOf", "(I)I"⟩, 21), (⟨"BarRoutineModel", "triedWays", "(II)J"⟩, 21)]
theorem lw_r1 : ∀ q ∈ lw_privs_1, lw_okq q := List.forall_mem_cons.mpr ⟨lw_p0, List.forall_mem_cons.mpr ⟨lw_p1, List.forall_mem_cons.mpr ⟨lw_p2, List.forall_mem_cons.mpr ⟨lw_p3, List.forall_mem_cons.mpr ⟨lw_p4, List.forall_mem_cons.mpr ⟨lw_p5, List.forall_mem_cons.mpr ⟨lw_p6, List.forall_mem_cons.mpr ⟨lw_p7, List.forall_mem_cons.mpr ⟨lw_p8, List.forall_mem_cons.mpr ⟨lw_p9, List.forall_mem_cons.mpr ⟨lw_p10, List.forall_mem_cons.mpr ⟨lw_p11, List.forall_mem_cons.mpr ⟨lw_p12, List.forall_mem_cons.mpr ⟨lw_p13, List.forall_mem_cons.mpr ⟨lw_p14, List.forall_mem_cons.mpr ⟨lw_p15, fun _ h => absurd h List.not_mem_nil⟩⟩⟩⟩⟩⟩⟩⟩⟩⟩⟩⟩⟩⟩⟩⟩
theorem lw_p16 : lw_okq (⟨"BarRoutineModel", "likelyOf", "(I)I"⟩, 21) := ⟨⟨by decide +kernel, by decide +kernel⟩, List.mem_of_getElem? (i := 433) (by decide +kernel), List.mem_of_getElem? (i := 566) (by decide +kernel), List.mem_of_getElem? (i := 567) (by decide +kernel)⟩
theorem lw_p17 : lw_okq (⟨"BarRoutineModel", "isPlace", "(I)Z"⟩, 21) := ⟨⟨by decide +kernel, by decide +kernel⟩, List.mem_of_getElem? (i := 433) (by decide +kernel), List.mem_of_getElem? (i := 583) (by decide +kernel), List.mem_of_getElem? (i := 584) (by decide +kernel)⟩
theorem lw_p18 : lw_okq (⟨"BarRoutineModel", "lacks", "()Z"⟩, 21) := ⟨⟨by decide +kernel, by decide +kernel⟩, List.mem_of_getElem? (i := 433) (by decide +kernel), List.mem_of_getElem? (i := 599) (by decide +kernel), List.mem_of_getElem? (i := 600) (by decide +kernel)⟩
theorem lw_p19 : lw_okq (⟨"BarRoutineModel", "scoreOf", "([III)I"⟩, 21) := ⟨⟨by decide +kernel, by decide +kernel⟩, List.mem_of_getElem? (i := 433) (by decide +kernel), List.mem_of_getElem? (i := 603) (by decide +kernel), List.mem_of_getElem? (i := 604) (by decide +kernel)⟩
theorem lw_p20 : lw_okq (⟨"BarRoutineModel", "isFlight", "(I)Z"⟩, 21) := ⟨⟨by decide +kernel, by decide +kernel⟩, List.mem_of_getElem? (i := 433) (by decide +kernel), List.mem_of_getElem? (i := 607) (by decide +kernel), List.mem_of_getElem? (i := 608) (by decide +kernel)⟩
theorem lw_p21 : lw_okq (⟨"BarRoutineModel", "isTurn", "(I)Z"⟩, 21) := ⟨⟨by decide +kernel, by decide +kernel⟩, List.mem_of_getElem? (i := 433) (by decide +kernel), List.mem_of_getElem? (i := 611) (by decide +kernel), List.mem_of_getElem? (i := 612) (by decide +kernel)⟩
theorem lw_p22 : lw_okq (⟨"BarRoutineModel", "joins", "([III)Z"⟩, 21) := ⟨⟨by decide +kernel, by decide +kernel⟩, List.mem_of_getElem? (i := 433) (by decide +kernel), List.mem_of_getElem? (i := 615) (by decide +kernel), List.mem_of_getElem? (i := 616) (by decide +kernel)⟩
theorem lw_p23 : lw_okq (⟨"BarRoutineModel", "meanOf", "([III)I"⟩, 21) := ⟨⟨by decide +kernel, by decide +kernel⟩, List.mem_of_getElem? (i := 433) (by decide +kernel), List.mem_of_getElem? (i := 623) (by decide +kernel), List.mem_of_getElem? (i := 624) (by decide +kernel)⟩
theorem lw_p24 : lw_okq (⟨"BarRoutineModel", "meanUp", "([II)I"⟩, 21) := ⟨⟨by decide +kernel, by decide +kernel⟩, List.mem_of_getElem? (i := 433) (by decide +kernel), List.mem_of_getElem? (i := 627) (by decide +kernel), List.mem_of_getElem? (i := 628) (by decide +kernel)⟩
theorem lw_p25 : lw_okq (⟨"BarRoutineModel", "waysOf", "([III)I"⟩, 21) := ⟨⟨by decide +kernel, by decide +kernel⟩, List.mem_of_getElem? (i := 433) (by decide +kernel), List.mem_of_getElem? (i := 631) (by decide +kernel), List.mem_of_getElem? (i := 632) (by decide +kernel)⟩
theorem lw_p26 : lw_okq (⟨"BarRoutineModel", "oddsOf", "(II)I"⟩, 21) := ⟨⟨by decide +kernel, by decide +kernel⟩, List.mem_of_getElem? (i := 433) (by decide +kernel), List.mem_of_getElem? (i := 647) (by decide +kernel), List.mem_of_getElem? (i := 648) (by decide +kernel)⟩
theorem lw_p27 : lw_okq (⟨"BarRoutineModel", "oddsUp", "([III)I"⟩, 21) := ⟨⟨by decide +kernel, by decide +kernel⟩, List.mem_of_getElem? (i := 433) (by decide +kernel), List.mem_of_getElem? (i := 651) (by decide +kernel), List.mem_of_getElem? (i := 652) (by decide +kernel)⟩
theorem lw_p28 : lw_okq (⟨"BarRoutineModel", "bestOf", "(II)I"⟩, 21) := ⟨⟨by decide +kernel, by decide +kernel⟩, List.mem_of_getElem? (i := 433) (by decide +kernel), List.mem_of_getElem? (i := 662) (by decide +kernel), List.mem_of_getElem? (i := 663) (by decide +kernel)⟩
theorem lw_p29 : lw_okq (⟨"BarRoutineModel", "layRow", "(II)Z"⟩, 21) := ⟨⟨by decide +kernel, by decide +kernel⟩, List.mem_of_getElem? (i := 433) (by decide +kernel), List.mem_of_getElem? (i := 666) (by decide +kernel), List.mem_of_getElem? (i := 667) (by decide +kernel)⟩
theorem lw_p30 : lw_okq (⟨"BarRoutineModel", "moreOf", "(I)I"⟩, 21) := ⟨⟨by decide +kernel, by decide +kernel⟩, List.mem_of_getElem? (i := 433) (by decide +kernel), List.mem_of_getElem? (i := 677) (by decide +kernel), List.mem_of_getElem? (i := 678) (by decide +kernel)⟩
theorem lw_p31 : lw_okq (⟨"BarRoutineModel", "draw", "(I)I"⟩, 21) := ⟨⟨by decide +kernel, by decide +kernel⟩, List.mem_of_getElem? (i := 433) (by decide +kernel), List.mem_of_getElem? (i := 695) (by decide +kernel), List.mem_of_getElem? (i := 696) (by decide +kernel)⟩
def lw_privs_2 : List (MethodName × Nat) := [(⟨"BarRoutineModel", "likelyOf", "(I)I"⟩, 21), (⟨"BarRoutineModel", "isPlace", "(I)Z"⟩, 21), (⟨"BarRoutineModel", "lacks", "()Z"⟩, 21), (⟨"BarRoutineModel", "scoreOf", "([III)I"⟩, 21), (⟨"BarRoutineModel", "isFlight", "(I)Z"⟩, 21), (⟨"BarRoutineModel", "isTurn", "(I)Z"⟩, 21), (⟨"BarRoutineModel", "joins", "([III)Z"⟩, 21), (⟨"BarRoutineModel", "meanOf", "([III)I"⟩, 21), (⟨"BarRoutineModel", "meanUp", "([II)I"⟩, 21), (⟨"BarRoutineModel", "waysOf", "([III)I"⟩, 21), (⟨"BarRoutineModel", "oddsOf", "(II)I"⟩, 21), (⟨"BarRoutineModel", "oddsUp", "([III)I"⟩, 21), (⟨"BarRoutineModel", "bestOf", "(II)I"⟩, 21), (⟨"BarRoutineModel", "layRow", "(II)Z"⟩, 21), (⟨"BarRoutineModel", "moreOf", "(I)I"⟩, 21), (⟨"BarRoutineModel", "draw", "(I)I"⟩, 21)]
theorem lw_r2 : ∀ q ∈ lw_privs_2, lw_okq q := List.forall_mem_cons.mpr ⟨lw_p16, List.forall_mem_cons.mpr ⟨lw_p17, List.forall_mem_cons.mpr ⟨lw_p18, List.forall_mem_cons.mpr ⟨lw_p19, List.forall_mem_cons.mpr ⟨lw_p20, List.forall_mem_cons.mpr ⟨lw_p21, List.forall_mem_cons.mpr ⟨lw_p22, List.forall_mem_cons.mpr ⟨lw_p23, List.forall_mem_cons.mpr ⟨lw_p24, List.forall_mem_cons.mpr ⟨lw_p25, List.forall_mem_cons.mpr ⟨lw_p26, List.forall_mem_cons.mpr ⟨lw_p27, List.forall_mem_cons.mpr ⟨lw_p28, List.forall_mem_cons.mpr ⟨lw_p29, List.forall_mem_cons.mpr ⟨lw_p30, List.forall_mem_cons.mpr ⟨lw_p31, fun _ h => absurd h List.not_mem_nil⟩⟩⟩⟩⟩⟩⟩⟩⟩⟩⟩⟩⟩⟩⟩⟩
theorem lw_p32 : lw_okq (⟨"BarRoutineModel", "countOf", "(I)I"⟩, 21) := ⟨⟨by decide +kernel, by decide +kernel⟩, List.mem_of_getElem? (i := 433) (by decide +kernel), List.mem_of_getElem? (i := 715) (by decide +kernel), List.mem_of_getElem? (i := 716) (by decide +kernel)⟩
theorem lw_p33 : lw_okq (⟨"BarRoutineModel", "flightsIn", "()I"⟩, 21) := ⟨⟨by decide +kernel, by decide +kernel⟩, List.mem_of_getElem? (i := 433) (by decide +kernel), List.mem_of_getElem? (i := 719) (by decide +kernel), List.mem_of_getElem? (i := 720) (by decide +kernel)⟩
theorem lw_p34 : lw_okq (⟨"BarRoutineModel", "turnsIn", "()I"⟩, 21) := ⟨⟨by decide +kernel, by decide +kernel⟩, List.mem_of_getElem? (i := 433) (by decide +kernel), List.mem_of_getElem? (i := 723) (by decide +kernel), List.mem_of_getElem? (i := 724) (by decide +kernel)⟩
theorem lw_p35 : lw_okq (⟨"BarRoutineModel", "joinsIn", "()I"⟩, 21) := ⟨⟨by decide +kernel, by decide +kernel⟩, List.mem_of_getElem? (i := 433) (by decide +kernel), List.mem_of_getElem? (i := 727) (by decide +kernel), List.mem_of_getElem? (i := 728) (by decide +kernel)⟩
theorem lw_p36 : lw_okq (⟨"BarRoutineModel", "say", "(J)V"⟩, 21) := ⟨⟨by decide +kernel, by decide +kernel⟩, List.mem_of_getElem? (i := 433) (by decide +kernel), List.mem_of_getElem? (i := 736) (by decide +kernel), List.mem_of_getElem? (i := 737) (by decide +kernel)⟩
def lw_privs_3 : List (MethodName × Nat) := [(⟨"BarRoutineModel", "countOf", "(I)I"⟩, 21), (⟨"BarRoutineModel", "flightsIn", "()I"⟩, 21), (⟨"BarRoutineModel", "turnsIn", "()I"⟩, 21), (⟨"BarRoutineModel", "joinsIn", "()I"⟩, 21), (⟨"BarRoutineModel", "say", "(J)V"⟩, 21)]
theorem lw_r3 : ∀ q ∈ lw_privs_3, lw_okq q := List.forall_mem_cons.mpr ⟨lw_p32, List.forall_mem_cons.mpr ⟨lw_p33, List.forall_mem_cons.mpr ⟨lw_p34, List.forall_mem_cons.mpr ⟨lw_p35, List.forall_mem_cons.mpr ⟨lw_p36, fun _ h => absurd h List.not_mem_nil⟩⟩⟩⟩⟩
def lw_privs : List (MethodName × Nat) := lw_privs_1 ++ (lw_privs_2 ++ (lw_privs_3))
def lw_tbl : List Cond := k2_sels lw_privs ++ tables_1
theorem lw_privs_ok : ∀ q ∈ lw_privs, lw_okq q := by
  show ∀ q ∈ lw_privs_1 ++ (lw_privs_2 ++ (lw_privs_3)), lw_okq q
  exact List.forall_mem_append.mpr ⟨lw_r1, List.forall_mem_append.mpr ⟨lw_r2, lw_r3⟩⟩
-- ===== end of PART A; then your names; then what follows =====
/-! ===== BEGIN words of one list among another's, by their places ===== -/
theorem goodIn_r {big : List Cond} (ws : List Cond) (ps : List Nat) (hp : ws = ps.filterMap (fun i => big[i]?)) (h : ws.all goodWord = true) : GoodIn big ws := by
  intro w hw
  have h1 := List.all_eq_true.mp h w hw
  rw [hp] at hw
  obtain ⟨i, -, hi⟩ := List.mem_filterMap.mp hw
  have hm : w ∈ big := by first | exact List.mem_of_getElem? hi | exact List.getElem?_mem hi
  exact ⟨hm, good_of_word h1⟩
theorem goodIn_app {big a b : List Cond} (ha : GoodIn big a) (hb : GoodIn big b) : GoodIn big (a ++ b) := fun w h => (List.mem_append.mp h).elim (ha w) (hb w)
theorem goodIn_ca {big a b : List Cond} {c : Cond} (ha : GoodIn big (c :: a)) (hb : GoodIn big b) : GoodIn big (c :: (a ++ b)) := fun w h => (List.mem_cons.mp h).elim (fun e => ha w (List.mem_cons.mpr (Or.inl e))) (fun h => (List.mem_append.mp h).elim (fun h => ha w (List.mem_cons.mpr (Or.inr h))) (hb w))
theorem goodIn_sub {big ws : List Cond} (hm : ∀ w ∈ ws, w ∈ big) (h : ws.all goodWord = true) : GoodIn big ws := fun w hw => ⟨hm w hw, good_of_word (List.all_eq_true.mp h w hw)⟩
/-! ===== END ===== -/

/-! ===== BEGIN printed: names, fields, word lists, decode rows ===== -/
def RX0 : String := "BarRoutine$Gym"
def TX0 : u_T := fun k => match k with
  | 0 => ("BarRoutine$Gym", "kinds", "[I", true)
  | 1 => ("BarRoutine$Gym", "worths", "[I", true)
  | 2 => ("BarRoutine$Gym", "sures", "[I", true)
  | _ => ("BarRoutine$Gym", "size", "I", false)
def tyX0 : Nat → FieldType := fun k => match k with
  | 0 => .array .int
  | 1 => .array .int
  | 2 => .array .int
  | _ => .int
abbrev wsX00 : List Cond := u_ws RX0 TX0 4
theorem nmX0 : ∀ a, a < 4 → ∀ b, b < 4 → a ≠ b → (TX0 a).2.1 ≠ (TX0 b).2.1 := by decide +kernel
theorem tyX0_ok : ∀ k, k < 4 → parseFieldDescriptor (TX0 k).2.2.1 = some (tyX0 k) := by decide +kernel
abbrev cX0_init : ByteArray := prog_2_method_1_code
def yX0_init : MethodName := ⟨RX0, "<init>", "()V"⟩
abbrev cX0_read : ByteArray := prog_2_method_2_code
def yX0_read : MethodName := ⟨RX0, "read", "(LBarRoutine$Page;)V"⟩
abbrev cX0_has : ByteArray := prog_2_method_3_code
def yX0_has : MethodName := ⟨RX0, "has", "(I)Z"⟩
abbrev cX0_kindOf : ByteArray := prog_2_method_4_code
def yX0_kindOf : MethodName := ⟨RX0, "kindOf", "(I)I"⟩
abbrev cX0_worthOf : ByteArray := prog_2_method_5_code
def yX0_worthOf : MethodName := ⟨RX0, "worthOf", "(I)I"⟩
abbrev cX0_sureOf : ByteArray := prog_2_method_6_code
def yX0_sureOf : MethodName := ⟨RX0, "sureOf", "(I)I"⟩
abbrev cX0_isA : ByteArray := prog_2_method_7_code
def yX0_isA : MethodName := ⟨RX0, "isA", "(II)Z"⟩
def RX1 : String := "BarRoutine$Page"
def TX1 : u_T := fun k => match k with
  | 0 => ("BarRoutine$Page", "codes", "[I", true)
  | _ => ("BarRoutine$Page", "length", "I", false)
def tyX1 : Nat → FieldType := fun k => match k with
  | 0 => .array .int
  | _ => .int
abbrev wsX10 : List Cond := u_ws RX1 TX1 2
theorem nmX1 : ∀ a, a < 2 → ∀ b, b < 2 → a ≠ b → (TX1 a).2.1 ≠ (TX1 b).2.1 := by decide +kernel
theorem tyX1_ok : ∀ k, k < 2 → parseFieldDescriptor (TX1 k).2.2.1 = some (tyX1 k) := by decide +kernel
abbrev cX1_init : ByteArray := prog_3_method_1_code
def yX1_init : MethodName := ⟨RX1, "<init>", "()V"⟩
abbrev cX1_add : ByteArray := prog_3_method_2_code
def yX1_add : MethodName := ⟨RX1, "add", "(I)V"⟩
abbrev cX1_codeAt : ByteArray := prog_3_method_3_code
def yX1_codeAt : MethodName := ⟨RX1, "codeAt", "(I)I"⟩
abbrev cX1_firstFault : ByteArray := prog_3_method_4_code
def yX1_firstFault : MethodName := ⟨RX1, "firstFault", "()I"⟩
abbrev cX1_tellsGym : ByteArray := prog_3_method_5_code
def yX1_tellsGym : MethodName := ⟨RX1, "tellsGym", "()Z"⟩
abbrev cX1_fits : ByteArray := prog_3_method_6_code
def yX1_fits : MethodName := ⟨RX1, "fits", "(II)Z"⟩
abbrev cX1_kindByLetter : ByteArray := prog_3_method_7_code
def yX1_kindByLetter : MethodName := ⟨RX1, "kindByLetter", "(I)I"⟩
def RX2 : String := "BarRoutine$Routine"
def TX2 : u_T := fun k => match k with
  | 0 => ("BarRoutine$Routine", "gym", "LBarRoutine$Gym;", true)
  | 1 => ("BarRoutine$Routine", "pieces", "[I", true)
  | _ => ("BarRoutine$Routine", "size", "I", false)
def tyX2 : Nat → FieldType := fun k => match k with
  | 0 => .object "BarRoutine$Gym"
  | 1 => .array .int
  | _ => .int
abbrev wsX20 : List Cond := u_ws RX2 TX2 3
theorem nmX2 : ∀ a, a < 3 → ∀ b, b < 3 → a ≠ b → (TX2 a).2.1 ≠ (TX2 b).2.1 := by decide +kernel
theorem tyX2_ok : ∀ k, k < 3 → parseFieldDescriptor (TX2 k).2.2.1 = some (tyX2 k) := by decide +kernel
abbrev cX2_init : ByteArray := prog_4_method_1_code
def yX2_init : MethodName := ⟨RX2, "<init>", "(LBarRoutine$Gym;)V"⟩
abbrev cX2_reaches : ByteArray := prog_4_method_2_code
def yX2_reaches : MethodName := ⟨RX2, "reaches", "(I)Z"⟩
abbrev cX2_pieceAt : ByteArray := prog_4_method_3_code
def yX2_pieceAt : MethodName := ⟨RX2, "pieceAt", "(I)I"⟩
abbrev cX2_placeOf : ByteArray := prog_4_method_4_code
def yX2_placeOf : MethodName := ⟨RX2, "placeOf", "(I)I"⟩
abbrev cX2_holds : ByteArray := prog_4_method_5_code
def yX2_holds : MethodName := ⟨RX2, "holds", "(I)Z"⟩
abbrev cX2_append : ByteArray := prog_4_method_6_code
def yX2_append : MethodName := ⟨RX2, "append", "(I)V"⟩
abbrev cX2_removeAt : ByteArray := prog_4_method_7_code
def yX2_removeAt : MethodName := ⟨RX2, "removeAt", "(I)I"⟩
abbrev cX2_exchange : ByteArray := prog_4_method_8_code
def yX2_exchange : MethodName := ⟨RX2, "exchange", "(II)V"⟩
abbrev cX2_copyFrom : ByteArray := prog_4_method_9_code
def yX2_copyFrom : MethodName := ⟨RX2, "copyFrom", "(LBarRoutine$Routine;)V"⟩
abbrev cX2_howMany : ByteArray := prog_4_method_10_code
def yX2_howMany : MethodName := ⟨RX2, "howMany", "(I)I"⟩
abbrev cX2_joins : ByteArray := prog_4_method_11_code
def yX2_joins : MethodName := ⟨RX2, "joins", "()I"⟩
abbrev cX2_joinWorth : ByteArray := prog_4_method_12_code
def yX2_joinWorth : MethodName := ⟨RX2, "joinWorth", "(I)I"⟩
abbrev cX2_lackingPenalty : ByteArray := prog_4_method_13_code
def yX2_lackingPenalty : MethodName := ⟨RX2, "lackingPenalty", "()I"⟩
abbrev cX2_chanceAt : ByteArray := prog_4_method_14_code
def yX2_chanceAt : MethodName := ⟨RX2, "chanceAt", "(I)I"⟩
abbrev cX2_points : ByteArray := prog_4_method_15_code
def yX2_points : MethodName := ⟨RX2, "points", "(I)I"⟩
abbrev cX2_gained : ByteArray := prog_4_method_16_code
def yX2_gained : MethodName := ⟨RX2, "gained", "(I)I"⟩
abbrev cX2_meanInHundredths : ByteArray := prog_4_method_17_code
def yX2_meanInHundredths : MethodName := ⟨RX2, "meanInHundredths", "()I"⟩
abbrev cX2_allParts : ByteArray := prog_4_method_18_code
def yX2_allParts : MethodName := ⟨RX2, "allParts", "()I"⟩
abbrev cX2_partsWith : ByteArray := prog_4_method_19_code
def yX2_partsWith : MethodName := ⟨RX2, "partsWith", "(I)I"⟩
abbrev cX2_partsOf : ByteArray := prog_4_method_20_code
def yX2_partsOf : MethodName := ⟨RX2, "partsOf", "(I)I"⟩
def RX3 : String := "BarRoutine$Tries"
def TX3 : u_T := fun k => match k with
  | 0 => ("BarRoutine$Tries", "gym", "LBarRoutine$Gym;", true)
  | 1 => ("BarRoutine$Tries", "pieces", "[I", true)
  | 2 => ("BarRoutine$Tries", "behinds", "[I", true)
  | 3 => ("BarRoutine$Tries", "successes", "[Z", true)
  | _ => ("BarRoutine$Tries", "size", "I", false)
def tyX3 : Nat → FieldType := fun k => match k with
  | 0 => .object "BarRoutine$Gym"
  | 1 => .array .int
  | 2 => .array .int
  | 3 => .array .boolean
  | _ => .int
abbrev wsX30 : List Cond := u_ws RX3 TX3 5
theorem nmX3 : ∀ a, a < 5 → ∀ b, b < 5 → a ≠ b → (TX3 a).2.1 ≠ (TX3 b).2.1 := by decide +kernel
theorem tyX3_ok : ∀ k, k < 5 → parseFieldDescriptor (TX3 k).2.2.1 = some (tyX3 k) := by decide +kernel
abbrev cX3_init : ByteArray := prog_5_method_1_code
def yX3_init : MethodName := ⟨RX3, "<init>", "(LBarRoutine$Gym;)V"⟩
abbrev cX3_add : ByteArray := prog_5_method_2_code
def yX3_add : MethodName := ⟨RX3, "add", "(IIZ)V"⟩
abbrev cX3_copyFrom : ByteArray := prog_5_method_3_code
def yX3_copyFrom : MethodName := ⟨RX3, "copyFrom", "(LBarRoutine$Tries;)V"⟩
abbrev cX3_possibleSures : ByteArray := prog_5_method_4_code
def yX3_possibleSures : MethodName := ⟨RX3, "possibleSures", "(I)I"⟩
abbrev cX3_likeliestSure : ByteArray := prog_5_method_5_code
def yX3_likeliestSure : MethodName := ⟨RX3, "likeliestSure", "(I)I"⟩
abbrev cX3_likelihood : ByteArray := prog_5_method_6_code
def yX3_likelihood : MethodName := ⟨RX3, "likelihood", "(II)I"⟩
def RX4 : String := "BarRoutine"
def TX4 : u_T := fun k => match k with
  | 0 => ("BarRoutine", "page", "LBarRoutine$Page;", true)
  | 1 => ("BarRoutine", "gym", "LBarRoutine$Gym;", true)
  | 2 => ("BarRoutine", "routine", "LBarRoutine$Routine;", true)
  | 3 => ("BarRoutine", "tries", "LBarRoutine$Tries;", true)
  | 4 => ("BarRoutine", "changes", "I", false)
  | 5 => ("BarRoutine", "imageKept", "Z", false)
  | 6 => ("BarRoutine", "imageRoutine", "LBarRoutine$Routine;", true)
  | 7 => ("BarRoutine", "imageTries", "LBarRoutine$Tries;", true)
  | 8 => ("BarRoutine", "imageChanges", "I", false)
  | 9 => ("BarRoutine", "trial", "LBarRoutine$Routine;", true)
  | 10 => ("BarRoutine", "finest", "LBarRoutine$Routine;", true)
  | 11 => ("BarRoutine", "gymsRead", "I", false)
  | _ => ("BarRoutine", "bestsDone", "I", false)
def tyX4 : Nat → FieldType := fun k => match k with
  | 0 => .object "BarRoutine$Page"
  | 1 => .object "BarRoutine$Gym"
  | 2 => .object "BarRoutine$Routine"
  | 3 => .object "BarRoutine$Tries"
  | 4 => .int
  | 5 => .boolean
  | 6 => .object "BarRoutine$Routine"
  | 7 => .object "BarRoutine$Tries"
  | 8 => .int
  | 9 => .object "BarRoutine$Routine"
  | 10 => .object "BarRoutine$Routine"
  | 11 => .int
  | _ => .int
abbrev wsX40 : List Cond := u_ws RX4 TX4 13
theorem nmX4 : ∀ a, a < 13 → ∀ b, b < 13 → a ≠ b → (TX4 a).2.1 ≠ (TX4 b).2.1 := by decide +kernel
theorem tyX4_ok : ∀ k, k < 13 → parseFieldDescriptor (TX4 k).2.2.1 = some (tyX4 k) := by decide +kernel
abbrev cX4_init : ByteArray := prog_1_method_1_code
def yX4_init : MethodName := ⟨RX4, "<init>", "()V"⟩
abbrev cX4_letter : ByteArray := prog_1_method_2_code
def yX4_letter : MethodName := ⟨RX4, "letter", "(I)I"⟩
abbrev cX4_blank : ByteArray := prog_1_method_3_code
def yX4_blank : MethodName := ⟨RX4, "blank", "()I"⟩
abbrev cX4_fault : ByteArray := prog_1_method_4_code
def yX4_fault : MethodName := ⟨RX4, "fault", "()I"⟩
abbrev cX4_gym : ByteArray := prog_1_method_5_code
def yX4_gym : MethodName := ⟨RX4, "gym", "()I"⟩
abbrev cX4_piece : ByteArray := prog_1_method_6_code
def yX4_piece : MethodName := ⟨RX4, "piece", "(II)I"⟩
abbrev cX4_as : ByteArray := prog_1_method_7_code
def yX4_as : MethodName := ⟨RX4, "as", "(II)I"⟩
abbrev cX4_put : ByteArray := prog_1_method_8_code
def yX4_put : MethodName := ⟨RX4, "put", "(I)I"⟩
abbrev cX4_take : ByteArray := prog_1_method_9_code
def yX4_take : MethodName := ⟨RX4, "take", "(I)I"⟩
abbrev cX4_swap : ByteArray := prog_1_method_10_code
def yX4_swap : MethodName := ⟨RX4, "swap", "(II)I"⟩
abbrev cX4_at : ByteArray := prog_1_method_11_code
def yX4_at : MethodName := ⟨RX4, "at", "(I)I"⟩
abbrev cX4_score : ByteArray := prog_1_method_12_code
def yX4_score : MethodName := ⟨RX4, "score", "(I)I"⟩
abbrev cX4_mean : ByteArray := prog_1_method_13_code
def yX4_mean : MethodName := ⟨RX4, "mean", "(I)I"⟩
abbrev cX4_odds : ByteArray := prog_1_method_14_code
def yX4_odds : MethodName := ⟨RX4, "odds", "(II)I"⟩
abbrev cX4_best : ByteArray := prog_1_method_15_code
def yX4_best : MethodName := ⟨RX4, "best", "(II)I"⟩
abbrev cX4_more : ByteArray := prog_1_method_16_code
def yX4_more : MethodName := ⟨RX4, "more", "(I)I"⟩
abbrev cX4_tryIt : ByteArray := prog_1_method_17_code
def yX4_tryIt : MethodName := ⟨RX4, "tryIt", "(IIZ)I"⟩
abbrev cX4_forget : ByteArray := prog_1_method_18_code
def yX4_forget : MethodName := ⟨RX4, "forget", "()I"⟩
abbrev cX4_meets : ByteArray := prog_1_method_19_code
def yX4_meets : MethodName := ⟨RX4, "meets", "(III)I"⟩
abbrev cX4_image : ByteArray := prog_1_method_20_code
def yX4_image : MethodName := ⟨RX4, "image", "()I"⟩
abbrev cX4_restore : ByteArray := prog_1_method_21_code
def yX4_restore : MethodName := ⟨RX4, "restore", "()I"⟩
abbrev cX4_count : ByteArray := prog_1_method_22_code
def yX4_count : MethodName := ⟨RX4, "count", "(I)I"⟩
abbrev cX4_digest : ByteArray := prog_1_method_23_code
def yX4_digest : MethodName := ⟨RX4, "digest", "()J"⟩
abbrev cX4_noGym : ByteArray := prog_1_method_24_code
def yX4_noGym : MethodName := ⟨RX4, "noGym", "()Z"⟩
abbrev cX4_isScore : ByteArray := prog_1_method_25_code
def yX4_isScore : MethodName := ⟨RX4, "isScore", "(I)Z"⟩
abbrev cX4_asksAboveOrBelow : ByteArray := prog_1_method_26_code
def yX4_asksAboveOrBelow : MethodName := ⟨RX4, "asksAboveOrBelow", "(I)Z"⟩
abbrev cX4_mixed : ByteArray := prog_1_method_27_code
def yX4_mixed : MethodName := ⟨RX4, "mixed", "(JJ)J"⟩
abbrev cX4_nextSeed : ByteArray := prog_1_method_28_code
def yX4_nextSeed : MethodName := ⟨RX4, "nextSeed", "(I)I"⟩
abbrev cX4_drawOfTen : ByteArray := prog_1_method_29_code
def yX4_drawOfTen : MethodName := ⟨RX4, "drawOfTen", "(I)I"⟩
abbrev cX4_inLowestTerms : ByteArray := prog_1_method_30_code
def yX4_inLowestTerms : MethodName := ⟨RX4, "inLowestTerms", "(III)I"⟩
abbrev cX4_commonDivisor : ByteArray := prog_1_method_31_code
def yX4_commonDivisor : MethodName := ⟨RX4, "commonDivisor", "(II)I"⟩
abbrev cX4_findFinest : ByteArray := prog_1_method_32_code
def yX4_findFinest : MethodName := ⟨RX4, "findFinest", "(I)V"⟩
abbrev cX4_picksOf : ByteArray := prog_1_method_33_code
def yX4_picksOf : MethodName := ⟨RX4, "picksOf", "(I)I"⟩
abbrev cX4_pickByNumber : ByteArray := prog_1_method_34_code
def yX4_pickByNumber : MethodName := ⟨RX4, "pickByNumber", "(II)Z"⟩
abbrev cX4_chanceOf : ByteArray := prog_1_method_35_code
def yX4_chanceOf : MethodName := ⟨RX4, "chanceOf", "(III)I"⟩
def RX5 : String := "BarRoutineModel"
def TX5 : u_T := fun k => match k with
  | 0 => ("BarRoutineModel", "page", "[I", true)
  | 1 => ("BarRoutineModel", "pageMany", "I", false)
  | 2 => ("BarRoutineModel", "pieces", "I", false)
  | 3 => ("BarRoutineModel", "changes", "I", false)
  | 4 => ("BarRoutineModel", "gymsRead", "I", false)
  | 5 => ("BarRoutineModel", "rows", "[I", true)
  | 6 => ("BarRoutineModel", "routine", "[I", true)
  | 7 => ("BarRoutineModel", "places", "I", false)
  | 8 => ("BarRoutineModel", "bestDone", "I", false)
  | 9 => ("BarRoutineModel", "row", "[I", true)
  | 10 => ("BarRoutineModel", "bestRow", "[I", true)
  | 11 => ("BarRoutineModel", "triedMany", "I", false)
  | 12 => ("BarRoutineModel", "tries", "[I", true)
  | 13 => ("BarRoutineModel", "seedNow", "I", false)
  | 14 => ("BarRoutineModel", "keptGym", "I", false)
  | 15 => ("BarRoutineModel", "keptPlaces", "I", false)
  | 16 => ("BarRoutineModel", "keptChanges", "I", false)
  | 17 => ("BarRoutineModel", "keptTried", "I", false)
  | 18 => ("BarRoutineModel", "keptRoutine", "[I", true)
  | 19 => ("BarRoutineModel", "keptTries", "[I", true)
  | _ => ("BarRoutineModel", "hash", "J", false)
def tyX5 : Nat → FieldType := fun k => match k with
  | 0 => .array .int
  | 1 => .int
  | 2 => .int
  | 3 => .int
  | 4 => .int
  | 5 => .array .int
  | 6 => .array .int
  | 7 => .int
  | 8 => .int
  | 9 => .array .int
  | 10 => .array .int
  | 11 => .int
  | 12 => .array .int
  | 13 => .int
  | 14 => .int
  | 15 => .int
  | 16 => .int
  | 17 => .int
  | 18 => .array .int
  | 19 => .array .int
  | _ => .long
abbrev wsX50 : List Cond := u_ws RX5 TX5 21
theorem nmX5 : ∀ a, a < 21 → ∀ b, b < 21 → a ≠ b → (TX5 a).2.1 ≠ (TX5 b).2.1 := by decide +kernel
theorem tyX5_ok : ∀ k, k < 21 → parseFieldDescriptor (TX5 k).2.2.1 = some (tyX5 k) := by decide +kernel
abbrev cX5_init : ByteArray := prog_7_method_1_code
def yX5_init : MethodName := ⟨RX5, "<init>", "()V"⟩
abbrev cX5_in : ByteArray := prog_7_method_2_code
def yX5_in : MethodName := ⟨RX5, "in", "(JJJ)Z"⟩
abbrev cX5_copy : ByteArray := prog_7_method_3_code
def yX5_copy : MethodName := ⟨RX5, "copy", "([I[I)V"⟩
abbrev cX5_common : ByteArray := prog_7_method_4_code
def yX5_common : MethodName := ⟨RX5, "common", "(II)I"⟩
abbrev cX5_letter : ByteArray := prog_7_method_5_code
def yX5_letter : MethodName := ⟨RX5, "letter", "(I)I"⟩
abbrev cX5_blank : ByteArray := prog_7_method_6_code
def yX5_blank : MethodName := ⟨RX5, "blank", "()I"⟩
abbrev cX5_kindBy : ByteArray := prog_7_method_7_code
def yX5_kindBy : MethodName := ⟨RX5, "kindBy", "(I)I"⟩
abbrev cX5_isGood : ByteArray := prog_7_method_8_code
def yX5_isGood : MethodName := ⟨RX5, "isGood", "(II)Z"⟩
abbrev cX5_faultOf : ByteArray := prog_7_method_9_code
def yX5_faultOf : MethodName := ⟨RX5, "faultOf", "()I"⟩
abbrev cX5_fault : ByteArray := prog_7_method_10_code
def yX5_fault : MethodName := ⟨RX5, "fault", "()I"⟩
abbrev cX5_gym : ByteArray := prog_7_method_11_code
def yX5_gym : MethodName := ⟨RX5, "gym", "()I"⟩
abbrev cX5_lacks : ByteArray := prog_7_method_12_code
def yX5_lacks : MethodName := ⟨RX5, "lacks", "()Z"⟩
abbrev cX5_isPiece : ByteArray := prog_7_method_13_code
def yX5_isPiece : MethodName := ⟨RX5, "isPiece", "(I)Z"⟩
abbrev cX5_isPlace : ByteArray := prog_7_method_14_code
def yX5_isPlace : MethodName := ⟨RX5, "isPlace", "(I)Z"⟩
abbrev cX5_tenthsBy : ByteArray := prog_7_method_15_code
def yX5_tenthsBy : MethodName := ⟨RX5, "tenthsBy", "(III)I"⟩
abbrev cX5_tenthsOf : ByteArray := prog_7_method_16_code
def yX5_tenthsOf : MethodName := ⟨RX5, "tenthsOf", "(II)I"⟩
abbrev cX5_placeOf : ByteArray := prog_7_method_17_code
def yX5_placeOf : MethodName := ⟨RX5, "placeOf", "(I)I"⟩
abbrev cX5_tell : ByteArray := prog_7_method_18_code
def yX5_tell : MethodName := ⟨RX5, "tell", "(II)I"⟩
abbrev cX5_piece : ByteArray := prog_7_method_19_code
def yX5_piece : MethodName := ⟨RX5, "piece", "(II)I"⟩
abbrev cX5_as : ByteArray := prog_7_method_20_code
def yX5_as : MethodName := ⟨RX5, "as", "(II)I"⟩
abbrev cX5_put : ByteArray := prog_7_method_21_code
def yX5_put : MethodName := ⟨RX5, "put", "(I)I"⟩
abbrev cX5_take : ByteArray := prog_7_method_22_code
def yX5_take : MethodName := ⟨RX5, "take", "(I)I"⟩
abbrev cX5_swap : ByteArray := prog_7_method_23_code
def yX5_swap : MethodName := ⟨RX5, "swap", "(II)I"⟩
abbrev cX5_at : ByteArray := prog_7_method_24_code
def yX5_at : MethodName := ⟨RX5, "at", "(I)I"⟩
abbrev cX5_isFlight : ByteArray := prog_7_method_25_code
def yX5_isFlight : MethodName := ⟨RX5, "isFlight", "(I)Z"⟩
abbrev cX5_isTurn : ByteArray := prog_7_method_26_code
def yX5_isTurn : MethodName := ⟨RX5, "isTurn", "(I)Z"⟩
abbrev cX5_joins : ByteArray := prog_7_method_27_code
def yX5_joins : MethodName := ⟨RX5, "joins", "([III)Z"⟩
abbrev cX5_scoreOf : ByteArray := prog_7_method_28_code
def yX5_scoreOf : MethodName := ⟨RX5, "scoreOf", "([III)I"⟩
abbrev cX5_waysOf : ByteArray := prog_7_method_29_code
def yX5_waysOf : MethodName := ⟨RX5, "waysOf", "([III)I"⟩
abbrev cX5_powerOf : ByteArray := prog_7_method_30_code
def yX5_powerOf : MethodName := ⟨RX5, "powerOf", "(I)I"⟩
abbrev cX5_score : ByteArray := prog_7_method_31_code
def yX5_score : MethodName := ⟨RX5, "score", "(I)I"⟩
abbrev cX5_meanUp : ByteArray := prog_7_method_32_code
def yX5_meanUp : MethodName := ⟨RX5, "meanUp", "([II)I"⟩
abbrev cX5_meanOf : ByteArray := prog_7_method_33_code
def yX5_meanOf : MethodName := ⟨RX5, "meanOf", "([III)I"⟩
abbrev cX5_mean : ByteArray := prog_7_method_34_code
def yX5_mean : MethodName := ⟨RX5, "mean", "(I)I"⟩
abbrev cX5_oddsUp : ByteArray := prog_7_method_35_code
def yX5_oddsUp : MethodName := ⟨RX5, "oddsUp", "([III)I"⟩
abbrev cX5_oddsOf : ByteArray := prog_7_method_36_code
def yX5_oddsOf : MethodName := ⟨RX5, "oddsOf", "(II)I"⟩
abbrev cX5_odds : ByteArray := prog_7_method_37_code
def yX5_odds : MethodName := ⟨RX5, "odds", "(II)I"⟩
abbrev cX5_layRow : ByteArray := prog_7_method_38_code
def yX5_layRow : MethodName := ⟨RX5, "layRow", "(II)Z"⟩
abbrev cX5_bestOf : ByteArray := prog_7_method_39_code
def yX5_bestOf : MethodName := ⟨RX5, "bestOf", "(II)I"⟩
abbrev cX5_best : ByteArray := prog_7_method_40_code
def yX5_best : MethodName := ⟨RX5, "best", "(II)I"⟩
abbrev cX5_moreOf : ByteArray := prog_7_method_41_code
def yX5_moreOf : MethodName := ⟨RX5, "moreOf", "(I)I"⟩
abbrev cX5_more : ByteArray := prog_7_method_42_code
def yX5_more : MethodName := ⟨RX5, "more", "(I)I"⟩
abbrev cX5_tryIt : ByteArray := prog_7_method_43_code
def yX5_tryIt : MethodName := ⟨RX5, "tryIt", "(IIZ)I"⟩
abbrev cX5_forget : ByteArray := prog_7_method_44_code
def yX5_forget : MethodName := ⟨RX5, "forget", "()I"⟩
abbrev cX5_triedWays : ByteArray := prog_7_method_45_code
def yX5_triedWays : MethodName := ⟨RX5, "triedWays", "(II)J"⟩
abbrev cX5_sureOf : ByteArray := prog_7_method_46_code
def yX5_sureOf : MethodName := ⟨RX5, "sureOf", "(I)I"⟩
abbrev cX5_likelyOf : ByteArray := prog_7_method_47_code
def yX5_likelyOf : MethodName := ⟨RX5, "likelyOf", "(I)I"⟩
abbrev cX5_draw : ByteArray := prog_7_method_48_code
def yX5_draw : MethodName := ⟨RX5, "draw", "(I)I"⟩
abbrev cX5_meets : ByteArray := prog_7_method_49_code
def yX5_meets : MethodName := ⟨RX5, "meets", "(III)I"⟩
abbrev cX5_image : ByteArray := prog_7_method_50_code
def yX5_image : MethodName := ⟨RX5, "image", "()I"⟩
abbrev cX5_restore : ByteArray := prog_7_method_51_code
def yX5_restore : MethodName := ⟨RX5, "restore", "()I"⟩
abbrev cX5_flightsIn : ByteArray := prog_7_method_52_code
def yX5_flightsIn : MethodName := ⟨RX5, "flightsIn", "()I"⟩
abbrev cX5_turnsIn : ByteArray := prog_7_method_53_code
def yX5_turnsIn : MethodName := ⟨RX5, "turnsIn", "()I"⟩
abbrev cX5_joinsIn : ByteArray := prog_7_method_54_code
def yX5_joinsIn : MethodName := ⟨RX5, "joinsIn", "()I"⟩
abbrev cX5_countOf : ByteArray := prog_7_method_55_code
def yX5_countOf : MethodName := ⟨RX5, "countOf", "(I)I"⟩
abbrev cX5_count : ByteArray := prog_7_method_56_code
def yX5_count : MethodName := ⟨RX5, "count", "(I)I"⟩
abbrev cX5_say : ByteArray := prog_7_method_57_code
def yX5_say : MethodName := ⟨RX5, "say", "(J)V"⟩
abbrev cX5_digest : ByteArray := prog_7_method_58_code
def yX5_digest : MethodName := ⟨RX5, "digest", "()J"⟩
def RJ9 : String := "java/lang/Math"
def TJ9 : u_T := fun k => match k with
  | _ => ("", "", "", false)
def tyJ9 : Nat → FieldType := fun k => match k with
  | _ => .int
theorem nmJ9 : ∀ a, a < 0 → ∀ b, b < 0 → a ≠ b → (TJ9 a).2.1 ≠ (TJ9 b).2.1 := by decide +kernel
theorem tyJ9_ok : ∀ k, k < 0 → parseFieldDescriptor (TJ9 k).2.2.1 = some (tyJ9 k) := by decide +kernel
abbrev cJ9_max_7cf53 : ByteArray := prog_8_method_65_code
def yJ9_max_7cf53 : MethodName := ⟨RJ9, "max", "(II)I"⟩
def RL : String := "BarRoutineLaw"
abbrev cL_law : ByteArray := code
def yL_law : MethodName := ⟨RL, "law", "([I)Z"⟩
abbrev vwCl : List vw_C := [(RX0, TX0, 4), (RX1, TX1, 2), (RX2, TX2, 3), (RX3, TX3, 5), (RX4, TX4, 13), (RX5, TX5, 21)]
end
section
/-! An abstract machine over a fixed world of 32 cells: places instead of addresses, one function for what they hold; a rule an instruction, proved once over the kit's rows. -/
-- words: all words of the tables that a call can hand on
def br_W0 : List Cond := lw_tbl.filter goodWord
theorem br_W0_in {w : Cond} {i : Nat} (h : lw_tbl[i]? = some w) (hg : goodWord w = true) : w ∈ br_W0 := List.mem_filter.mpr ⟨List.mem_of_getElem? h, hg⟩
theorem br_W0_good {w : Cond} (h : w ∈ br_W0) : (w.onTables && w.keeps) = true ∨ ∃ ty, w = .arrayClass ty := good_of_word (List.mem_filter.mp h).2
def br_nest : List (String × Nat × String × String × String × String) := [("BarRoutine$Gym", 25, "BarRoutine$Page", "length", "I", "BarRoutine"), ("BarRoutine", 68, "BarRoutine$Page", "length", "I", "BarRoutine"), ("BarRoutine", 91, "BarRoutine$Gym", "size", "I", "BarRoutine"), ("BarRoutine", 87, "BarRoutine$Routine", "size", "I", "BarRoutine"), ("BarRoutine", 90, "BarRoutine$Tries", "size", "I", "BarRoutine")]
def br_nw (w : String × Nat × String × String × String × String) : Cond := .fieldLinkNest w.1 w.2.1 w.2.2.1 w.2.2.2.1 w.2.2.2.2.1 w.2.2.2.2.2
def br_nestM : List (String × Nat × MethodName) := [("BarRoutine", 11, ⟨"BarRoutine$Page", "<init>", "()V"⟩), ("BarRoutine", 18, ⟨"BarRoutine$Gym", "<init>", "()V"⟩), ("BarRoutine$Routine", 52, ⟨"BarRoutine", "chanceOf", "(III)I"⟩), ("BarRoutine$Tries", 40, ⟨"BarRoutine", "chanceOf", "(III)I"⟩)]
def br_nm (w : String × Nat × MethodName) : Cond := .methodLinkNest w.1 w.2.1 w.2.2 "BarRoutine"
def br_N (U : State) : Prop := (∀ w ∈ br_nest, va_Nw (br_nw w) U) ∧ ∀ w ∈ br_nestM, va_Nw (br_nm w) U
theorem br_N.warm {s U : State} (hW : s.WarmedH U.vm) (h : br_N s) : br_N U := ⟨fun w hw => va_Nw.warmF hW (h.1 w hw), fun w hw => va_Nw.warmM hW (h.2 w hw)⟩
theorem br_N.same {u U : State} (e : u.vm = U.vm) (h : br_N u) : br_N U := ⟨fun w hw => va_Nw.same rfl e (h.1 w hw), fun w hw => va_Nw.same rfl e (h.2 w hw)⟩
-- values and worlds
abbrev br_V : Type := Int32 ⊕ (Int64 ⊕ Nat)
abbrev br_Wd : Type := (Nat → Nat → Int32) × Int64
abbrev br_i (x : Int32) : br_V := .inl x
abbrev br_l (x : Int64) : br_V := .inr (.inl x)
abbrev br_r (q : Nat) : br_V := .inr (.inr q)
def br_av (ad : Nat → Nat) : br_V → Value
  | .inl x => .int x
  | .inr (.inl x) => .long x
  | .inr (.inr q) => .ref (ad q)
def br_isl : br_V → Bool
  | .inr (.inl _) => true
  | _ => false
def br_up (σ : br_Wd) (q k : Nat) (v : Int32) : br_Wd := (fun q' k' => if q' = q then (if k' = k then v else σ.1 q' k') else σ.1 q' k', σ.2)
def br_upl (σ : br_Wd) (v : Int64) : br_Wd := (σ.1, v)
-- the shapes of the cells
abbrev br_FK : Type := Option (Option Nat)
abbrev br_Sh : Type := (Bool × Nat) ⊕ (Nat × List br_FK)
abbrev br_fr (q : Nat) : br_FK := some (some q)
def br_shps : List br_Sh := [
  .inr (4, [br_fr 1, br_fr 3, br_fr 7, br_fr 15, none, none, br_fr 9, br_fr 19, none, br_fr 11, br_fr 13, none, none]),
  .inr (1, [br_fr 2, none]), .inl (false, 30),
  .inr (0, [br_fr 4, br_fr 5, br_fr 6, none]), .inl (false, 7), .inl (false, 7), .inl (false, 7),
  .inr (2, [br_fr 3, br_fr 8, none]), .inl (false, 5),
  .inr (2, [br_fr 3, br_fr 10, none]), .inl (false, 5),
  .inr (2, [br_fr 3, br_fr 12, none]), .inl (false, 5),
  .inr (2, [br_fr 3, br_fr 14, none]), .inl (false, 5),
  .inr (3, [br_fr 3, br_fr 16, br_fr 17, br_fr 18, none]), .inl (false, 8), .inl (false, 8), .inl (true, 8),
  .inr (3, [br_fr 3, br_fr 20, br_fr 21, br_fr 22, none]), .inl (false, 8), .inl (false, 8), .inl (true, 8),
  .inr (5, [br_fr 24, none, none, none, none, br_fr 25, br_fr 26, none, none, br_fr 27, br_fr 28, none, br_fr 29, none, none, none, none, none, br_fr 30, br_fr 31, some none]),
  .inl (false, 30), .inl (false, 21), .inl (false, 5), .inl (false, 5), .inl (false, 5), .inl (false, 24), .inl (false, 5), .inl (false, 24)]
def br_fv (ad : Nat → Nat) (σ : br_Wd) (q k : Nat) : br_FK → Value
  | none => .int (σ.1 q k)
  | some none => .long σ.2
  | some (some r) => .ref (ad r)
def br_mkF (ad : Nat → Nat) (σ : br_Wd) (q : Nat) : Nat → List br_FK → List Value
  | _, [] => []
  | k, f :: fs => br_fv ad σ q k f :: br_mkF ad σ q (k + 1) fs
def br_mkE (cI cZ : ClassId) (ad : Nat → Nat) (σ : br_Wd) (q : Nat) : br_Sh → va_E
  | .inl (z, n) => .inl (cond z cZ cI, n, .inl (σ.1 q))
  | .inr (ci, fs) => .inr (ci, br_mkF ad σ q 0 fs)
def br_mkW (cI cZ : ClassId) (ad : Nat → Nat) (σ : br_Wd) : Nat → List br_Sh → va_W
  | _, [] => []
  | q, sh :: t => (ad q, br_mkE cI cZ ad σ q sh) :: br_mkW cI cZ ad σ (q + 1) t
def br_W (cI cZ : ClassId) (ad : Nat → Nat) (σ : br_Wd) : va_W := br_mkW cI cZ ad σ 0 br_shps
theorem br_mkF_get (ad : Nat → Nat) (σ : br_Wd) (q : Nat) : ∀ (fs : List br_FK) (k j : Nat), (br_mkF ad σ q k fs)[j]? = fs[j]?.map (br_fv ad σ q (k + j)) := by
  intro fs
  induction fs with
  | nil => intro k j; simp [br_mkF]
  | cons f fs ih =>
    intro k j
    cases j with
    | zero => simp [br_mkF]
    | succ j =>
      simp only [br_mkF, List.getElem?_cons_succ]
      rw [ih (k + 1) j, show k + 1 + j = k + (j + 1) by omega]
theorem br_mkW_get (cI cZ : ClassId) (ad : Nat → Nat) (σ : br_Wd) : ∀ (shs : List br_Sh) (q j : Nat), (br_mkW cI cZ ad σ q shs)[j]? = shs[j]?.map (fun sh => (ad (q + j), br_mkE cI cZ ad σ (q + j) sh)) := by
  intro shs
  induction shs with
  | nil => intro k j; simp [br_mkW]
  | cons f fs ih =>
    intro k j
    cases j with
    | zero => simp [br_mkW]
    | succ j =>
      simp only [br_mkW, List.getElem?_cons_succ]
      rw [ih (k + 1) j, show k + 1 + j = k + (j + 1) by omega]
theorem br_W_get {cI cZ : ClassId} {ad : Nat → Nat} {σ : br_Wd} {q : Nat} {sh : br_Sh} (h : br_shps[q]? = some sh) : (br_W cI cZ ad σ)[q]? = some (ad q, br_mkE cI cZ ad σ q sh) := by
  unfold br_W
  rw [br_mkW_get, h]
  simp
theorem br_mkF_put {ad : Nat → Nat} {σ : br_Wd} {q k : Nat} {v : Int32} {fs : List br_FK} (hk : fs[k]? = some none) : (br_mkF ad σ q 0 fs).set k (.int v) = br_mkF ad (br_up σ q k v) q 0 fs := by
  apply List.ext_getElem?
  intro j
  rw [List.getElem?_set, br_mkF_get, br_mkF_get]
  have hl : k < fs.length := (List.getElem?_eq_some_iff.mp hk).1
  have hl2 : k < (br_mkF ad σ q 0 fs).length := by
    have := br_mkF_get ad σ q fs 0 k
    rw [hk] at this
    exact (List.getElem?_eq_some_iff.mp this).1
  by_cases e : k = j
  · subst e
    rw [if_pos rfl, if_pos hl2, hk]
    simp [br_fv, br_up]
  · rw [if_neg e]
    have e' : ¬ j = k := fun h => e h.symm
    cases hj : fs[j]? with
    | none => simp
    | some f =>
      cases f with
      | none => simp [br_fv, br_up, e']
      | some f => cases f <;> simp [br_fv, br_up]
theorem br_mkE_up {cI cZ : ClassId} {ad : Nat → Nat} {σ : br_Wd} {q k j : Nat} {v : Int32} (sh : br_Sh) (h : ¬ j = q) : br_mkE cI cZ ad (br_up σ q k v) j sh = br_mkE cI cZ ad σ j sh := by
  have e1 : (br_up σ q k v).1 j = σ.1 j := by funext k'; simp [br_up, h]
  cases sh with
  | inl a => obtain ⟨z, n⟩ := a; simp [br_mkE, e1]
  | inr a =>
    obtain ⟨ci, fs⟩ := a
    simp only [br_mkE]
    congr 2
    apply List.ext_getElem?
    intro i
    rw [br_mkF_get, br_mkF_get]
    cases fs[i]? with
    | none => rfl
    | some f =>
      cases f with
      | none => simp [br_fv, e1]
      | some f => cases f <;> simp [br_fv, br_up]
theorem br_W_up {cI cZ : ClassId} {ad : Nat → Nat} {σ : br_Wd} {q k : Nat} {v : Int32} {sh : br_Sh} (h : br_shps[q]? = some sh) : (br_W cI cZ ad σ).set q (ad q, br_mkE cI cZ ad (br_up σ q k v) q sh) = br_W cI cZ ad (br_up σ q k v) := by
  apply List.ext_getElem?
  intro j
  have hl : q < (br_W cI cZ ad σ).length := (List.getElem?_eq_some_iff.mp (br_W_get h)).1
  rw [List.getElem?_set]
  by_cases e : q = j
  · subst e
    rw [if_pos rfl, if_pos hl, br_W_get h]
  · rw [if_neg e]
    unfold br_W
    rw [br_mkW_get, br_mkW_get]
    cases br_shps[j]? with
    | none => rfl
    | some s2 => simp only [Option.map_some]; rw [br_mkE_up s2 (by omega)]
theorem br_mkE_upl {cI cZ : ClassId} {ad : Nat → Nat} {σ : br_Wd} {j : Nat} {v : Int64} (sh : br_Sh) (h : ∀ ci fs, sh = .inr (ci, fs) → some none ∉ fs) : br_mkE cI cZ ad (br_upl σ v) j sh = br_mkE cI cZ ad σ j sh := by
  cases sh with
  | inl a => rfl
  | inr a =>
    obtain ⟨ci, fs⟩ := a
    have hn := h ci fs rfl
    simp only [br_mkE]
    congr 2
    apply List.ext_getElem?
    intro i
    rw [br_mkF_get, br_mkF_get]
    cases hf : fs[i]? with
    | none => rfl
    | some f =>
      cases f with
      | none => rfl
      | some f =>
        cases f with
        | none => exact absurd (List.mem_of_getElem? hf) hn
        | some r => rfl
theorem br_shps_long : ∀ j : Nat, j < 32 → j ≠ 23 → ∀ sh, br_shps[j]? = some sh → ∀ ci fs, sh = .inr (ci, fs) → some none ∉ fs := by
  intro j hj h23 sh hs ci fs e
  subst e
  have key : (br_shps.zipIdx.all fun q => q.2 == 23 || match q.1 with | .inl _ => true | .inr (_, fs) => !(fs.contains (some none))) = true := by decide +kernel
  have hm : ((Sum.inr (ci, fs) : br_Sh), j) ∈ br_shps.zipIdx := by
    rw [List.mem_zipIdx_iff_getElem?]
    exact hs
  have h1 := List.all_eq_true.mp key _ hm
  simp only [Bool.or_eq_true, beq_iff_eq, Bool.not_eq_true', List.contains_eq_mem, decide_eq_false_iff_not] at h1
  rcases h1 with h1 | h1
  · exact absurd h1 h23
  · exact h1
theorem br_W_upl {cI cZ : ClassId} {ad : Nat → Nat} {σ : br_Wd} {v : Int64} {sh : br_Sh} (h : br_shps[23]? = some sh) : (br_W cI cZ ad σ).set 23 (ad 23, br_mkE cI cZ ad (br_upl σ v) 23 sh) = br_W cI cZ ad (br_upl σ v) := by
  apply List.ext_getElem?
  intro j
  have hl : 23 < (br_W cI cZ ad σ).length := (List.getElem?_eq_some_iff.mp (br_W_get h)).1
  rw [List.getElem?_set]
  by_cases e : 23 = j
  · subst e
    rw [if_pos rfl, if_pos hl, br_W_get h]
  · rw [if_neg e]
    unfold br_W
    rw [br_mkW_get, br_mkW_get]
    cases hs : br_shps[j]? with
    | none => rfl
    | some s2 =>
      have hj : j < 32 := (List.getElem?_eq_some_iff.mp hs).1
      simp only [Option.map_some]
      rw [br_mkE_upl s2 (br_shps_long j hj (fun q => e q.symm) s2 hs)]
-- locals by their places
def br_asc (ad : Nat → Nat) : Nat → List (Option br_V) → List (Nat × Value)
  | _, [] => []
  | i, none :: t => br_asc ad (i + 1) t
  | i, some v :: t => (i, br_av ad v) :: br_asc ad (i + 1) t
theorem br_asc_mem {ad : Nat → Nat} : ∀ (L : List (Option br_V)) (k : Nat) (q : Nat × Value), q ∈ br_asc ad k L ↔ ∃ j v, L[j]? = some (some v) ∧ q = (k + j, br_av ad v) := by
  intro L
  induction L with
  | nil => intro k q; simp [br_asc]
  | cons a t ih =>
    intro k q
    cases a with
    | none =>
      simp only [br_asc]
      rw [ih]
      constructor
      · rintro ⟨j, v, h1, h2⟩
        exact ⟨j + 1, v, by simpa using h1, by rw [h2]; congr 1; omega⟩
      · rintro ⟨j, v, h1, h2⟩
        cases j with
        | zero => simp at h1
        | succ j => exact ⟨j, v, by simpa using h1, by rw [h2]; congr 1; omega⟩
    | some w =>
      simp only [br_asc, List.mem_cons]
      rw [ih]
      constructor
      · rintro (h | ⟨j, v, h1, h2⟩)
        · exact ⟨0, w, by simp, by simpa using h⟩
        · exact ⟨j + 1, v, by simpa using h1, by rw [h2]; congr 1; omega⟩
      · rintro ⟨j, v, h1, h2⟩
        cases j with
        | zero =>
          simp only [List.getElem?_cons_zero, Option.some.injEq] at h1
          subst h1
          exact Or.inl (by simpa using h2)
        | succ j => exact Or.inr ⟨j, v, by simpa using h1, by rw [h2]; congr 1; omega⟩
theorem br_loc {ad : Nat → Nat} {ls : Array Slot} {n : Nat} {L : List (Option br_V)} (h : lv_has ls n (br_asc ad 0 L)) {i : Nat} {v : br_V} (hl : L[i]? = some (some v)) : ls[i]? = some (.val (br_av ad v)) :=
  h.2.2 (i, br_av ad v) ((br_asc_mem L 0 _).mpr ⟨i, v, hl, by rw [Nat.zero_add]⟩)
/-- no long begins just ahead of place i -/
def br_okst (L : List (Option br_V)) : Nat → Bool
  | 0 => true
  | j + 1 => match L[j]? with
    | some (some v) => !(br_isl v)
    | _ => true
theorem br_cat (ad : Nat → Nat) (v : br_V) : (br_av ad v).category = 2 ↔ br_isl v = true := by
  match v with
  | .inl x => simp [br_av, br_isl, Value.category]
  | .inr (.inl x) => simp [br_av, br_isl, Value.category]
  | .inr (.inr q) => simp [br_av, br_isl, Value.category]
theorem br_keep1 {ad : Nat → Nat} {L : List (Option br_V)} {i : Nat} {q : Nat × Value} (ho : br_okst L i = true) (hq : q ∈ br_asc ad 0 L) (hne : ¬ q.1 = i) : (q.1 + 1 == i && q.2.category == 2) = false := by
  obtain ⟨j, v, h1, rfl⟩ := (br_asc_mem L 0 q).mp hq
  simp only [Nat.zero_add]
  by_cases e : j + 1 = i
  · subst e
    simp only [br_okst, h1, Bool.not_eq_true'] at ho
    have : ¬ (br_av ad v).category = 2 := fun h => by rw [(br_cat ad v).mp h] at ho; cases ho
    simp [this]
  · simp [e]
theorem br_set1 {ad : Nat → Nat} {ls : Array Slot} {n : Nat} {L : List (Option br_V)} {i : Nat} {v : br_V} (ho : br_okst L i = true)
    (h : lv_has ls n ((i, br_av ad v) :: (br_asc ad 0 L).filter (fun q => !(q.1 == i) && !(q.1 + 1 == i && q.2.category == 2)))) : lv_has ls n (br_asc ad 0 (L.set i (some v))) := by
  refine ⟨h.1, h.2.1, fun q hq => h.2.2 q ?_⟩
  obtain ⟨j, w, h1, rfl⟩ := (br_asc_mem _ 0 q).mp hq
  rw [List.getElem?_set] at h1
  by_cases e : i = j
  · subst e
    rw [if_pos rfl] at h1
    split at h1
    · cases h1
      simp
    · cases h1
  · rw [if_neg e] at h1
    refine List.mem_cons_of_mem _ (List.mem_filter.mpr ⟨(br_asc_mem L 0 _).mpr ⟨j, w, h1, rfl⟩, ?_⟩)
    have hne : ¬ ((0 + j, br_av ad w) : Nat × Value).1 = i := by simp; omega
    rw [br_keep1 ho ((br_asc_mem L 0 _).mpr ⟨j, w, h1, rfl⟩) hne]
    simpa using hne
theorem br_set2 {ad : Nat → Nat} {ls : Array Slot} {n : Nat} {L : List (Option br_V)} {i : Nat} {v : br_V} (ho : br_okst L i = true)
    (h : lv_has ls n ((i, br_av ad v) :: (br_asc ad 0 L).filter (fun q => !(q.1 == i) && (!(q.1 == i + 1) && !(q.1 + 1 == i && q.2.category == 2))))) : lv_has ls n (br_asc ad 0 ((L.set i (some v)).set (i + 1) none)) := by
  refine ⟨h.1, h.2.1, fun q hq => h.2.2 q ?_⟩
  obtain ⟨j, w, h1, rfl⟩ := (br_asc_mem _ 0 q).mp hq
  rw [List.getElem?_set] at h1
  by_cases e1 : i + 1 = j
  · rw [if_pos e1] at h1
    split at h1 <;> cases h1
  · rw [if_neg e1, List.getElem?_set] at h1
    by_cases e : i = j
    · subst e
      rw [if_pos rfl] at h1
      split at h1
      · cases h1
        simp
      · cases h1
    · rw [if_neg e] at h1
      refine List.mem_cons_of_mem _ (List.mem_filter.mpr ⟨(br_asc_mem L 0 _).mpr ⟨j, w, h1, rfl⟩, ?_⟩)
      have hne : ¬ ((0 + j, br_av ad w) : Nat × Value).1 = i := by simp; omega
      rw [br_keep1 ho ((br_asc_mem L 0 _).mpr ⟨j, w, h1, rfl⟩) hne]
      have hne2 : ¬ ((0 + j, br_av ad w) : Nat × Value).1 = i + 1 := by simp; omega
      simp only [Bool.not_false, Bool.and_true, Bool.and_eq_true, Bool.not_eq_true', beq_eq_false_iff_ne, ne_eq]
      exact ⟨hne, hne2⟩
-- fewer known locals
def br_sub (L' L : List (Option br_V)) : Prop := ∀ (j : Nat) (v : br_V), L'[j]? = some (some v) → L[j]? = some (some v)
theorem br_sub.has {ad : Nat → Nat} {ls : Array Slot} {n : Nat} {L L' : List (Option br_V)} (hs : br_sub L' L) (h : lv_has ls n (br_asc ad 0 L)) : lv_has ls n (br_asc ad 0 L') := by
  refine ⟨h.1, h.2.1, fun q hq => ?_⟩
  obtain ⟨j, w, h1, rfl⟩ := (br_asc_mem _ 0 q).mp hq
  exact h.2.2 _ ((br_asc_mem L 0 _).mpr ⟨j, w, hs j w h1, rfl⟩)
theorem br_sub.nil {L : List (Option br_V)} : br_sub [] L := fun j v h => by simp at h
theorem br_sub.same {L L' : List (Option br_V)} {a : Option br_V} (h : br_sub L' L) : br_sub (a :: L') (a :: L) := fun j v hj => by
  cases j with
  | zero => simpa using hj
  | succ j => simpa using h j v (by simpa using hj)
theorem br_sub.drop {L L' : List (Option br_V)} {a : Option br_V} (h : br_sub L' L) : br_sub (none :: L') (a :: L) := fun j v hj => by
  cases j with
  | zero => simp at hj
  | succ j => simpa using h j v (by simpa using hj)
theorem br_sub.rfl {L : List (Option br_V)} : br_sub L L := fun _ _ h => h
end
section
-- a method: its name, bytes, locals, return type
abbrev br_Y : Type := MethodName × ByteArray × Nat × Option FieldType
def br_ws (Y : br_Y) : List Cond := .code Y.1 Y.2.1 Y.2.2.1 Y.2.2.2 :: br_W0
def br_room (d : Nat) : Room := { frames := d, cells := 0, slots := 0, locals := 29 * d }
abbrev br_post : Type := Option br_V → br_Wd → Prop
abbrev br_tys (cI cZ : ClassId) : List (ClassId × FieldType) := [(cI, .int), (cZ, .boolean)]
def br_Q (D : va_G) (cI cZ : ClassId) (ad : Nat → Nat) (A : Nat → Prop) (P : br_post) : Array Value → State → Outcome → State → Prop := fun _ st oc t =>
  (∃ v τ, oc = .returned (v.map (br_av ad)) ∧ P v τ ∧ va_P D vwCl (br_W cI cZ ad τ) t.heap) ∧ va_F A st t
/-- a method's contract: from the world σ with these arguments it returns, with a value and a world of which P holds -/
def br_Met (d : Nat) (Y : br_Y) (args : List br_V) (σ : br_Wd) (P : br_post) : Prop :=
  ∀ (l : Launch) (D : va_G) (cI cZ : ClassId) (ad : Nat → Nat) (sz : Nat), Met l Y.1 (br_ws Y) (br_room d)
    (va_Pc (args.map (br_av ad)) (fun U => U.heap.size = sz ∧ va_P D vwCl (br_W cI cZ ad σ) U.heap ∧ va_K D vwCl (br_tys cI cZ) U ∧ va_D (fun _ => True) (br_W cI cZ ad σ) ∧ br_N U))
    (br_Q D cI cZ ad (va_A (br_W cI cZ ad σ) sz) P) 0 0 (va_A (br_W cI cZ ad σ) sz)
/-- at this instruction the method returns v -/
def br_isret (Y : br_Y) (pc : Nat) : Option br_V → Prop
  | none => Y.2.2.2 = none ∧ decode Y.2.1 pc = .ok (.return_, 1)
  | some (.inl x) => (∃ ty, Y.2.2.2 = some ty ∧ narrow ty (.int x) = .int x) ∧ decode Y.2.1 pc = .ok (.ireturn, 1)
  | some (.inr (.inl _)) => Y.2.2.2 = some .long ∧ decode Y.2.1 pc = .ok (.lreturn, 1)
  | some (.inr (.inr _)) => False
abbrev br_Jg : Type := Nat → List (Option br_V) → List br_V → br_Wd → Prop
/-- G is the walk of the body of Y, with room for calls of depth below d, to an end where P holds -/
def br_Ok (Y : br_Y) (d : Nat) (P : br_post) (G : br_Jg) : Prop :=
  ∃ (p : Program) (l : Launch) (e : Env) (R : Room) (s : State) (m : MethodId) (args : Array Value) (below : List Frame) (meth : Method) (c : Code) (cells slots : Nat) (Q : State → Prop) (D : va_G) (cI cZ : ClassId) (ad : Nat → Nat) (A : Nat → Prop) (H0 : Heap),
    (p.tables.exec = Jvm.exec ∧ c.code = Y.2.1 ∧ c.maxLocals = Y.2.2.1 ∧ s.vm.findClass Y.1.cls = some m.cls ∧ (∀ w ∈ br_W0, w.before args s = true)) ∧
    (va_K D vwCl (br_tys cI cZ) s ∧ (∀ σ, va_D A (br_W cI cZ ad σ)) ∧ (∀ q, H0.size ≤ q → A q) ∧ br_N s) ∧ (d ≤ R.frames ∧ 29 * d ≤ R.locals ∧ cells ≤ R.cells ∧ slots ≤ R.slots) ∧
    (∀ (v : Option br_V) (τ : br_Wd) (H : Heap) (locs : List Loc) (pc : Nat) (ls : Array Slot), P v τ → va_P D vwCl (br_W cI cZ ad τ) H → va_S A H0 H locs → br_isret Y pc v → W p l e R s m args below meth c H locs cells slots Q (F0 m pc ls (v.map (br_av ad)).toList)) ∧
    ∀ pc L st σ, G pc L st σ ↔ ∀ (H : Heap) (locs : List Loc) (ls : Array Slot), va_P D vwCl (br_W cI cZ ad σ) H → va_S A H0 H locs → lv_has ls Y.2.2.1 (br_asc ad 0 L) → W p l e R s m args below meth c H locs cells slots Q (F0 m pc ls (st.map (br_av ad)))
-- the locals of the entry
def br_ent : List br_V → List (Option br_V)
  | [] => []
  | .inr (.inl x) :: t => some (br_l x) :: none :: br_ent t
  | a :: t => some a :: br_ent t
theorem br_asc_rep (ad : Nat → Nat) : ∀ (n i : Nat), br_asc ad i (List.replicate n none) = [] := by
  intro n
  induction n with
  | zero => intro i; rfl
  | succ n ih => intro i; show br_asc ad (i + 1) (List.replicate n none) = []; exact ih (i + 1)
theorem br_asc_ent (ad : Nat → Nat) (n : Nat) : ∀ (args : List br_V) (i : Nat), br_asc ad i (br_ent args ++ List.replicate n none) = lv_args i (args.map (br_av ad)) := by
  intro args
  induction args with
  | nil => intro i; exact br_asc_rep ad n i
  | cons a t ih =>
    intro i
    match a with
    | .inl x =>
      show (i, Value.int x) :: br_asc ad (i + 1) (br_ent t ++ List.replicate n none) = _
      rw [ih (i + 1)]
      simp [lv_args, br_av, Value.category]
    | .inr (.inl x) =>
      show (i, Value.long x) :: br_asc ad (i + 1 + 1) (br_ent t ++ List.replicate n none) = _
      rw [ih (i + 1 + 1)]
      simp [lv_args, br_av, Value.category]
    | .inr (.inr x) =>
      show (i, Value.ref (ad x)) :: br_asc ad (i + 1) (br_ent t ++ List.replicate n none) = _
      rw [ih (i + 1)]
      simp [lv_args, br_av, Value.category]
theorem br_ent_len (ad : Nat → Nat) : ∀ (args : List br_V), (lg_sl (args.map (br_av ad))).length = (br_ent args).length := by
  intro args
  induction args with
  | nil => rfl
  | cons a t ih =>
    match a with
    | .inl x => simpa [lg_sl, br_ent, br_av, Value.category] using ih
    | .inr (.inl x) => simpa [lg_sl, br_ent, br_av, Value.category] using ih
    | .inr (.inr x) => simpa [lg_sl, br_ent, br_av, Value.category] using ih
theorem br_W_addr {cI cZ : ClassId} {ad : Nat → Nat} (σ τ : br_Wd) (k : Nat) (q : Nat × va_E) (h : (br_W cI cZ ad σ)[k]? = some q) : ∃ q', (br_W cI cZ ad τ)[k]? = some q' ∧ q'.1 = q.1 := by
  unfold br_W at h ⊢
  rw [br_mkW_get] at h ⊢
  cases hs : br_shps[k]? with
  | none => rw [hs] at h; cases h
  | some sh => rw [hs] at h; cases h; exact ⟨_, rfl, rfl⟩
theorem br_D_all {cI cZ : ClassId} {ad : Nat → Nat} {A : Nat → Prop} {σ : br_Wd} (h : va_D A (br_W cI cZ ad σ)) (τ : br_Wd) : va_D A (br_W cI cZ ad τ) := by
  refine ⟨fun i j p q hp hq e => ?_, fun k q hq => ?_⟩
  · obtain ⟨p', hp', e1⟩ := br_W_addr τ σ i p hp
    obtain ⟨q', hq', e2⟩ := br_W_addr τ σ j q hq
    exact h.1 i j p' q' hp' hq' (by rw [e1, e2]; exact e)
  · obtain ⟨q', hq', e⟩ := br_W_addr τ σ k q hq
    rw [← e]
    exact h.2 k q' hq'
theorem br_ofW {Y : br_Y} {d : Nat} {args : List br_V} {σ : br_Wd} {P : br_post} (hy : plainName Y.1.cls = true) (n : Nat) (hn : (br_ent args).length + n = Y.2.2.1)
    (h : ∀ G, br_Ok Y d P G → G 0 (br_ent args ++ List.replicate n none) [] σ) : br_Met d Y args σ P := by
  intro l D cI cZ ad sz
  refine Met.ofW (cc := Y.2.1) (maxL := Y.2.2.1) (ret := Y.2.2.2) hy rfl ?_
  intro p e s m args' below meth c s₁ B hml hv
  obtain ⟨rfl, hsz, hP, hK, hD0, hN⟩ := hv
  subst hsz
  have hx := B.exec
  have hb := B.bytes
  have hr := B.returns
  have hts := atoms_spec (ws := br_ws Y) B.pre
  have hown : s.vm.findClass Y.1.cls = some m.cls := findClass_of_methodNamed B.named
  have hlocks := B.notSynchronized
  have hD := hD0.self (sz := s.heap.size)
  rw [lg_entry_eq]
  have hl := lv_entry (args.map (br_av ad)) (n := Y.2.2.1) (by rw [br_ent_len]; omega)
  rw [← br_asc_ent ad n] at hl
  refine ((?_ : (fun pc L st τ => ∀ (H : Heap) (locs : List Loc) (ls : Array Slot), va_P D vwCl (br_W cI cZ ad τ) H → va_S (va_A (br_W cI cZ ad σ) s.heap.size) s.heap H locs → lv_has ls Y.2.2.1 (br_asc ad 0 L) → W p l e (headSpec (br_ws Y) (br_room d)).room s m (args.map (br_av ad)).toArray below meth c H locs 0 0 (MQ below (br_Q D cI cZ ad (va_A (br_W cI cZ ad σ) s.heap.size) P) (args.map (br_av ad)).toArray s 0 0 (va_A (br_W cI cZ ad σ) s.heap.size)) (F0 m pc ls (st.map (br_av ad)))) 0 (br_ent args ++ List.replicate n none) [] σ)) s.heap [] _ hP va_S.rf hl
  refine h _ ⟨p, l, e, _, s, m, _, below, meth, c, 0, 0, _, D, cI, cZ, ad, _, s.heap, ⟨hx, hb, hml, hown, fun w hw => hts w (List.mem_cons_of_mem _ hw)⟩, ⟨hK, fun τ => br_D_all hD τ, fun q hq => Or.inr hq, hN⟩, ⟨Nat.le_refl _, Nat.le_refl _, Nat.zero_le _, Nat.zero_le _⟩, ?_, fun pc L st τ => Iff.rfl⟩
  intro v τ H locs pc ls hp hPH hS hret
  have hq : ∀ t : State, t.heap = H → s.WarmedH t.vm → br_Q D cI cZ ad (va_A (br_W cI cZ ad σ) s.heap.size) P (args.map (br_av ad)).toArray s (.returned (v.map (br_av ad))) t := fun t ht hW => ⟨⟨v, τ, rfl, hp, by rw [ht]; exact hPH⟩, hS.F ht⟩
  match v, hret, hq with
  | none, hret, hq => exact W.vret hx hb (hr.trans hret.1) hq hS.2.2 hret.2
  | some (.inl x), hret, hq =>
    obtain ⟨⟨ty, h1, h2⟩, h3⟩ := hret
    exact W.zret (v := x) (ty := ty) hx hb (hr.trans h1) h2 hq hS.2.2 h3
  | some (.inr (.inl x)), hret, hq => exact W.lret (v := x) hx hb (hr.trans hret.1) hq hS.2.2 hret.2
  | some (.inr (.inr q)), hret, hq => exact hret.elim
end
section
theorem br_iload_n {Y : br_Y} {d : Nat} {P : br_post} {G : br_Jg} (C : br_Ok Y d P G) {k : Fin 4} {i : Nat} {x : Int32} {pc : Nat} {L : List (Option br_V)} {st : List br_V} {σ : br_Wd} (hd : decode Y.2.1 pc = .ok (.iload_n k, 1)) (hi : (k : Nat) = i) (hl : L[i]? = some (some (br_i x))) (kk : G (pc + 1) L (br_i x :: st) σ) : G pc L st σ := by
  obtain ⟨p, l, e, R, s, m, args, below, meth, c, cells, slots, Q, D, cI, cZ, ad, A, H0, ⟨hx, hb, hml, hown, hts⟩, ⟨hK, hD, hA, hN⟩, hR, hfin, hG⟩ := C
  rw [hG] at kk ⊢
  intro H locs ls hP hS hl'
  exact lv_iload_n hx hb hd hi (br_loc hl' hl) (kk H locs ls hP hS hl')
theorem br_iload {Y : br_Y} {d : Nat} {P : br_post} {G : br_Jg} (C : br_Ok Y d P G) {i : Nat} {x : Int32} {pc : Nat} {L : List (Option br_V)} {st : List br_V} {σ : br_Wd} (hd : decode Y.2.1 pc = .ok (.iload i, 2)) (hl : L[i]? = some (some (br_i x))) (kk : G (pc + 2) L (br_i x :: st) σ) : G pc L st σ := by
  obtain ⟨p, l, e, R, s, m, args, below, meth, c, cells, slots, Q, D, cI, cZ, ad, A, H0, ⟨hx, hb, hml, hown, hts⟩, ⟨hK, hD, hA, hN⟩, hR, hfin, hG⟩ := C
  rw [hG] at kk ⊢
  intro H locs ls hP hS hl'
  exact lv_iload hx hb hd (br_loc hl' hl) (kk H locs ls hP hS hl')
theorem br_lload_n {Y : br_Y} {d : Nat} {P : br_post} {G : br_Jg} (C : br_Ok Y d P G) {k : Fin 4} {i : Nat} {x : Int64} {pc : Nat} {L : List (Option br_V)} {st : List br_V} {σ : br_Wd} (hd : decode Y.2.1 pc = .ok (.lload_n k, 1)) (hi : (k : Nat) = i) (hl : L[i]? = some (some (br_l x))) (kk : G (pc + 1) L (br_l x :: st) σ) : G pc L st σ := by
  obtain ⟨p, l, e, R, s, m, args, below, meth, c, cells, slots, Q, D, cI, cZ, ad, A, H0, ⟨hx, hb, hml, hown, hts⟩, ⟨hK, hD, hA, hN⟩, hR, hfin, hG⟩ := C
  rw [hG] at kk ⊢
  intro H locs ls hP hS hl'
  exact lv_lload_n hx hb hd hi (br_loc hl' hl) (kk H locs ls hP hS hl')
theorem br_lload {Y : br_Y} {d : Nat} {P : br_post} {G : br_Jg} (C : br_Ok Y d P G) {i : Nat} {x : Int64} {pc : Nat} {L : List (Option br_V)} {st : List br_V} {σ : br_Wd} (hd : decode Y.2.1 pc = .ok (.lload i, 2)) (hl : L[i]? = some (some (br_l x))) (kk : G (pc + 2) L (br_l x :: st) σ) : G pc L st σ := by
  obtain ⟨p, l, e, R, s, m, args, below, meth, c, cells, slots, Q, D, cI, cZ, ad, A, H0, ⟨hx, hb, hml, hown, hts⟩, ⟨hK, hD, hA, hN⟩, hR, hfin, hG⟩ := C
  rw [hG] at kk ⊢
  intro H locs ls hP hS hl'
  exact lv_lload hx hb hd (br_loc hl' hl) (kk H locs ls hP hS hl')
theorem br_aload_n {Y : br_Y} {d : Nat} {P : br_post} {G : br_Jg} (C : br_Ok Y d P G) {k : Fin 4} {i : Nat} {x : Nat} {pc : Nat} {L : List (Option br_V)} {st : List br_V} {σ : br_Wd} (hd : decode Y.2.1 pc = .ok (.aload_n k, 1)) (hi : (k : Nat) = i) (hl : L[i]? = some (some (br_r x))) (kk : G (pc + 1) L (br_r x :: st) σ) : G pc L st σ := by
  obtain ⟨p, l, e, R, s, m, args, below, meth, c, cells, slots, Q, D, cI, cZ, ad, A, H0, ⟨hx, hb, hml, hown, hts⟩, ⟨hK, hD, hA, hN⟩, hR, hfin, hG⟩ := C
  rw [hG] at kk ⊢
  intro H locs ls hP hS hl'
  exact lv_aload_n hx hb hd hi (br_loc hl' hl) (kk H locs ls hP hS hl')
theorem br_aload {Y : br_Y} {d : Nat} {P : br_post} {G : br_Jg} (C : br_Ok Y d P G) {i : Nat} {x : Nat} {pc : Nat} {L : List (Option br_V)} {st : List br_V} {σ : br_Wd} (hd : decode Y.2.1 pc = .ok (.aload i, 2)) (hl : L[i]? = some (some (br_r x))) (kk : G (pc + 2) L (br_r x :: st) σ) : G pc L st σ := by
  obtain ⟨p, l, e, R, s, m, args, below, meth, c, cells, slots, Q, D, cI, cZ, ad, A, H0, ⟨hx, hb, hml, hown, hts⟩, ⟨hK, hD, hA, hN⟩, hR, hfin, hG⟩ := C
  rw [hG] at kk ⊢
  intro H locs ls hP hS hl'
  exact lv_aload hx hb hd (br_loc hl' hl) (kk H locs ls hP hS hl')
theorem br_iconst {Y : br_Y} {d : Nat} {P : br_post} {G : br_Jg} (C : br_Ok Y d P G) {n : Int} {v : Int32} {pc : Nat} {L : List (Option br_V)} {st : List br_V} {σ : br_Wd} (hd : decode Y.2.1 pc = .ok (.iconst n, 1)) (hv : Int32.ofInt n = v) (kk : G (pc + 1) L (br_i v :: st) σ) : G pc L st σ := by
  obtain ⟨p, l, e, R, s, m, args, below, meth, c, cells, slots, Q, D, cI, cZ, ad, A, H0, ⟨hx, hb, hml, hown, hts⟩, ⟨hK, hD, hA, hN⟩, hR, hfin, hG⟩ := C
  rw [hG] at kk ⊢
  intro H locs ls hP hS hl'
  exact lv_iconst hx hb hd hv (kk H locs ls hP hS hl')
theorem br_bipush {Y : br_Y} {d : Nat} {P : br_post} {G : br_Jg} (C : br_Ok Y d P G) {n : Int} {v : Int32} {pc : Nat} {L : List (Option br_V)} {st : List br_V} {σ : br_Wd} (hd : decode Y.2.1 pc = .ok (.bipush n, 2)) (hv : (Int8.ofInt n).toInt32 = v) (kk : G (pc + 2) L (br_i v :: st) σ) : G pc L st σ := by
  obtain ⟨p, l, e, R, s, m, args, below, meth, c, cells, slots, Q, D, cI, cZ, ad, A, H0, ⟨hx, hb, hml, hown, hts⟩, ⟨hK, hD, hA, hN⟩, hR, hfin, hG⟩ := C
  rw [hG] at kk ⊢
  intro H locs ls hP hS hl'
  exact lv_bipush hx hb hd hv (kk H locs ls hP hS hl')
theorem br_sipush {Y : br_Y} {d : Nat} {P : br_post} {G : br_Jg} (C : br_Ok Y d P G) {n : Int} {v : Int32} {pc : Nat} {L : List (Option br_V)} {st : List br_V} {σ : br_Wd} (hd : decode Y.2.1 pc = .ok (.sipush n, 3)) (hv : (Int16.ofInt n).toInt32 = v) (kk : G (pc + 3) L (br_i v :: st) σ) : G pc L st σ := by
  obtain ⟨p, l, e, R, s, m, args, below, meth, c, cells, slots, Q, D, cI, cZ, ad, A, H0, ⟨hx, hb, hml, hown, hts⟩, ⟨hK, hD, hA, hN⟩, hR, hfin, hG⟩ := C
  rw [hG] at kk ⊢
  intro H locs ls hP hS hl'
  exact lv_sipush hx hb hd hv (kk H locs ls hP hS hl')
theorem br_lconst {Y : br_Y} {d : Nat} {P : br_post} {G : br_Jg} (C : br_Ok Y d P G) {n : Fin 2} {v : Int64} {pc : Nat} {L : List (Option br_V)} {st : List br_V} {σ : br_Wd} (hd : decode Y.2.1 pc = .ok (.lconst n, 1)) (hv : Int64.ofNat (n : Nat) = v) (kk : G (pc + 1) L (br_l v :: st) σ) : G pc L st σ := by
  obtain ⟨p, l, e, R, s, m, args, below, meth, c, cells, slots, Q, D, cI, cZ, ad, A, H0, ⟨hx, hb, hml, hown, hts⟩, ⟨hK, hD, hA, hN⟩, hR, hfin, hG⟩ := C
  rw [hG] at kk ⊢
  intro H locs ls hP hS hl'
  exact lv_lconst hx hb hd hv (kk H locs ls hP hS hl')
theorem br_ldc {Y : br_Y} {d : Nat} {P : br_post} {G : br_Jg} (C : br_Ok Y d P G) {index : Nat} {v : Int32} {pc : Nat} {L : List (Option br_V)} {st : List br_V} {σ : br_Wd} (hd : decode Y.2.1 pc = .ok (.ldc index, 2)) (hw : Cond.constant Y.1.cls index v ∈ br_W0) (kk : G (pc + 2) L (br_i v :: st) σ) : G pc L st σ := by
  obtain ⟨p, l, e, R, s, m, args, below, meth, c, cells, slots, Q, D, cI, cZ, ad, A, H0, ⟨hx, hb, hml, hown, hts⟩, ⟨hK, hD, hA, hN⟩, hR, hfin, hG⟩ := C
  rw [hG] at kk ⊢
  intro H locs ls hP hS hl'
  exact lv_ldc hx hb hown (hts _ hw) hd (kk H locs ls hP hS hl')
theorem br_ldc2 {Y : br_Y} {d : Nat} {P : br_post} {G : br_Jg} (C : br_Ok Y d P G) {index : Nat} {v : Int64} {pc : Nat} {L : List (Option br_V)} {st : List br_V} {σ : br_Wd} (hd : decode Y.2.1 pc = .ok (.ldc2_w index, 3)) (hw : Cond.constantLong Y.1.cls index v ∈ br_W0) (kk : G (pc + 3) L (br_l v :: st) σ) : G pc L st σ := by
  obtain ⟨p, l, e, R, s, m, args, below, meth, c, cells, slots, Q, D, cI, cZ, ad, A, H0, ⟨hx, hb, hml, hown, hts⟩, ⟨hK, hD, hA, hN⟩, hR, hfin, hG⟩ := C
  rw [hG] at kk ⊢
  intro H locs ls hP hS hl'
  exact lv_ldc2 hx hb hown (hts _ hw) hd (kk H locs ls hP hS hl')
theorem br_istore_n {Y : br_Y} {d : Nat} {P : br_post} {G : br_Jg} (C : br_Ok Y d P G) {k : Fin 4} {i : Nat} {x : Int32} {L' : List (Option br_V)} {pc : Nat} {L : List (Option br_V)} {st : List br_V} {σ : br_Wd} (hd : decode Y.2.1 pc = .ok (.istore_n k, 1)) (hi : (k : Nat) = i) (hn : i < Y.2.2.1) (ho : br_okst L i = true) (hL : L.set i (some (br_i x)) = L') (kk : G (pc + 1) L' st σ) : G pc L (br_i x :: st) σ := by
  obtain ⟨p, l, e, R, s, m, args, below, meth, c, cells, slots, Q, D, cI, cZ, ad, A, H0, ⟨hx, hb, hml, hown, hts⟩, ⟨hK, hD, hA, hN⟩, hR, hfin, hG⟩ := C
  rw [hG] at kk ⊢
  intro H locs ls hP hS hl'
  exact lv_istore_n hx hb hd hi hl' hn rfl (fun ls h => kk H locs ls hP hS (by rw [← hL]; exact br_set1 (v := br_i x) ho h))
theorem br_istore {Y : br_Y} {d : Nat} {P : br_post} {G : br_Jg} (C : br_Ok Y d P G) {i : Nat} {x : Int32} {L' : List (Option br_V)} {pc : Nat} {L : List (Option br_V)} {st : List br_V} {σ : br_Wd} (hd : decode Y.2.1 pc = .ok (.istore i, 2)) (hn : i < Y.2.2.1) (ho : br_okst L i = true) (hL : L.set i (some (br_i x)) = L') (kk : G (pc + 2) L' st σ) : G pc L (br_i x :: st) σ := by
  obtain ⟨p, l, e, R, s, m, args, below, meth, c, cells, slots, Q, D, cI, cZ, ad, A, H0, ⟨hx, hb, hml, hown, hts⟩, ⟨hK, hD, hA, hN⟩, hR, hfin, hG⟩ := C
  rw [hG] at kk ⊢
  intro H locs ls hP hS hl'
  exact lv_istore hx hb hd hl' hn rfl (fun ls h => kk H locs ls hP hS (by rw [← hL]; exact br_set1 (v := br_i x) ho h))
theorem br_lstore_n {Y : br_Y} {d : Nat} {P : br_post} {G : br_Jg} (C : br_Ok Y d P G) {k : Fin 4} {i : Nat} {x : Int64} {L' : List (Option br_V)} {pc : Nat} {L : List (Option br_V)} {st : List br_V} {σ : br_Wd} (hd : decode Y.2.1 pc = .ok (.lstore_n k, 1)) (hi : (k : Nat) = i) (hn : i + 1 < Y.2.2.1) (ho : br_okst L i = true) (hL : (L.set i (some (br_l x))).set (i + 1) none = L') (kk : G (pc + 1) L' st σ) : G pc L (br_l x :: st) σ := by
  obtain ⟨p, l, e, R, s, m, args, below, meth, c, cells, slots, Q, D, cI, cZ, ad, A, H0, ⟨hx, hb, hml, hown, hts⟩, ⟨hK, hD, hA, hN⟩, hR, hfin, hG⟩ := C
  rw [hG] at kk ⊢
  intro H locs ls hP hS hl'
  exact lv_lstore_n hx hb hd hi hl' hn rfl (fun ls h => kk H locs ls hP hS (by rw [← hL]; exact br_set2 (v := br_l x) ho h))
theorem br_lstore {Y : br_Y} {d : Nat} {P : br_post} {G : br_Jg} (C : br_Ok Y d P G) {i : Nat} {x : Int64} {L' : List (Option br_V)} {pc : Nat} {L : List (Option br_V)} {st : List br_V} {σ : br_Wd} (hd : decode Y.2.1 pc = .ok (.lstore i, 2)) (hn : i + 1 < Y.2.2.1) (ho : br_okst L i = true) (hL : (L.set i (some (br_l x))).set (i + 1) none = L') (kk : G (pc + 2) L' st σ) : G pc L (br_l x :: st) σ := by
  obtain ⟨p, l, e, R, s, m, args, below, meth, c, cells, slots, Q, D, cI, cZ, ad, A, H0, ⟨hx, hb, hml, hown, hts⟩, ⟨hK, hD, hA, hN⟩, hR, hfin, hG⟩ := C
  rw [hG] at kk ⊢
  intro H locs ls hP hS hl'
  exact lv_lstore hx hb hd hl' hn rfl (fun ls h => kk H locs ls hP hS (by rw [← hL]; exact br_set2 (v := br_l x) ho h))
theorem br_iinc {Y : br_Y} {d : Nat} {P : br_post} {G : br_Jg} (C : br_Ok Y d P G) {i : Nat} {n : Int} {x v : Int32} {L' : List (Option br_V)} {pc : Nat} {L : List (Option br_V)} {st : List br_V} {σ : br_Wd} (hd : decode Y.2.1 pc = .ok (.iinc i n, 3)) (hl : L[i]? = some (some (br_i x))) (hv : x + Int32.ofInt n = v) (hn : i < Y.2.2.1) (ho : br_okst L i = true) (hL : L.set i (some (br_i v)) = L') (kk : G (pc + 3) L' st σ) : G pc L st σ := by
  obtain ⟨p, l, e, R, s, m, args, below, meth, c, cells, slots, Q, D, cI, cZ, ad, A, H0, ⟨hx, hb, hml, hown, hts⟩, ⟨hK, hD, hA, hN⟩, hR, hfin, hG⟩ := C
  rw [hG] at kk ⊢
  intro H locs ls hP hS hl'
  obtain ⟨k, hk⟩ := List.getElem?_of_mem ((br_asc_mem (ad := ad) L 0 (i, .int x)).mpr ⟨i, br_i x, hl, by rw [Nat.zero_add]; rfl⟩)
  exact lv_iinc hx hb hd hl' hk hv hn rfl (fun ls h => kk H locs ls hP hS (by rw [← hL]; exact br_set1 (v := br_i v) ho h))
theorem br_iadd {Y : br_Y} {d : Nat} {P : br_post} {G : br_Jg} (C : br_Ok Y d P G) {x y : Int32} {pc : Nat} {L : List (Option br_V)} {st : List br_V} {σ : br_Wd} (hd : decode Y.2.1 pc = .ok (.iadd, 1)) (kk : G (pc + 1) L (br_i (x + y) :: st) σ) : G pc L (br_i y :: br_i x :: st) σ := by
  obtain ⟨p, l, e, R, s, m, args, below, meth, c, cells, slots, Q, D, cI, cZ, ad, A, H0, ⟨hx, hb, hml, hown, hts⟩, ⟨hK, hD, hA, hN⟩, hR, hfin, hG⟩ := C
  rw [hG] at kk ⊢
  intro H locs ls hP hS hl'
  exact lv_iadd hx hb hd (kk H locs ls hP hS hl')
theorem br_isub {Y : br_Y} {d : Nat} {P : br_post} {G : br_Jg} (C : br_Ok Y d P G) {x y : Int32} {pc : Nat} {L : List (Option br_V)} {st : List br_V} {σ : br_Wd} (hd : decode Y.2.1 pc = .ok (.isub, 1)) (kk : G (pc + 1) L (br_i (x - y) :: st) σ) : G pc L (br_i y :: br_i x :: st) σ := by
  obtain ⟨p, l, e, R, s, m, args, below, meth, c, cells, slots, Q, D, cI, cZ, ad, A, H0, ⟨hx, hb, hml, hown, hts⟩, ⟨hK, hD, hA, hN⟩, hR, hfin, hG⟩ := C
  rw [hG] at kk ⊢
  intro H locs ls hP hS hl'
  exact lv_isub hx hb hd (kk H locs ls hP hS hl')
theorem br_imul {Y : br_Y} {d : Nat} {P : br_post} {G : br_Jg} (C : br_Ok Y d P G) {x y : Int32} {pc : Nat} {L : List (Option br_V)} {st : List br_V} {σ : br_Wd} (hd : decode Y.2.1 pc = .ok (.imul, 1)) (kk : G (pc + 1) L (br_i (x * y) :: st) σ) : G pc L (br_i y :: br_i x :: st) σ := by
  obtain ⟨p, l, e, R, s, m, args, below, meth, c, cells, slots, Q, D, cI, cZ, ad, A, H0, ⟨hx, hb, hml, hown, hts⟩, ⟨hK, hD, hA, hN⟩, hR, hfin, hG⟩ := C
  rw [hG] at kk ⊢
  intro H locs ls hP hS hl'
  exact lv_imul hx hb hd (kk H locs ls hP hS hl')
theorem br_iand {Y : br_Y} {d : Nat} {P : br_post} {G : br_Jg} (C : br_Ok Y d P G) {x y : Int32} {pc : Nat} {L : List (Option br_V)} {st : List br_V} {σ : br_Wd} (hd : decode Y.2.1 pc = .ok (.iand, 1)) (kk : G (pc + 1) L (br_i (x &&& y) :: st) σ) : G pc L (br_i y :: br_i x :: st) σ := by
  obtain ⟨p, l, e, R, s, m, args, below, meth, c, cells, slots, Q, D, cI, cZ, ad, A, H0, ⟨hx, hb, hml, hown, hts⟩, ⟨hK, hD, hA, hN⟩, hR, hfin, hG⟩ := C
  rw [hG] at kk ⊢
  intro H locs ls hP hS hl'
  exact lv_iand hx hb hd (kk H locs ls hP hS hl')
theorem br_ior {Y : br_Y} {d : Nat} {P : br_post} {G : br_Jg} (C : br_Ok Y d P G) {x y : Int32} {pc : Nat} {L : List (Option br_V)} {st : List br_V} {σ : br_Wd} (hd : decode Y.2.1 pc = .ok (.ior, 1)) (kk : G (pc + 1) L (br_i (x ||| y) :: st) σ) : G pc L (br_i y :: br_i x :: st) σ := by
  obtain ⟨p, l, e, R, s, m, args, below, meth, c, cells, slots, Q, D, cI, cZ, ad, A, H0, ⟨hx, hb, hml, hown, hts⟩, ⟨hK, hD, hA, hN⟩, hR, hfin, hG⟩ := C
  rw [hG] at kk ⊢
  intro H locs ls hP hS hl'
  exact lv_ior hx hb hd (kk H locs ls hP hS hl')
theorem br_ishl {Y : br_Y} {d : Nat} {P : br_post} {G : br_Jg} (C : br_Ok Y d P G) {x y : Int32} {pc : Nat} {L : List (Option br_V)} {st : List br_V} {σ : br_Wd} (hd : decode Y.2.1 pc = .ok (.ishl, 1)) (kk : G (pc + 1) L (br_i (x <<< (y &&& 31)) :: st) σ) : G pc L (br_i y :: br_i x :: st) σ := by
  obtain ⟨p, l, e, R, s, m, args, below, meth, c, cells, slots, Q, D, cI, cZ, ad, A, H0, ⟨hx, hb, hml, hown, hts⟩, ⟨hK, hD, hA, hN⟩, hR, hfin, hG⟩ := C
  rw [hG] at kk ⊢
  intro H locs ls hP hS hl'
  exact lv_ishl hx hb hd (kk H locs ls hP hS hl')
theorem br_ishr {Y : br_Y} {d : Nat} {P : br_post} {G : br_Jg} (C : br_Ok Y d P G) {x y : Int32} {pc : Nat} {L : List (Option br_V)} {st : List br_V} {σ : br_Wd} (hd : decode Y.2.1 pc = .ok (.ishr, 1)) (kk : G (pc + 1) L (br_i (x >>> (y &&& 31)) :: st) σ) : G pc L (br_i y :: br_i x :: st) σ := by
  obtain ⟨p, l, e, R, s, m, args, below, meth, c, cells, slots, Q, D, cI, cZ, ad, A, H0, ⟨hx, hb, hml, hown, hts⟩, ⟨hK, hD, hA, hN⟩, hR, hfin, hG⟩ := C
  rw [hG] at kk ⊢
  intro H locs ls hP hS hl'
  exact lv_ishr hx hb hd (kk H locs ls hP hS hl')
theorem br_idiv {Y : br_Y} {d : Nat} {P : br_post} {G : br_Jg} (C : br_Ok Y d P G) {x y : Int32} {pc : Nat} {L : List (Option br_V)} {st : List br_V} {σ : br_Wd} (hne : ¬ y = 0) (hd : decode Y.2.1 pc = .ok (.idiv, 1)) (kk : G (pc + 1) L (br_i (x / y) :: st) σ) : G pc L (br_i y :: br_i x :: st) σ := by
  obtain ⟨p, l, e, R, s, m, args, below, meth, c, cells, slots, Q, D, cI, cZ, ad, A, H0, ⟨hx, hb, hml, hown, hts⟩, ⟨hK, hD, hA, hN⟩, hR, hfin, hG⟩ := C
  rw [hG] at kk ⊢
  intro H locs ls hP hS hl'
  exact lv_idiv hx hb hd hne (kk H locs ls hP hS hl')
theorem br_irem {Y : br_Y} {d : Nat} {P : br_post} {G : br_Jg} (C : br_Ok Y d P G) {x y : Int32} {pc : Nat} {L : List (Option br_V)} {st : List br_V} {σ : br_Wd} (hne : ¬ y = 0) (hd : decode Y.2.1 pc = .ok (.irem, 1)) (kk : G (pc + 1) L (br_i (x - x / y * y) :: st) σ) : G pc L (br_i y :: br_i x :: st) σ := by
  obtain ⟨p, l, e, R, s, m, args, below, meth, c, cells, slots, Q, D, cI, cZ, ad, A, H0, ⟨hx, hb, hml, hown, hts⟩, ⟨hK, hD, hA, hN⟩, hR, hfin, hG⟩ := C
  rw [hG] at kk ⊢
  intro H locs ls hP hS hl'
  exact lv_irem hx hb hd hne (kk H locs ls hP hS hl')
theorem br_ladd {Y : br_Y} {d : Nat} {P : br_post} {G : br_Jg} (C : br_Ok Y d P G) {x y : Int64} {pc : Nat} {L : List (Option br_V)} {st : List br_V} {σ : br_Wd} (hd : decode Y.2.1 pc = .ok (.ladd, 1)) (kk : G (pc + 1) L (br_l (x + y) :: st) σ) : G pc L (br_l y :: br_l x :: st) σ := by
  obtain ⟨p, l, e, R, s, m, args, below, meth, c, cells, slots, Q, D, cI, cZ, ad, A, H0, ⟨hx, hb, hml, hown, hts⟩, ⟨hK, hD, hA, hN⟩, hR, hfin, hG⟩ := C
  rw [hG] at kk ⊢
  intro H locs ls hP hS hl'
  exact lv_ladd hx hb hd (kk H locs ls hP hS hl')
theorem br_lmul {Y : br_Y} {d : Nat} {P : br_post} {G : br_Jg} (C : br_Ok Y d P G) {x y : Int64} {pc : Nat} {L : List (Option br_V)} {st : List br_V} {σ : br_Wd} (hd : decode Y.2.1 pc = .ok (.lmul, 1)) (kk : G (pc + 1) L (br_l (x * y) :: st) σ) : G pc L (br_l y :: br_l x :: st) σ := by
  obtain ⟨p, l, e, R, s, m, args, below, meth, c, cells, slots, Q, D, cI, cZ, ad, A, H0, ⟨hx, hb, hml, hown, hts⟩, ⟨hK, hD, hA, hN⟩, hR, hfin, hG⟩ := C
  rw [hG] at kk ⊢
  intro H locs ls hP hS hl'
  exact lv_lmul hx hb hd (kk H locs ls hP hS hl')
theorem br_land {Y : br_Y} {d : Nat} {P : br_post} {G : br_Jg} (C : br_Ok Y d P G) {x y : Int64} {pc : Nat} {L : List (Option br_V)} {st : List br_V} {σ : br_Wd} (hd : decode Y.2.1 pc = .ok (.land, 1)) (kk : G (pc + 1) L (br_l (x &&& y) :: st) σ) : G pc L (br_l y :: br_l x :: st) σ := by
  obtain ⟨p, l, e, R, s, m, args, below, meth, c, cells, slots, Q, D, cI, cZ, ad, A, H0, ⟨hx, hb, hml, hown, hts⟩, ⟨hK, hD, hA, hN⟩, hR, hfin, hG⟩ := C
  rw [hG] at kk ⊢
  intro H locs ls hP hS hl'
  exact lv_land hx hb hd (kk H locs ls hP hS hl')
theorem br_lrem {Y : br_Y} {d : Nat} {P : br_post} {G : br_Jg} (C : br_Ok Y d P G) {x y : Int64} {pc : Nat} {L : List (Option br_V)} {st : List br_V} {σ : br_Wd} (hne : ¬ y = 0) (hd : decode Y.2.1 pc = .ok (.lrem, 1)) (kk : G (pc + 1) L (br_l (x - x / y * y) :: st) σ) : G pc L (br_l y :: br_l x :: st) σ := by
  obtain ⟨p, l, e, R, s, m, args, below, meth, c, cells, slots, Q, D, cI, cZ, ad, A, H0, ⟨hx, hb, hml, hown, hts⟩, ⟨hK, hD, hA, hN⟩, hR, hfin, hG⟩ := C
  rw [hG] at kk ⊢
  intro H locs ls hP hS hl'
  exact lv_lrem hx hb hd hne (kk H locs ls hP hS hl')
theorem br_i2l {Y : br_Y} {d : Nat} {P : br_post} {G : br_Jg} (C : br_Ok Y d P G) {x : Int32} {pc : Nat} {L : List (Option br_V)} {st : List br_V} {σ : br_Wd} (hd : decode Y.2.1 pc = .ok (.i2l, 1)) (kk : G (pc + 1) L (br_l x.toInt64 :: st) σ) : G pc L (br_i x :: st) σ := by
  obtain ⟨p, l, e, R, s, m, args, below, meth, c, cells, slots, Q, D, cI, cZ, ad, A, H0, ⟨hx, hb, hml, hown, hts⟩, ⟨hK, hD, hA, hN⟩, hR, hfin, hG⟩ := C
  rw [hG] at kk ⊢
  intro H locs ls hP hS hl'
  exact lv_i2l hx hb hd rfl (kk H locs ls hP hS hl')
theorem br_l2i {Y : br_Y} {d : Nat} {P : br_post} {G : br_Jg} (C : br_Ok Y d P G) {x : Int64} {pc : Nat} {L : List (Option br_V)} {st : List br_V} {σ : br_Wd} (hd : decode Y.2.1 pc = .ok (.l2i, 1)) (kk : G (pc + 1) L (br_i x.toInt32 :: st) σ) : G pc L (br_l x :: st) σ := by
  obtain ⟨p, l, e, R, s, m, args, below, meth, c, cells, slots, Q, D, cI, cZ, ad, A, H0, ⟨hx, hb, hml, hown, hts⟩, ⟨hK, hD, hA, hN⟩, hR, hfin, hG⟩ := C
  rw [hG] at kk ⊢
  intro H locs ls hP hS hl'
  exact lv_l2i hx hb hd rfl (kk H locs ls hP hS hl')
theorem br_lcmp {Y : br_Y} {d : Nat} {P : br_post} {G : br_Jg} (C : br_Ok Y d P G) {x y : Int64} {pc : Nat} {L : List (Option br_V)} {st : List br_V} {σ : br_Wd} (hd : decode Y.2.1 pc = .ok (.lcmp, 1)) (kk : G (pc + 1) L (br_i (lg_cmp x y) :: st) σ) : G pc L (br_l y :: br_l x :: st) σ := by
  obtain ⟨p, l, e, R, s, m, args, below, meth, c, cells, slots, Q, D, cI, cZ, ad, A, H0, ⟨hx, hb, hml, hown, hts⟩, ⟨hK, hD, hA, hN⟩, hR, hfin, hG⟩ := C
  rw [hG] at kk ⊢
  intro H locs ls hP hS hl'
  exact W.lcmp hx hb hd (kk H locs ls hP hS hl')
theorem br_dup {Y : br_Y} {d : Nat} {P : br_post} {G : br_Jg} (C : br_Ok Y d P G) {v : br_V} {pc : Nat} {L : List (Option br_V)} {st : List br_V} {σ : br_Wd} (hd : decode Y.2.1 pc = .ok (.dup, 1)) (hv : br_isl v = false) (kk : G (pc + 1) L (v :: v :: st) σ) : G pc L (v :: st) σ := by
  obtain ⟨p, l, e, R, s, m, args, below, meth, c, cells, slots, Q, D, cI, cZ, ad, A, H0, ⟨hx, hb, hml, hown, hts⟩, ⟨hK, hD, hA, hN⟩, hR, hfin, hG⟩ := C
  rw [hG] at kk ⊢
  intro H locs ls hP hS hl'
  refine lv_dup hx hb hd ?_ (kk H locs ls hP hS hl')
  match v, hv with
  | .inl x, _ => rfl
  | .inr (.inr q), _ => rfl
theorem br_goto {Y : br_Y} {d : Nat} {P : br_post} {G : br_Jg} (C : br_Ok Y d P G) {off : Int} {tgt : Nat} {pc : Nat} {L : List (Option br_V)} {st : List br_V} {σ : br_Wd} (hd : decode Y.2.1 pc = .ok (.goto off, 3)) (ht : (pc : Int) + off = (tgt : Int)) (kk : G tgt L st σ) : G pc L st σ := by
  obtain ⟨p, l, e, R, s, m, args, below, meth, c, cells, slots, Q, D, cI, cZ, ad, A, H0, ⟨hx, hb, hml, hown, hts⟩, ⟨hK, hD, hA, hN⟩, hR, hfin, hG⟩ := C
  rw [hG] at kk ⊢
  intro H locs ls hP hS hl'
  exact lv_goto hx hb hd ht (kk H locs ls hP hS hl')
theorem br_name {α : Sort _} {Q : α → Prop} (x : α) (h : ∀ y, y = x → Q y) : Q x := h x rfl
theorem br_if_eq {Y : br_Y} {d : Nat} {P : br_post} {G : br_Jg} (C : br_Ok Y d P G) {x : Int32} {off : Int} {tgt : Nat} {pc : Nat} {L : List (Option br_V)} {st : List br_V} {σ : br_Wd} (hd : decode Y.2.1 pc = .ok (.ifCond .eq off, 3)) (ht : (pc : Int) + off = (tgt : Int)) (kt : x = 0 → G tgt L st σ) (kf : ¬ x = 0 → G (pc + 3) L st σ) : G pc L (br_i x :: st) σ := by
  obtain ⟨p, l, e, R, s, m, args, below, meth, c, cells, slots, Q, D, cI, cZ, ad, A, H0, ⟨hx, hb, hml, hown, hts⟩, ⟨hK, hD, hA, hN⟩, hR, hfin, hG⟩ := C
  rw [hG]
  intro H locs ls hP hS hl'
  exact lv_if_eq hx hb hd ht (fun h => (hG _ _ _ _).mp (kt h) H locs ls hP hS hl') (fun h => (hG _ _ _ _).mp (kf h) H locs ls hP hS hl')
theorem br_icmp_eq {Y : br_Y} {d : Nat} {P : br_post} {G : br_Jg} (C : br_Ok Y d P G) {x y : Int32} {off : Int} {tgt : Nat} {pc : Nat} {L : List (Option br_V)} {st : List br_V} {σ : br_Wd} (hd : decode Y.2.1 pc = .ok (.if_icmp .eq off, 3)) (ht : (pc : Int) + off = (tgt : Int)) (kt : x = y → G tgt L st σ) (kf : ¬ x = y → G (pc + 3) L st σ) : G pc L (br_i y :: br_i x :: st) σ := by
  obtain ⟨p, l, e, R, s, m, args, below, meth, c, cells, slots, Q, D, cI, cZ, ad, A, H0, ⟨hx, hb, hml, hown, hts⟩, ⟨hK, hD, hA, hN⟩, hR, hfin, hG⟩ := C
  rw [hG]
  intro H locs ls hP hS hl'
  exact lv_icmp_eq hx hb hd ht (fun h => (hG _ _ _ _).mp (kt h) H locs ls hP hS hl') (fun h => (hG _ _ _ _).mp (kf h) H locs ls hP hS hl')
theorem br_if_ne {Y : br_Y} {d : Nat} {P : br_post} {G : br_Jg} (C : br_Ok Y d P G) {x : Int32} {off : Int} {tgt : Nat} {pc : Nat} {L : List (Option br_V)} {st : List br_V} {σ : br_Wd} (hd : decode Y.2.1 pc = .ok (.ifCond .ne off, 3)) (ht : (pc : Int) + off = (tgt : Int)) (kt : ¬ x = 0 → G tgt L st σ) (kf : x = 0 → G (pc + 3) L st σ) : G pc L (br_i x :: st) σ := by
  obtain ⟨p, l, e, R, s, m, args, below, meth, c, cells, slots, Q, D, cI, cZ, ad, A, H0, ⟨hx, hb, hml, hown, hts⟩, ⟨hK, hD, hA, hN⟩, hR, hfin, hG⟩ := C
  rw [hG]
  intro H locs ls hP hS hl'
  exact lv_if_ne hx hb hd ht (fun h => (hG _ _ _ _).mp (kt h) H locs ls hP hS hl') (fun h => (hG _ _ _ _).mp (kf h) H locs ls hP hS hl')
theorem br_icmp_ne {Y : br_Y} {d : Nat} {P : br_post} {G : br_Jg} (C : br_Ok Y d P G) {x y : Int32} {off : Int} {tgt : Nat} {pc : Nat} {L : List (Option br_V)} {st : List br_V} {σ : br_Wd} (hd : decode Y.2.1 pc = .ok (.if_icmp .ne off, 3)) (ht : (pc : Int) + off = (tgt : Int)) (kt : ¬ x = y → G tgt L st σ) (kf : x = y → G (pc + 3) L st σ) : G pc L (br_i y :: br_i x :: st) σ := by
  obtain ⟨p, l, e, R, s, m, args, below, meth, c, cells, slots, Q, D, cI, cZ, ad, A, H0, ⟨hx, hb, hml, hown, hts⟩, ⟨hK, hD, hA, hN⟩, hR, hfin, hG⟩ := C
  rw [hG]
  intro H locs ls hP hS hl'
  exact lv_icmp_ne hx hb hd ht (fun h => (hG _ _ _ _).mp (kt h) H locs ls hP hS hl') (fun h => (hG _ _ _ _).mp (kf h) H locs ls hP hS hl')
theorem br_if_lt {Y : br_Y} {d : Nat} {P : br_post} {G : br_Jg} (C : br_Ok Y d P G) {x : Int32} {off : Int} {tgt : Nat} {pc : Nat} {L : List (Option br_V)} {st : List br_V} {σ : br_Wd} (hd : decode Y.2.1 pc = .ok (.ifCond .lt off, 3)) (ht : (pc : Int) + off = (tgt : Int)) (kt : x < 0 → G tgt L st σ) (kf : ¬ x < 0 → G (pc + 3) L st σ) : G pc L (br_i x :: st) σ := by
  obtain ⟨p, l, e, R, s, m, args, below, meth, c, cells, slots, Q, D, cI, cZ, ad, A, H0, ⟨hx, hb, hml, hown, hts⟩, ⟨hK, hD, hA, hN⟩, hR, hfin, hG⟩ := C
  rw [hG]
  intro H locs ls hP hS hl'
  exact lv_if_lt hx hb hd ht (fun h => (hG _ _ _ _).mp (kt h) H locs ls hP hS hl') (fun h => (hG _ _ _ _).mp (kf h) H locs ls hP hS hl')
theorem br_icmp_lt {Y : br_Y} {d : Nat} {P : br_post} {G : br_Jg} (C : br_Ok Y d P G) {x y : Int32} {off : Int} {tgt : Nat} {pc : Nat} {L : List (Option br_V)} {st : List br_V} {σ : br_Wd} (hd : decode Y.2.1 pc = .ok (.if_icmp .lt off, 3)) (ht : (pc : Int) + off = (tgt : Int)) (kt : x < y → G tgt L st σ) (kf : ¬ x < y → G (pc + 3) L st σ) : G pc L (br_i y :: br_i x :: st) σ := by
  obtain ⟨p, l, e, R, s, m, args, below, meth, c, cells, slots, Q, D, cI, cZ, ad, A, H0, ⟨hx, hb, hml, hown, hts⟩, ⟨hK, hD, hA, hN⟩, hR, hfin, hG⟩ := C
  rw [hG]
  intro H locs ls hP hS hl'
  exact lv_icmp_lt hx hb hd ht (fun h => (hG _ _ _ _).mp (kt h) H locs ls hP hS hl') (fun h => (hG _ _ _ _).mp (kf h) H locs ls hP hS hl')
theorem br_if_ge {Y : br_Y} {d : Nat} {P : br_post} {G : br_Jg} (C : br_Ok Y d P G) {x : Int32} {off : Int} {tgt : Nat} {pc : Nat} {L : List (Option br_V)} {st : List br_V} {σ : br_Wd} (hd : decode Y.2.1 pc = .ok (.ifCond .ge off, 3)) (ht : (pc : Int) + off = (tgt : Int)) (kt : 0 ≤ x → G tgt L st σ) (kf : ¬ 0 ≤ x → G (pc + 3) L st σ) : G pc L (br_i x :: st) σ := by
  obtain ⟨p, l, e, R, s, m, args, below, meth, c, cells, slots, Q, D, cI, cZ, ad, A, H0, ⟨hx, hb, hml, hown, hts⟩, ⟨hK, hD, hA, hN⟩, hR, hfin, hG⟩ := C
  rw [hG]
  intro H locs ls hP hS hl'
  exact lv_if_ge hx hb hd ht (fun h => (hG _ _ _ _).mp (kt h) H locs ls hP hS hl') (fun h => (hG _ _ _ _).mp (kf h) H locs ls hP hS hl')
theorem br_icmp_ge {Y : br_Y} {d : Nat} {P : br_post} {G : br_Jg} (C : br_Ok Y d P G) {x y : Int32} {off : Int} {tgt : Nat} {pc : Nat} {L : List (Option br_V)} {st : List br_V} {σ : br_Wd} (hd : decode Y.2.1 pc = .ok (.if_icmp .ge off, 3)) (ht : (pc : Int) + off = (tgt : Int)) (kt : y ≤ x → G tgt L st σ) (kf : ¬ y ≤ x → G (pc + 3) L st σ) : G pc L (br_i y :: br_i x :: st) σ := by
  obtain ⟨p, l, e, R, s, m, args, below, meth, c, cells, slots, Q, D, cI, cZ, ad, A, H0, ⟨hx, hb, hml, hown, hts⟩, ⟨hK, hD, hA, hN⟩, hR, hfin, hG⟩ := C
  rw [hG]
  intro H locs ls hP hS hl'
  exact lv_icmp_ge hx hb hd ht (fun h => (hG _ _ _ _).mp (kt h) H locs ls hP hS hl') (fun h => (hG _ _ _ _).mp (kf h) H locs ls hP hS hl')
theorem br_if_gt {Y : br_Y} {d : Nat} {P : br_post} {G : br_Jg} (C : br_Ok Y d P G) {x : Int32} {off : Int} {tgt : Nat} {pc : Nat} {L : List (Option br_V)} {st : List br_V} {σ : br_Wd} (hd : decode Y.2.1 pc = .ok (.ifCond .gt off, 3)) (ht : (pc : Int) + off = (tgt : Int)) (kt : 0 < x → G tgt L st σ) (kf : ¬ 0 < x → G (pc + 3) L st σ) : G pc L (br_i x :: st) σ := by
  obtain ⟨p, l, e, R, s, m, args, below, meth, c, cells, slots, Q, D, cI, cZ, ad, A, H0, ⟨hx, hb, hml, hown, hts⟩, ⟨hK, hD, hA, hN⟩, hR, hfin, hG⟩ := C
  rw [hG]
  intro H locs ls hP hS hl'
  exact lv_if_gt hx hb hd ht (fun h => (hG _ _ _ _).mp (kt h) H locs ls hP hS hl') (fun h => (hG _ _ _ _).mp (kf h) H locs ls hP hS hl')
theorem br_icmp_gt {Y : br_Y} {d : Nat} {P : br_post} {G : br_Jg} (C : br_Ok Y d P G) {x y : Int32} {off : Int} {tgt : Nat} {pc : Nat} {L : List (Option br_V)} {st : List br_V} {σ : br_Wd} (hd : decode Y.2.1 pc = .ok (.if_icmp .gt off, 3)) (ht : (pc : Int) + off = (tgt : Int)) (kt : y < x → G tgt L st σ) (kf : ¬ y < x → G (pc + 3) L st σ) : G pc L (br_i y :: br_i x :: st) σ := by
  obtain ⟨p, l, e, R, s, m, args, below, meth, c, cells, slots, Q, D, cI, cZ, ad, A, H0, ⟨hx, hb, hml, hown, hts⟩, ⟨hK, hD, hA, hN⟩, hR, hfin, hG⟩ := C
  rw [hG]
  intro H locs ls hP hS hl'
  exact lv_icmp_gt hx hb hd ht (fun h => (hG _ _ _ _).mp (kt h) H locs ls hP hS hl') (fun h => (hG _ _ _ _).mp (kf h) H locs ls hP hS hl')
theorem br_if_le {Y : br_Y} {d : Nat} {P : br_post} {G : br_Jg} (C : br_Ok Y d P G) {x : Int32} {off : Int} {tgt : Nat} {pc : Nat} {L : List (Option br_V)} {st : List br_V} {σ : br_Wd} (hd : decode Y.2.1 pc = .ok (.ifCond .le off, 3)) (ht : (pc : Int) + off = (tgt : Int)) (kt : x ≤ 0 → G tgt L st σ) (kf : ¬ x ≤ 0 → G (pc + 3) L st σ) : G pc L (br_i x :: st) σ := by
  obtain ⟨p, l, e, R, s, m, args, below, meth, c, cells, slots, Q, D, cI, cZ, ad, A, H0, ⟨hx, hb, hml, hown, hts⟩, ⟨hK, hD, hA, hN⟩, hR, hfin, hG⟩ := C
  rw [hG]
  intro H locs ls hP hS hl'
  exact lv_if_le hx hb hd ht (fun h => (hG _ _ _ _).mp (kt h) H locs ls hP hS hl') (fun h => (hG _ _ _ _).mp (kf h) H locs ls hP hS hl')
theorem br_icmp_le {Y : br_Y} {d : Nat} {P : br_post} {G : br_Jg} (C : br_Ok Y d P G) {x y : Int32} {off : Int} {tgt : Nat} {pc : Nat} {L : List (Option br_V)} {st : List br_V} {σ : br_Wd} (hd : decode Y.2.1 pc = .ok (.if_icmp .le off, 3)) (ht : (pc : Int) + off = (tgt : Int)) (kt : x ≤ y → G tgt L st σ) (kf : ¬ x ≤ y → G (pc + 3) L st σ) : G pc L (br_i y :: br_i x :: st) σ := by
  obtain ⟨p, l, e, R, s, m, args, below, meth, c, cells, slots, Q, D, cI, cZ, ad, A, H0, ⟨hx, hb, hml, hown, hts⟩, ⟨hK, hD, hA, hN⟩, hR, hfin, hG⟩ := C
  rw [hG]
  intro H locs ls hP hS hl'
  exact lv_icmp_le hx hb hd ht (fun h => (hG _ _ _ _).mp (kt h) H locs ls hP hS hl') (fun h => (hG _ _ _ _).mp (kf h) H locs ls hP hS hl')
theorem br_tableIn {Y : br_Y} {d : Nat} {P : br_post} {G : br_Jg} (C : br_Ok Y d P G) {dflt lo hi : Int} {offs : Array Int} {len : Nat} {x : Int32} {off : Int} {tgt : Nat} {pc : Nat} {L : List (Option br_V)} {st : List br_V} {σ : br_Wd} (hd : decode Y.2.1 pc = .ok (.tableswitch dflt lo hi offs, len)) (h1 : ¬ x.toInt < lo) (h2 : ¬ hi < x.toInt) (ho : offs[(x.toInt - lo).toNat]? = some off) (ht : (pc : Int) + off = (tgt : Int)) (kk : G tgt L st σ) : G pc L (br_i x :: st) σ := by
  obtain ⟨p, l, e, R, s, m, args, below, meth, c, cells, slots, Q, D, cI, cZ, ad, A, H0, ⟨hx, hb, hml, hown, hts⟩, ⟨hK, hD, hA, hN⟩, hR, hfin, hG⟩ := C
  rw [hG] at kk ⊢
  intro H locs ls hP hS hl'
  exact lv_tableIn hx hb hd h1 h2 ho ht (kk H locs ls hP hS hl')
theorem br_tableOut {Y : br_Y} {d : Nat} {P : br_post} {G : br_Jg} (C : br_Ok Y d P G) {dflt lo hi : Int} {offs : Array Int} {len : Nat} {x : Int32} {tgt : Nat} {pc : Nat} {L : List (Option br_V)} {st : List br_V} {σ : br_Wd} (hd : decode Y.2.1 pc = .ok (.tableswitch dflt lo hi offs, len)) (h : x.toInt < lo ∨ hi < x.toInt) (ht : (pc : Int) + dflt = (tgt : Int)) (kk : G tgt L st σ) : G pc L (br_i x :: st) σ := by
  obtain ⟨p, l, e, R, s, m, args, below, meth, c, cells, slots, Q, D, cI, cZ, ad, A, H0, ⟨hx, hb, hml, hown, hts⟩, ⟨hK, hD, hA, hN⟩, hR, hfin, hG⟩ := C
  rw [hG] at kk ⊢
  intro H locs ls hP hS hl'
  exact lv_tableOut hx hb hd h ht (kk H locs ls hP hS hl')
theorem br_sub1 {Y : br_Y} {d : Nat} {P : br_post} {G : br_Jg} (C : br_Ok Y d P G) {L' : List (Option br_V)} {pc : Nat} {L : List (Option br_V)} {st : List br_V} {σ : br_Wd} (hs : br_sub L' L) (kk : G pc L' st σ) : G pc L st σ := by
  obtain ⟨p, l, e, R, s, m, args, below, meth, c, cells, slots, Q, D, cI, cZ, ad, A, H0, ⟨hx, hb, hml, hown, hts⟩, ⟨hK, hD, hA, hN⟩, hR, hfin, hG⟩ := C
  rw [hG] at kk ⊢
  intro H locs ls hP hS hl'
  exact kk H locs ls hP hS (hs.has hl')
-- a class of the world: its rows; a field: its link, its place, its type
def br_Cl (ci : Nat) (Cn : String) (T : u_T) (N : Nat) : Prop := vwCl[ci]? = some (Cn, T, N) ∧ (∀ w ∈ u_ws Cn T N, w ∈ br_W0) ∧ ∃ ty : Nat → FieldType, (∀ k, k < N → parseFieldDescriptor (T k).2.2.1 = some (ty k)) ∧ ∀ a, a < N → ∀ b, b < N → a ≠ b → (T a).2.1 ≠ (T b).2.1
def br_FL (own : String) (idx : Nat) (f : String × String × String × Bool) : Prop := Cond.fieldLink own idx f.1 f.2.1 f.2.2.1 ∈ br_W0 ∨ (own, idx, f.1, f.2.1, f.2.2.1, "BarRoutine") ∈ br_nest
def br_fd (own : String) (idx ci k : Nat) (fin : Bool) (ty : FieldType) : Prop := ∃ (Cn : String) (T : u_T) (N : Nat), br_Cl ci Cn T N ∧ k < N ∧ br_FL own idx (T k) ∧ (T k).2.2.2 = fin ∧ parseFieldDescriptor (T k).2.2.1 = some ty
theorem br_get {Y : br_Y} {d : Nat} {P : br_post} {G : br_Jg} (C : br_Ok Y d P G) {idx ci k : Nat} {fin : Bool} {ty : FieldType} (hf : br_fd Y.1.cls idx ci k fin ty) {q : Nat} {fs : List br_FK} {fk : br_FK} {v : br_V} {pc : Nat} {L : List (Option br_V)} {st : List br_V} {σ : br_Wd} (hd : decode Y.2.1 pc = .ok (.getfield idx, 3)) (hs : br_shps[q]? = some (.inr (ci, fs))) (hk : fs[k]? = some fk) (hv : ∀ ad, br_fv ad σ q k fk = br_av ad v) (kk : G (pc + 3) L (v :: st) σ) : G pc L (br_r q :: st) σ := by
  obtain ⟨p, l, e, R, s, m, args, below, meth, c, cells, slots, Q, D, cI, cZ, ad, A, H0, ⟨hx, hb, hml, hown, hts⟩, ⟨hK, hD, hA, hN⟩, hR, hfin, hG⟩ := C
  rw [hG] at kk ⊢
  intro H locs ls hP hS hl'
  obtain ⟨Cn, T, N, ⟨hc, hin, -⟩, hkN, hfl, -, -⟩ := hf
  have he : (br_W cI cZ ad σ)[q]? = some (ad q, .inr (ci, br_mkF ad σ q 0 fs)) := br_W_get hs
  have hvv : (br_mkF ad σ q 0 fs)[k]? = some (br_av ad v) := by rw [br_mkF_get, hk, Nat.zero_add]; exact congrArg some (hv ad)
  rcases hfl with hfl | hfl
  · exact va_get hx hb hts hin hown hK hP q he hc k hkN (hts _ hfl) (fun _ h => h) hvv hd (kk H locs ls hP hS hl')
  · exact va_getN (host := "BarRoutine") hx hb hts hin hown hK hP q he hc k hkN (va_Nw.use rfl (hN.1 _ hfl)) (fun _ h => h) hvv hd (kk H locs ls hP hS hl')
theorem br_getI {Y : br_Y} {d : Nat} {P : br_post} {G : br_Jg} (C : br_Ok Y d P G) {idx ci k : Nat} {fin : Bool} {ty : FieldType} (hf : br_fd Y.1.cls idx ci k fin ty) {q : Nat} {fs : List br_FK} {x : Int32} {pc : Nat} {L : List (Option br_V)} {st : List br_V} {σ : br_Wd} (hd : decode Y.2.1 pc = .ok (.getfield idx, 3)) (hs : br_shps[q]? = some (.inr (ci, fs))) (hk : fs[k]? = some none) (hv : σ.1 q k = x) (kk : G (pc + 3) L (br_i x :: st) σ) : G pc L (br_r q :: st) σ :=
  br_get C hf hd hs hk (fun ad => by subst hv; rfl) kk
theorem br_getR {Y : br_Y} {d : Nat} {P : br_post} {G : br_Jg} (C : br_Ok Y d P G) {idx ci k : Nat} {fin : Bool} {ty : FieldType} (hf : br_fd Y.1.cls idx ci k fin ty) {q r : Nat} {fs : List br_FK} {pc : Nat} {L : List (Option br_V)} {st : List br_V} {σ : br_Wd} (hd : decode Y.2.1 pc = .ok (.getfield idx, 3)) (hs : br_shps[q]? = some (.inr (ci, fs))) (hk : fs[k]? = some (some (some r))) (kk : G (pc + 3) L (br_r r :: st) σ) : G pc L (br_r q :: st) σ :=
  br_get C hf hd hs hk (fun ad => rfl) kk
theorem br_getL {Y : br_Y} {d : Nat} {P : br_post} {G : br_Jg} (C : br_Ok Y d P G) {idx ci k : Nat} {fin : Bool} {ty : FieldType} (hf : br_fd Y.1.cls idx ci k fin ty) {q : Nat} {fs : List br_FK} {x : Int64} {pc : Nat} {L : List (Option br_V)} {st : List br_V} {σ : br_Wd} (hd : decode Y.2.1 pc = .ok (.getfield idx, 3)) (hs : br_shps[q]? = some (.inr (ci, fs))) (hk : fs[k]? = some (some none)) (hv : σ.2 = x) (kk : G (pc + 3) L (br_l x :: st) σ) : G pc L (br_r q :: st) σ :=
  br_get C hf hd hs hk (fun ad => by subst hv; rfl) kk
theorem br_put {Y : br_Y} {d : Nat} {P : br_post} {G : br_Jg} (C : br_Ok Y d P G) {idx ci k : Nat} {ty : FieldType} (hf : br_fd Y.1.cls idx ci k false ty) {q : Nat} {fs : List br_FK} {x : Int32} {pc : Nat} {L : List (Option br_V)} {st : List br_V} {σ σ' : br_Wd} (hd : decode Y.2.1 pc = .ok (.putfield idx, 3)) (hs : br_shps[q]? = some (.inr (ci, fs))) (hk : fs[k]? = some none) (hn : narrow ty (.int x) = .int x) (hfit : fits ty (.int x) = true) (hu : br_up σ q k x = σ') (kk : G (pc + 3) L st σ') : G pc L (br_i x :: br_r q :: st) σ := by
  obtain ⟨p, l, e, R, s, m, args, below, meth, c, cells, slots, Q, D, cI, cZ, ad, A, H0, ⟨hx, hb, hml, hown, hts⟩, ⟨hK, hD, hA, hN⟩, hR, hfin, hG⟩ := C
  rw [hG] at kk ⊢
  intro H locs ls hP hS hl'
  subst hu
  obtain ⟨Cn, T, N, ⟨hc, hin, ty0, hty, hnm⟩, hkN, hfl, hfin2, hpt⟩ := hf
  have he : (br_W cI cZ ad σ)[q]? = some (ad q, .inr (ci, br_mkF ad σ q 0 fs)) := br_W_get hs
  have hlen : k < (br_mkF ad σ q 0 fs).length := by
    have := br_mkF_get ad σ q fs 0 k
    rw [hk] at this
    exact (List.getElem?_eq_some_iff.mp this).1
  have eq : (br_W cI cZ ad σ).set q (ad q, .inr (ci, (br_mkF ad σ q 0 fs).set k (.int x))) = br_W cI cZ ad (br_up σ q k x) := by rw [br_mkF_put hk]; exact br_W_up hs
  rcases hfl with hfl | hfl
  · exact va_put hx hb hts hin ty0 hty hnm hown hK hP (hD σ) hS q he hc k hkN (hts _ hfl) (fun _ h => h) hfin2 hpt hn hfit hlen hd (fun H1 locs1 hP1 _ hS1 => kk H1 locs1 ls (by rw [← eq]; exact hP1) hS1 hl')
  · exact va_putN (host := "BarRoutine") hx hb hts hin ty0 hty hnm hown hK hP (hD σ) hS q he hc k hkN (va_Nw.use rfl (hN.1 _ hfl)) (fun _ h => h) hfin2 hpt hn hfit hlen hd (fun H1 locs1 hP1 _ hS1 => kk H1 locs1 ls (by rw [← eq]; exact hP1) hS1 hl')
theorem br_putI {Y : br_Y} {d : Nat} {P : br_post} {G : br_Jg} (C : br_Ok Y d P G) {idx ci k : Nat} (hf : br_fd Y.1.cls idx ci k false .int) {q : Nat} {fs : List br_FK} {x : Int32} {pc : Nat} {L : List (Option br_V)} {st : List br_V} {σ σ' : br_Wd} (hd : decode Y.2.1 pc = .ok (.putfield idx, 3)) (hs : br_shps[q]? = some (.inr (ci, fs))) (hk : fs[k]? = some none) (hu : br_up σ q k x = σ') (kk : G (pc + 3) L st σ') : G pc L (br_i x :: br_r q :: st) σ :=
  br_put C hf hd hs hk rfl rfl hu kk
theorem br_mkF_putl {ad : Nat → Nat} {σ : br_Wd} {q k : Nat} {v : Int64} {fs : List br_FK} (hk : fs[k]? = some (some none)) (h1 : ∀ j : Nat, fs[j]? = some (some none) → j = k) : (br_mkF ad σ q 0 fs).set k (.long v) = br_mkF ad (br_upl σ v) q 0 fs := by
  apply List.ext_getElem?
  intro j
  rw [List.getElem?_set, br_mkF_get, br_mkF_get]
  have hl2 : k < (br_mkF ad σ q 0 fs).length := by
    have := br_mkF_get ad σ q fs 0 k
    rw [hk] at this
    exact (List.getElem?_eq_some_iff.mp this).1
  by_cases e : k = j
  · subst e
    rw [if_pos rfl, if_pos hl2, hk]
    rfl
  · rw [if_neg e]
    cases hj : fs[j]? with
    | none => rfl
    | some f =>
      cases f with
      | none => rfl
      | some f =>
        cases f with
        | none => exact absurd (h1 j hj).symm e
        | some r => rfl
theorem br_putL {Y : br_Y} {d : Nat} {P : br_post} {G : br_Jg} (C : br_Ok Y d P G) {idx : Nat} (hf : br_fd Y.1.cls idx 5 20 false .long) {x : Int64} {pc : Nat} {L : List (Option br_V)} {st : List br_V} {σ σ' : br_Wd} (hd : decode Y.2.1 pc = .ok (.putfield idx, 3)) (hu : br_upl σ x = σ') (kk : G (pc + 3) L st σ') : G pc L (br_l x :: br_r 23 :: st) σ := by
  obtain ⟨p, l, e, R, s, m, args, below, meth, c, cells, slots, Q, D, cI, cZ, ad, A, H0, ⟨hx, hb, hml, hown, hts⟩, ⟨hK, hD, hA, hN⟩, hR, hfin, hG⟩ := C
  rw [hG] at kk ⊢
  intro H locs ls hP hS hl'
  subst hu
  obtain ⟨Cn, T, N, ⟨hc, hin, ty0, hty, hnm⟩, hkN, hfl, hfin2, hpt⟩ := hf
  obtain ⟨fs, hs, hk, h1⟩ : ∃ fs, br_shps[23]? = some (.inr (5, fs)) ∧ fs[20]? = some (some none) ∧ ∀ j : Nat, fs[j]? = some (some none) → j = 20 := by
    refine ⟨_, rfl, rfl, fun j hj => ?_⟩
    have hl : j < 21 := (List.getElem?_eq_some_iff.mp hj).1
    have key : ∀ j : Fin 21, ([br_fr 24, none, none, none, none, br_fr 25, br_fr 26, none, none, br_fr 27, br_fr 28, none, br_fr 29, none, none, none, none, none, br_fr 30, br_fr 31, some none] : List br_FK)[(j : Nat)]? = some (some none) → (j : Nat) = 20 := by decide +kernel
    exact key ⟨j, hl⟩ hj
  have he : (br_W cI cZ ad σ)[23]? = some (ad 23, .inr (5, br_mkF ad σ 23 0 fs)) := br_W_get hs
  have hlen : 20 < (br_mkF ad σ 23 0 fs).length := by
    have := br_mkF_get ad σ 23 fs 0 20
    rw [hk] at this
    exact (List.getElem?_eq_some_iff.mp this).1
  have eq : (br_W cI cZ ad σ).set 23 (ad 23, .inr (5, (br_mkF ad σ 23 0 fs).set 20 (.long x))) = br_W cI cZ ad (br_upl σ x) := by rw [br_mkF_putl hk h1]; exact br_W_upl hs
  rcases hfl with hfl | hfl
  · exact va_put hx hb hts hin ty0 hty hnm hown hK hP (hD σ) hS 23 he hc 20 hkN (hts _ hfl) (fun _ h => h) hfin2 hpt rfl rfl hlen hd (fun H1 locs1 hP1 _ hS1 => kk H1 locs1 ls (by rw [← eq]; exact hP1) hS1 hl')
  · exact va_putN (host := "BarRoutine") hx hb hts hin ty0 hty hnm hown hK hP (hD σ) hS 23 he hc 20 hkN (va_Nw.use rfl (hN.1 _ hfl)) (fun _ h => h) hfin2 hpt rfl rfl hlen hd (fun H1 locs1 hP1 _ hS1 => kk H1 locs1 ls (by rw [← eq]; exact hP1) hS1 hl')
theorem br_iald {Y : br_Y} {d : Nat} {P : br_post} {G : br_Jg} (C : br_Ok Y d P G) {q n : Nat} {i x : Int32} {pc : Nat} {L : List (Option br_V)} {st : List br_V} {σ : br_Wd} (hs : br_shps[q]? = some (.inl (false, n))) (hin : vp_in i n) (hv : σ.1 q i.toNatClampNeg = x) (hd : decode Y.2.1 pc = .ok (.iaload, 1)) (kk : G (pc + 1) L (br_i x :: st) σ) : G pc L (br_i i :: br_r q :: st) σ := by
  obtain ⟨p, l, e, R, s, m, args, below, meth, c, cells, slots, Q, D, cI, cZ, ad, A, H0, ⟨hx, hb, hml, hown, hts⟩, ⟨hK, hD, hA, hN⟩, hR, hfin, hG⟩ := C
  rw [hG] at kk ⊢
  intro H locs ls hP hS hl'
  subst hv
  exact va_iald (t0 := 0) (n := n) (f := σ.1 q) hx hb hK hP q (br_W_get hs) rfl hin hd (kk H locs ls hP hS hl')
theorem br_zald {Y : br_Y} {d : Nat} {P : br_post} {G : br_Jg} (C : br_Ok Y d P G) {q n : Nat} {i x : Int32} {pc : Nat} {L : List (Option br_V)} {st : List br_V} {σ : br_Wd} (hs : br_shps[q]? = some (.inl (true, n))) (hin : vp_in i n) (hv : σ.1 q i.toNatClampNeg = x) (hd : decode Y.2.1 pc = .ok (.baload, 1)) (kk : G (pc + 1) L (br_i x :: st) σ) : G pc L (br_i i :: br_r q :: st) σ := by
  obtain ⟨p, l, e, R, s, m, args, below, meth, c, cells, slots, Q, D, cI, cZ, ad, A, H0, ⟨hx, hb, hml, hown, hts⟩, ⟨hK, hD, hA, hN⟩, hR, hfin, hG⟩ := C
  rw [hG] at kk ⊢
  intro H locs ls hP hS hl'
  subst hv
  exact va_zald (t0 := 1) (n := n) (f := σ.1 q) hx hb hK hP q (br_W_get hs) rfl hin hd (kk H locs ls hP hS hl')
theorem br_ast_eq {cI cZ : ClassId} {ad : Nat → Nat} {σ : br_Wd} {q n : Nat} {z : Bool} {i : Nat} {x : Int32} (hs : br_shps[q]? = some (.inl (z, n))) : (br_W cI cZ ad σ).set q (ad q, .inl (cond z cZ cI, n, .inl (upd (σ.1 q) i x))) = br_W cI cZ ad (br_up σ q i x) := by
  rw [← br_W_up hs]
  congr 1
  show (ad q, Sum.inl (cond z cZ cI, n, Sum.inl (upd (σ.1 q) i x))) = (ad q, Sum.inl (cond z cZ cI, n, Sum.inl ((br_up σ q i x).1 q)))
  congr 4
  apply congrArg
  funext j
  simp [upd, br_up]
theorem br_iast {Y : br_Y} {d : Nat} {P : br_post} {G : br_Jg} (C : br_Ok Y d P G) {q n : Nat} {i x : Int32} {σ' : br_Wd} {pc : Nat} {L : List (Option br_V)} {st : List br_V} {σ : br_Wd} (hs : br_shps[q]? = some (.inl (false, n))) (hin : vp_in i n) (hu : br_up σ q i.toNatClampNeg x = σ') (hd : decode Y.2.1 pc = .ok (.iastore, 1)) (kk : G (pc + 1) L st σ') : G pc L (br_i x :: br_i i :: br_r q :: st) σ := by
  obtain ⟨p, l, e, R, s, m, args, below, meth, c, cells, slots, Q, D, cI, cZ, ad, A, H0, ⟨hx, hb, hml, hown, hts⟩, ⟨hK, hD, hA, hN⟩, hR, hfin, hG⟩ := C
  rw [hG] at kk ⊢
  intro H locs ls hP hS hl'
  subst hu
  exact va_iast (t0 := 0) (n := n) (f := σ.1 q) hx hb hK hP (hD σ) hS q (br_W_get hs) rfl hin hd (fun H1 locs1 hP1 _ hS1 => kk H1 locs1 ls (by rw [← br_ast_eq hs]; exact hP1) hS1 hl')
theorem br_zast {Y : br_Y} {d : Nat} {P : br_post} {G : br_Jg} (C : br_Ok Y d P G) {q n : Nat} {i x : Int32} {σ' : br_Wd} {pc : Nat} {L : List (Option br_V)} {st : List br_V} {σ : br_Wd} (hs : br_shps[q]? = some (.inl (true, n))) (hin : vp_in i n) (hu : br_up σ q i.toNatClampNeg (vp_nar .boolean x) = σ') (hd : decode Y.2.1 pc = .ok (.bastore, 1)) (kk : G (pc + 1) L st σ') : G pc L (br_i x :: br_i i :: br_r q :: st) σ := by
  obtain ⟨p, l, e, R, s, m, args, below, meth, c, cells, slots, Q, D, cI, cZ, ad, A, H0, ⟨hx, hb, hml, hown, hts⟩, ⟨hK, hD, hA, hN⟩, hR, hfin, hG⟩ := C
  rw [hG] at kk ⊢
  intro H locs ls hP hS hl'
  subst hu
  exact va_zast (t0 := 1) (n := n) (f := σ.1 q) hx hb hK hP (hD σ) hS q (br_W_get hs) rfl hin hd (fun H1 locs1 hP1 _ hS1 => kk H1 locs1 ls (by rw [← br_ast_eq hs]; exact hP1) hS1 hl')
theorem br_alen {Y : br_Y} {d : Nat} {P : br_post} {G : br_Jg} (C : br_Ok Y d P G) {q n : Nat} {v : Int32} {pc : Nat} {L : List (Option br_V)} {st : List br_V} {σ : br_Wd} (hs : br_shps[q]? = some (.inl (false, n))) (hv : Int32.ofNat n = v) (hd : decode Y.2.1 pc = .ok (.arraylength, 1)) (kk : G (pc + 1) L (br_i v :: st) σ) : G pc L (br_r q :: st) σ := by
  obtain ⟨p, l, e, R, s, m, args, below, meth, c, cells, slots, Q, D, cI, cZ, ad, A, H0, ⟨hx, hb, hml, hown, hts⟩, ⟨hK, hD, hA, hN⟩, hR, hfin, hG⟩ := C
  rw [hG] at kk ⊢
  intro H locs ls hP hS hl'
  exact va_alen (t0 := 0) (x := (n, .inl (σ.1 q))) hx hb hK hP q (br_W_get hs) rfl hv hd (kk H locs ls hP hS hl')
-- calls
theorem br_callU {p : Program} {l : Launch} {e : Env} {R : Room} {s : State} {m : MethodId} {args : Array Value} {below : List Frame} {meth : Method} {c : Code} {H : Heap} {locs : List Loc} {cells slots : Nat} {Q : State → Prop} {pc : Nat} {ls : Array Slot} {rest st0 : List Value} {a : Array Value} {A0 A1 : Nat → Prop} {H0 : Heap} {free : Addr → Prop} {D : va_G} {cI cZ : ClassId} {ad : Nat → Nat} {P : br_post}
    (hr : va_Run p l e R s m args below meth c H locs cells slots 0 0 (F0 m pc ls st0) rest (br_Q D cI cZ ad A1 P a) free) (hS : va_S A0 H0 H locs) (hA : ∀ q, q < H.size → A1 q → A0 q) (hf : ∀ q, free q → A0 q)
    (kk : ∀ (v : Option br_V) (τ : br_Wd) (H1 : Heap) (locs1 : List Loc), P v τ → va_P D vwCl (br_W cI cZ ad τ) H1 → va_S A0 H0 H1 locs1 → W p l e R s m args below meth c H1 locs1 cells slots Q (F0 m (pc + 3) ls ((v.map (br_av ad)).toList ++ rest))) : W p l e R s m args below meth c H locs cells slots Q (F0 m pc ls st0) := by
  intro T hT X
  obtain ⟨v, st₀, t, T', L, h0, X', hL, e1, e2, ⟨⟨w, τ, hv, hp, hb⟩, hz, hk⟩, st⟩ := hr T hT X
  cases hv
  rw [h0] at hz hk
  obtain ⟨t2, a1, b1⟩ := kk w τ T'.heap (locs ++ L) hp (by rw [e1]; exact hb)
    ⟨Nat.le_trans hS.1 (by rw [e1]; exact hz), fun q h1 h2 => by rw [e1, hk q (Nat.lt_of_lt_of_le h1 hS.1) (fun z => h2 (hA q (Nat.lt_of_lt_of_le h1 hS.1) z))]; exact hS.2.1 q h1 h2, fun q hq => by
      rcases List.mem_append.mp hq with h | h
      · exact hS.2.2 q h
      · exact hf _ (hL q h)⟩ T' rfl X'
  exact ⟨t2, st t2 a1, b1⟩
def br_vc (own : String) (idx : Nat) (Y : br_Y) (n : Nat) : Prop := (Cond.methodLink own idx Y.1 ∈ br_W0 ∧ Cond.initialized Y.1.cls ∈ br_W0 ∧ Cond.code Y.1 Y.2.1 Y.2.2.1 Y.2.2.2 ∈ br_W0) ∧ (Cond.instanceMethod Y.1 ∈ br_W0 ∧ Cond.selects Y.1.cls Y.1 Y.1 ∈ br_W0) ∧ (Y.1.cls ≠ "java/lang/invoke/MethodHandle" ∧ Y.1.cls ≠ "java/lang/invoke/VarHandle" ∧ (parseMethodDescriptor Y.1.desc).map (fun d => d.parameters.length) = some n) ∧ Y.2.2.1 ≤ 10
def br_sc (own : String) (idx : Nat) (Y : br_Y) (n : Nat) : Prop := ((Cond.methodLink own idx Y.1 ∈ br_W0 ∨ (own, idx, Y.1) ∈ br_nestM) ∧ Cond.initialized Y.1.cls ∈ br_W0 ∧ Cond.code Y.1 Y.2.1 Y.2.2.1 Y.2.2.2 ∈ br_W0) ∧ Cond.static Y.1 ∈ br_W0 ∧ (Y.1.cls ≠ "java/lang/invoke/MethodHandle" ∧ Y.1.cls ≠ "java/lang/invoke/VarHandle" ∧ (parseMethodDescriptor Y.1.desc).map (fun d => d.parameters.length) = some n) ∧ Y.2.2.1 ≤ 10
theorem br_ws_good {Y : br_Y} (h : Cond.code Y.1 Y.2.1 Y.2.2.1 Y.2.2.2 ∈ br_W0) : GoodIn br_W0 (br_ws Y) := by
  intro w hw
  rcases List.mem_cons.mp hw with rfl | hw
  · exact ⟨h, br_W0_good h⟩
  · exact ⟨hw, br_W0_good hw⟩
theorem br_callV {Y : br_Y} {d : Nat} {P : br_post} {G : br_Jg} (C : br_Ok Y d P G) {idx : Nat} {Y2 : br_Y} {n d2 : Nat} (hvc : br_vc Y.1.cls idx Y2 n) {q : Nat} {As : List br_V} {σ : br_Wd} {P2 : br_post} (hM : br_Met d2 Y2 (br_r q :: As) σ P2) (hd2 : d2 < d) {ci : Nat} {fs : List br_FK} {T : u_T} {N : Nat} (hs : br_shps[q]? = some (.inr (ci, fs))) (hc : vwCl[ci]? = some (Y2.1.cls, T, N)) {pc : Nat} {L : List (Option br_V)} {st : List br_V} (hn : As.length = n) (hst : ∀ ad, (st.map (fun v => (br_av ad v).category)).sum ≤ 8) (hd : decode Y.2.1 pc = .ok (.invokevirtual idx, 3)) (kk : ∀ v τ, P2 v τ → G (pc + 3) L (v.toList ++ st) τ) : G pc L (As.reverse ++ br_r q :: st) σ := by
  obtain ⟨p, l, e, R, s, m, args, below, meth, c, cells, slots, Q, D, cI, cZ, ad, A, H0, ⟨hx, hb, hml, hown, hts⟩, ⟨hK, hD, hA, hN⟩, hR, hfin, hG⟩ := C
  rw [hG]
  intro H locs ls hP hS hl'
  obtain ⟨⟨w1, w2, w3⟩, ⟨w4, w5⟩, hcl, hml2⟩ := hvc
  have hn' : ∀ (v : Option br_V) , ((v.map (br_av ad)).toList ++ st.map (br_av ad)) = (v.toList ++ st).map (br_av ad) := fun v => by cases v <;> simp
  have hfree : ∀ x, va_A (br_W cI cZ ad σ) H.size x → A x := fun x hx2 => by
    rcases hx2 with ⟨k, e2, hk⟩ | hge
    · exact (hD σ).2 k _ hk
    · exact hA x (Nat.le_trans hS.1 hge)
  have hroom : (br_room d2).frames + 1 ≤ R.frames ∧ 8 + (Y2.2.2.1 + 11) + (br_room d2).locals ≤ R.locals := by
    have h1 := hR.1
    have h2 := hR.2.1
    simp only [br_room]
    omega
  refine br_callU (va_runV (As := As.map (br_av ad)) (rest := st.map (br_av ad)) (b := ad q) (C := Y2.1.cls) (n := n) ⟨hx, hb, hml, hown, hts⟩ (hM l D cI cZ ad H.size) (cwV n hts (fun w hw => ?_) rfl rfl rfl ⟨rfl, hcl⟩ hroom) ⟨?_, va_recv hK hP (q0 := q) hc (br_W_get hs), ?_⟩ rfl (by rw [List.length_map]; exact hn) hl'.1 (by show List.map (br_av ad) _ = _; simp [br_av]) (lv_room (by rw [List.map_map]; exact hst ad)) hd ⟨by omega, by omega⟩) hS (fun q2 _ h => hfree q2 h) hfree ?_
  · rcases List.mem_append.mp (show w ∈ ([.methodLink Y.1.cls idx Y2.1, .instanceMethod Y2.1, .selects Y2.1.cls Y2.1 Y2.1, .initialized Y2.1.cls] : List Cond) ++ br_ws Y2 from hw) with h | h
    · simp only [List.mem_cons, List.not_mem_nil, or_false] at h
      rcases h with rfl | rfl | rfl | rfl
      · exact ⟨w1, br_W0_good w1⟩
      · exact ⟨w4, br_W0_good w4⟩
      · exact ⟨w5, br_W0_good w5⟩
      · exact ⟨w2, br_W0_good w2⟩
    · exact br_ws_good w3 w h
  · rintro a U g mk ⟨q0, q1, qP, qK, qD, qN⟩
    exact ⟨q0, q1, qP, va_K.moved (u := U) (U := U.calling g mk a) (Vm.Alike.refl U.vm) qK, qD, br_N.same (u := U) (U := U.calling g mk a) rfl qN⟩
  · intro U hU hW
    exact ⟨rfl, by rw [hU], by rw [hU]; exact hP, va_K.moved hW.alike hK, (hD σ).weaken (fun _ _ _ _ => trivial), hN.warm hW⟩
  · intro v τ H1 locs1 hp hP1 hS1
    rw [hn']
    exact (hG _ _ _ _).mp (kk v τ hp) H1 locs1 ls hP1 hS1 hl'
theorem br_callS {Y : br_Y} {d : Nat} {P : br_post} {G : br_Jg} (C : br_Ok Y d P G) {idx : Nat} {Y2 : br_Y} {n d2 : Nat} (hvc : br_sc Y.1.cls idx Y2 n) {As : List br_V} {σ : br_Wd} {P2 : br_post} (hM : br_Met d2 Y2 As σ P2) (hd2 : d2 < d) {pc : Nat} {L : List (Option br_V)} {st : List br_V} (hn : As.length = n) (hst : ∀ ad, (st.map (fun v => (br_av ad v).category)).sum ≤ 8) (hd : decode Y.2.1 pc = .ok (.invokestatic idx, 3)) (kk : ∀ v τ, P2 v τ → G (pc + 3) L (v.toList ++ st) τ) : G pc L (As.reverse ++ st) σ := by
  obtain ⟨p, l, e, R, s, m, args, below, meth, c, cells, slots, Q, D, cI, cZ, ad, A, H0, ⟨hx, hb, hml, hown, hts⟩, ⟨hK, hD, hA, hN⟩, hR, hfin, hG⟩ := C
  rw [hG]
  intro H locs ls hP hS hl'
  obtain ⟨⟨w1, w2, w3⟩, w4, hcl, hml2⟩ := hvc
  have hn' : ∀ (v : Option br_V) , ((v.map (br_av ad)).toList ++ st.map (br_av ad)) = (v.toList ++ st).map (br_av ad) := fun v => by cases v <;> simp
  have hfree : ∀ x, va_A (br_W cI cZ ad σ) H.size x → A x := fun x hx2 => by
    rcases hx2 with ⟨k, e2, hk⟩ | hge
    · exact (hD σ).2 k _ hk
    · exact hA x (Nat.le_trans hS.1 hge)
  have hroom : (br_room d2).frames + 1 ≤ R.frames ∧ 8 + (Y2.2.2.1 + 11) + (br_room d2).locals ≤ R.locals := by
    have h1 := hR.1
    have h2 := hR.2.1
    simp only [br_room]
    omega
  have hrun : va_Run p l e R s m args below meth c H locs cells slots 0 0 (F0 m pc ls ((As.reverse ++ st).map (br_av ad))) (st.map (br_av ad)) (br_Q D cI cZ ad (va_A (br_W cI cZ ad σ) H.size) P2 (As.map (br_av ad)).toArray) (va_A (br_W cI cZ ad σ) H.size) := by
    have hpre : PreS s H (va_Pc (As.map (br_av ad)) (fun U => U.heap.size = H.size ∧ va_P D vwCl (br_W cI cZ ad σ) U.heap ∧ va_K D vwCl (br_tys cI cZ) U ∧ va_D (fun _ => True) (br_W cI cZ ad σ) ∧ br_N U)) (As.map (br_av ad)) := by
      refine ⟨?_, ?_⟩
      · rintro a U g mk ⟨q0, q1, qP, qK, qD, qN⟩
        exact ⟨q0, q1, qP, va_K.moved (u := U) (U := U.calling g mk a) (Vm.Alike.refl U.vm) qK, qD, br_N.same (u := U) (U := U.calling g mk a) rfl qN⟩
      · intro U hU hW
        exact ⟨rfl, by rw [hU], by rw [hU]; exact hP, va_K.moved hW.alike hK, (hD σ).weaken (fun _ _ _ _ => trivial), hN.warm hW⟩
    rcases w1 with w1 | w1
    · exact va_runS (As := As.map (br_av ad)) (rest := st.map (br_av ad)) (n := n) ⟨hx, hb, hml, hown, hts⟩ (hM l D cI cZ ad H.size) ⟨callB_of n hts (br_ws_good w3) rfl rfl rfl (hts _ w2) (hts _ w1) hcl hroom, hts _ w4⟩ hpre rfl (by rw [List.length_map]; exact hn) hl'.1 (by show List.map (br_av ad) _ = _; simp) (lv_room (by rw [List.map_map]; exact hst ad)) hd ⟨by omega, by omega⟩
    · exact va_runSN (As := As.map (br_av ad)) (rest := st.map (br_av ad)) (n := n) (host := "BarRoutine") ⟨hx, hb, hml, hown, hts⟩ (hM l D cI cZ ad H.size) ⟨va_cnB n hts (br_ws_good w3) rfl rfl rfl (hN.2 _ w1) (hts _ w2) hcl hroom, hts _ w4, trivial⟩ hpre rfl (by rw [List.length_map]; exact hn) hl'.1 (by show List.map (br_av ad) _ = _; simp) (lv_room (by rw [List.map_map]; exact hst ad)) hd ⟨by omega, by omega⟩
  refine br_callU hrun hS (fun q2 _ h => hfree q2 h) hfree ?_
  · intro v τ H1 locs1 hp hP1 hS1
    rw [hn']
    exact (hG _ _ _ _).mp (kk v τ hp) H1 locs1 ls hP1 hS1 hl'
-- returns
theorem br_ret {Y : br_Y} {d : Nat} {P : br_post} {G : br_Jg} (C : br_Ok Y d P G) {v : Option br_V} {pc : Nat} {L : List (Option br_V)} {σ : br_Wd} (hr : br_isret Y pc v) (hp : P v σ) : G pc L v.toList σ := by
  obtain ⟨p, l, e, R, s, m, args, below, meth, c, cells, slots, Q, D, cI, cZ, ad, A, H0, ⟨hx, hb, hml, hown, hts⟩, ⟨hK, hD, hA, hN⟩, hR, hfin, hG⟩ := C
  rw [hG]
  intro H locs ls hP hS hl'
  have := hfin v σ H locs pc ls hp hP hS hr
  cases v <;> exact this
theorem br_iret {Y : br_Y} {d : Nat} {P : br_post} {G : br_Jg} (C : br_Ok Y d P G) {x : Int32} {pc : Nat} {L : List (Option br_V)} {σ : br_Wd} (hr : Y.2.2.2 = some .int) (hd : decode Y.2.1 pc = .ok (.ireturn, 1)) (hp : P (some (br_i x)) σ) : G pc L [br_i x] σ :=
  br_ret C (v := some (br_i x)) ⟨⟨.int, hr, rfl⟩, hd⟩ hp
theorem br_zret {Y : br_Y} {d : Nat} {P : br_post} {G : br_Jg} (C : br_Ok Y d P G) {x : Int32} {pc : Nat} {L : List (Option br_V)} {σ : br_Wd} (hx : x = 0 ∨ x = 1) (hr : Y.2.2.2 = some .boolean) (hd : decode Y.2.1 pc = .ok (.ireturn, 1)) (hp : P (some (br_i x)) σ) : G pc L [br_i x] σ :=
  br_ret C (v := some (br_i x)) ⟨⟨.boolean, hr, by rcases hx with rfl | rfl <;> decide⟩, hd⟩ hp
theorem br_lret {Y : br_Y} {d : Nat} {P : br_post} {G : br_Jg} (C : br_Ok Y d P G) {x : Int64} {pc : Nat} {L : List (Option br_V)} {σ : br_Wd} (hr : Y.2.2.2 = some .long) (hd : decode Y.2.1 pc = .ok (.lreturn, 1)) (hp : P (some (br_l x)) σ) : G pc L [br_l x] σ :=
  br_ret C (v := some (br_l x)) ⟨hr, hd⟩ hp
theorem br_vret {Y : br_Y} {d : Nat} {P : br_post} {G : br_Jg} (C : br_Ok Y d P G) {pc : Nat} {L : List (Option br_V)} {σ : br_Wd} (hr : Y.2.2.2 = none) (hd : decode Y.2.1 pc = .ok (.return_, 1)) (hp : P none σ) : G pc L [] σ :=
  br_ret C (v := none) ⟨hr, hd⟩ hp
end
section
abbrev mX0_init : br_Y := (yX0_init, cX0_init, 1, none)
abbrev mX0_read : br_Y := (yX0_read, cX0_read, 3, none)
abbrev mX0_has : br_Y := (yX0_has, cX0_has, 2, some .boolean)
abbrev mX0_kindOf : br_Y := (yX0_kindOf, cX0_kindOf, 2, some .int)
abbrev mX0_worthOf : br_Y := (yX0_worthOf, cX0_worthOf, 2, some .int)
abbrev mX0_sureOf : br_Y := (yX0_sureOf, cX0_sureOf, 2, some .int)
abbrev mX0_isA : br_Y := (yX0_isA, cX0_isA, 4, some .boolean)
abbrev mX1_init : br_Y := (yX1_init, cX1_init, 1, none)
abbrev mX1_add : br_Y := (yX1_add, cX1_add, 2, none)
abbrev mX1_codeAt : br_Y := (yX1_codeAt, cX1_codeAt, 2, some .int)
abbrev mX1_firstFault : br_Y := (yX1_firstFault, cX1_firstFault, 2, some .int)
abbrev mX1_tellsGym : br_Y := (yX1_tellsGym, cX1_tellsGym, 2, some .boolean)
abbrev mX1_fits : br_Y := (yX1_fits, cX1_fits, 3, some .boolean)
abbrev mX1_kindByLetter : br_Y := (yX1_kindByLetter, cX1_kindByLetter, 1, some .int)
abbrev mX2_init : br_Y := (yX2_init, cX2_init, 2, none)
abbrev mX2_reaches : br_Y := (yX2_reaches, cX2_reaches, 2, some .boolean)
abbrev mX2_pieceAt : br_Y := (yX2_pieceAt, cX2_pieceAt, 2, some .int)
abbrev mX2_placeOf : br_Y := (yX2_placeOf, cX2_placeOf, 3, some .int)
abbrev mX2_holds : br_Y := (yX2_holds, cX2_holds, 2, some .boolean)
abbrev mX2_append : br_Y := (yX2_append, cX2_append, 2, none)
abbrev mX2_removeAt : br_Y := (yX2_removeAt, cX2_removeAt, 4, some .int)
abbrev mX2_exchange : br_Y := (yX2_exchange, cX2_exchange, 4, none)
abbrev mX2_copyFrom : br_Y := (yX2_copyFrom, cX2_copyFrom, 3, none)
abbrev mX2_howMany : br_Y := (yX2_howMany, cX2_howMany, 4, some .int)
abbrev mX2_joins : br_Y := (yX2_joins, cX2_joins, 3, some .int)
abbrev mX2_joinWorth : br_Y := (yX2_joinWorth, cX2_joinWorth, 4, some .int)
abbrev mX2_lackingPenalty : br_Y := (yX2_lackingPenalty, cX2_lackingPenalty, 1, some .int)
abbrev mX2_chanceAt : br_Y := (yX2_chanceAt, cX2_chanceAt, 3, some .int)
abbrev mX2_points : br_Y := (yX2_points, cX2_points, 2, some .int)
abbrev mX2_gained : br_Y := (yX2_gained, cX2_gained, 4, some .int)
abbrev mX2_meanInHundredths : br_Y := (yX2_meanInHundredths, cX2_meanInHundredths, 4, some .int)
abbrev mX2_allParts : br_Y := (yX2_allParts, cX2_allParts, 3, some .int)
abbrev mX2_partsWith : br_Y := (yX2_partsWith, cX2_partsWith, 5, some .int)
abbrev mX2_partsOf : br_Y := (yX2_partsOf, cX2_partsOf, 5, some .int)
abbrev mX3_init : br_Y := (yX3_init, cX3_init, 2, none)
abbrev mX3_add : br_Y := (yX3_add, cX3_add, 4, none)
abbrev mX3_copyFrom : br_Y := (yX3_copyFrom, cX3_copyFrom, 3, none)
abbrev mX3_possibleSures : br_Y := (yX3_possibleSures, cX3_possibleSures, 4, some .int)
abbrev mX3_likeliestSure : br_Y := (yX3_likeliestSure, cX3_likeliestSure, 6, some .int)
abbrev mX3_likelihood : br_Y := (yX3_likelihood, cX3_likelihood, 6, some .int)
abbrev mX4_init : br_Y := (yX4_init, cX4_init, 1, none)
abbrev mX4_letter : br_Y := (yX4_letter, cX4_letter, 2, some .int)
abbrev mX4_blank : br_Y := (yX4_blank, cX4_blank, 2, some .int)
abbrev mX4_fault : br_Y := (yX4_fault, cX4_fault, 1, some .int)
abbrev mX4_gym : br_Y := (yX4_gym, cX4_gym, 1, some .int)
abbrev mX4_piece : br_Y := (yX4_piece, cX4_piece, 3, some .int)
abbrev mX4_as : br_Y := (yX4_as, cX4_as, 3, some .int)
abbrev mX4_put : br_Y := (yX4_put, cX4_put, 2, some .int)
abbrev mX4_take : br_Y := (yX4_take, cX4_take, 2, some .int)
abbrev mX4_swap : br_Y := (yX4_swap, cX4_swap, 3, some .int)
abbrev mX4_at : br_Y := (yX4_at, cX4_at, 2, some .int)
abbrev mX4_score : br_Y := (yX4_score, cX4_score, 2, some .int)
abbrev mX4_mean : br_Y := (yX4_mean, cX4_mean, 2, some .int)
abbrev mX4_odds : br_Y := (yX4_odds, cX4_odds, 3, some .int)
abbrev mX4_best : br_Y := (yX4_best, cX4_best, 4, some .int)
abbrev mX4_more : br_Y := (yX4_more, cX4_more, 6, some .int)
abbrev mX4_tryIt : br_Y := (yX4_tryIt, cX4_tryIt, 4, some .int)
abbrev mX4_forget : br_Y := (yX4_forget, cX4_forget, 2, some .int)
abbrev mX4_meets : br_Y := (yX4_meets, cX4_meets, 10, some .int)
abbrev mX4_image : br_Y := (yX4_image, cX4_image, 1, some .int)
abbrev mX4_restore : br_Y := (yX4_restore, cX4_restore, 1, some .int)
abbrev mX4_count : br_Y := (yX4_count, cX4_count, 2, some .int)
abbrev mX4_digest : br_Y := (yX4_digest, cX4_digest, 5, some .long)
abbrev mX4_noGym : br_Y := (yX4_noGym, cX4_noGym, 1, some .boolean)
abbrev mX4_isScore : br_Y := (yX4_isScore, cX4_isScore, 1, some .boolean)
abbrev mX4_asksAboveOrBelow : br_Y := (yX4_asksAboveOrBelow, cX4_asksAboveOrBelow, 1, some .boolean)
abbrev mX4_mixed : br_Y := (yX4_mixed, cX4_mixed, 4, some .long)
abbrev mX4_nextSeed : br_Y := (yX4_nextSeed, cX4_nextSeed, 1, some .int)
abbrev mX4_drawOfTen : br_Y := (yX4_drawOfTen, cX4_drawOfTen, 1, some .int)
abbrev mX4_inLowestTerms : br_Y := (yX4_inLowestTerms, cX4_inLowestTerms, 4, some .int)
abbrev mX4_commonDivisor : br_Y := (yX4_commonDivisor, cX4_commonDivisor, 6, some .int)
abbrev mX4_findFinest : br_Y := (yX4_findFinest, cX4_findFinest, 6, none)
abbrev mX4_picksOf : br_Y := (yX4_picksOf, cX4_picksOf, 4, some .int)
abbrev mX4_pickByNumber : br_Y := (yX4_pickByNumber, cX4_pickByNumber, 6, some .boolean)
abbrev mX4_chanceOf : br_Y := (yX4_chanceOf, cX4_chanceOf, 4, some .int)
abbrev mX5_init : br_Y := (yX5_init, cX5_init, 1, none)
abbrev mX5_in : br_Y := (yX5_in, cX5_in, 6, some .boolean)
abbrev mX5_copy : br_Y := (yX5_copy, cX5_copy, 3, none)
abbrev mX5_common : br_Y := (yX5_common, cX5_common, 5, some .int)
abbrev mX5_letter : br_Y := (yX5_letter, cX5_letter, 2, some .int)
abbrev mX5_blank : br_Y := (yX5_blank, cX5_blank, 2, some .int)
abbrev mX5_kindBy : br_Y := (yX5_kindBy, cX5_kindBy, 1, some .int)
abbrev mX5_isGood : br_Y := (yX5_isGood, cX5_isGood, 2, some .boolean)
abbrev mX5_faultOf : br_Y := (yX5_faultOf, cX5_faultOf, 2, some .int)
abbrev mX5_fault : br_Y := (yX5_fault, cX5_fault, 1, some .int)
abbrev mX5_gym : br_Y := (yX5_gym, cX5_gym, 2, some .int)
abbrev mX5_lacks : br_Y := (yX5_lacks, cX5_lacks, 1, some .boolean)
abbrev mX5_isPiece : br_Y := (yX5_isPiece, cX5_isPiece, 2, some .boolean)
abbrev mX5_isPlace : br_Y := (yX5_isPlace, cX5_isPlace, 2, some .boolean)
abbrev mX5_tenthsBy : br_Y := (yX5_tenthsBy, cX5_tenthsBy, 4, some .int)
abbrev mX5_tenthsOf : br_Y := (yX5_tenthsOf, cX5_tenthsOf, 3, some .int)
abbrev mX5_placeOf : br_Y := (yX5_placeOf, cX5_placeOf, 4, some .int)
abbrev mX5_tell : br_Y := (yX5_tell, cX5_tell, 3, some .int)
abbrev mX5_piece : br_Y := (yX5_piece, cX5_piece, 3, some .int)
abbrev mX5_as : br_Y := (yX5_as, cX5_as, 5, some .int)
abbrev mX5_put : br_Y := (yX5_put, cX5_put, 2, some .int)
abbrev mX5_take : br_Y := (yX5_take, cX5_take, 4, some .int)
abbrev mX5_swap : br_Y := (yX5_swap, cX5_swap, 4, some .int)
abbrev mX5_at : br_Y := (yX5_at, cX5_at, 2, some .int)
abbrev mX5_isFlight : br_Y := (yX5_isFlight, cX5_isFlight, 2, some .boolean)
abbrev mX5_isTurn : br_Y := (yX5_isTurn, cX5_isTurn, 2, some .boolean)
abbrev mX5_joins : br_Y := (yX5_joins, cX5_joins, 4, some .boolean)
abbrev mX5_scoreOf : br_Y := (yX5_scoreOf, cX5_scoreOf, 10, some .int)
abbrev mX5_waysOf : br_Y := (yX5_waysOf, cX5_waysOf, 7, some .int)
abbrev mX5_powerOf : br_Y := (yX5_powerOf, cX5_powerOf, 3, some .int)
abbrev mX5_score : br_Y := (yX5_score, cX5_score, 2, some .int)
abbrev mX5_meanUp : br_Y := (yX5_meanUp, cX5_meanUp, 5, some .int)
abbrev mX5_meanOf : br_Y := (yX5_meanOf, cX5_meanOf, 6, some .int)
abbrev mX5_mean : br_Y := (yX5_mean, cX5_mean, 2, some .int)
abbrev mX5_oddsUp : br_Y := (yX5_oddsUp, cX5_oddsUp, 6, some .int)
abbrev mX5_oddsOf : br_Y := (yX5_oddsOf, cX5_oddsOf, 5, some .int)
abbrev mX5_odds : br_Y := (yX5_odds, cX5_odds, 3, some .int)
abbrev mX5_layRow : br_Y := (yX5_layRow, cX5_layRow, 7, some .boolean)
abbrev mX5_bestOf : br_Y := (yX5_bestOf, cX5_bestOf, 6, some .int)
abbrev mX5_best : br_Y := (yX5_best, cX5_best, 3, some .int)
abbrev mX5_moreOf : br_Y := (yX5_moreOf, cX5_moreOf, 6, some .int)
abbrev mX5_more : br_Y := (yX5_more, cX5_more, 2, some .int)
abbrev mX5_tryIt : br_Y := (yX5_tryIt, cX5_tryIt, 4, some .int)
abbrev mX5_forget : br_Y := (yX5_forget, cX5_forget, 2, some .int)
abbrev mX5_triedWays : br_Y := (yX5_triedWays, cX5_triedWays, 7, some .long)
abbrev mX5_sureOf : br_Y := (yX5_sureOf, cX5_sureOf, 4, some .int)
abbrev mX5_likelyOf : br_Y := (yX5_likelyOf, cX5_likelyOf, 8, some .int)
abbrev mX5_draw : br_Y := (yX5_draw, cX5_draw, 2, some .int)
abbrev mX5_meets : br_Y := (yX5_meets, cX5_meets, 9, some .int)
abbrev mX5_image : br_Y := (yX5_image, cX5_image, 1, some .int)
abbrev mX5_restore : br_Y := (yX5_restore, cX5_restore, 1, some .int)
abbrev mX5_flightsIn : br_Y := (yX5_flightsIn, cX5_flightsIn, 3, some .int)
abbrev mX5_turnsIn : br_Y := (yX5_turnsIn, cX5_turnsIn, 3, some .int)
abbrev mX5_joinsIn : br_Y := (yX5_joinsIn, cX5_joinsIn, 3, some .int)
abbrev mX5_countOf : br_Y := (yX5_countOf, cX5_countOf, 2, some .int)
abbrev mX5_count : br_Y := (yX5_count, cX5_count, 2, some .int)
abbrev mX5_say : br_Y := (yX5_say, cX5_say, 3, none)
abbrev mX5_digest : br_Y := (yX5_digest, cX5_digest, 3, some .long)
abbrev mJ9_max_7cf53 : br_Y := (yJ9_max_7cf53, cJ9_max_7cf53, 2, some .int)
theorem br_lay0 : ∀ k, k < 4 → u_lay RX0 TX0 k ∈ br_W0 := fun k hk => match k, hk with
  | 0, _ => (br_W0_in (i := 80) (by decide +kernel) (by decide +kernel))
  | 1, _ => (br_W0_in (i := 82) (by decide +kernel) (by decide +kernel))
  | 2, _ => (br_W0_in (i := 84) (by decide +kernel) (by decide +kernel))
  | 3, _ => (br_W0_in (i := 86) (by decide +kernel) (by decide +kernel))
  | k + 4, h => absurd h (by omega)
theorem br_cl0 : br_Cl 0 RX0 TX0 4 := ⟨rfl, fun w hw => by obtain ⟨k, hk, rfl⟩ := List.mem_map.mp hw; exact br_lay0 k (List.mem_range.mp hk), tyX0, tyX0_ok, nmX0⟩
theorem br_lay1 : ∀ k, k < 2 → u_lay RX1 TX1 k ∈ br_W0 := fun k hk => match k, hk with
  | 0, _ => (br_W0_in (i := 63) (by decide +kernel) (by decide +kernel))
  | 1, _ => (br_W0_in (i := 65) (by decide +kernel) (by decide +kernel))
  | k + 2, h => absurd h (by omega)
theorem br_cl1 : br_Cl 1 RX1 TX1 2 := ⟨rfl, fun w hw => by obtain ⟨k, hk, rfl⟩ := List.mem_map.mp hw; exact br_lay1 k (List.mem_range.mp hk), tyX1, tyX1_ok, nmX1⟩
theorem br_lay2 : ∀ k, k < 3 → u_lay RX2 TX2 k ∈ br_W0 := fun k hk => match k, hk with
  | 0, _ => (br_W0_in (i := 99) (by decide +kernel) (by decide +kernel))
  | 1, _ => (br_W0_in (i := 101) (by decide +kernel) (by decide +kernel))
  | 2, _ => (br_W0_in (i := 103) (by decide +kernel) (by decide +kernel))
  | k + 3, h => absurd h (by omega)
theorem br_cl2 : br_Cl 2 RX2 TX2 3 := ⟨rfl, fun w hw => by obtain ⟨k, hk, rfl⟩ := List.mem_map.mp hw; exact br_lay2 k (List.mem_range.mp hk), tyX2, tyX2_ok, nmX2⟩
theorem br_lay3 : ∀ k, k < 5 → u_lay RX3 TX3 k ∈ br_W0 := fun k hk => match k, hk with
  | 0, _ => (br_W0_in (i := 118) (by decide +kernel) (by decide +kernel))
  | 1, _ => (br_W0_in (i := 120) (by decide +kernel) (by decide +kernel))
  | 2, _ => (br_W0_in (i := 122) (by decide +kernel) (by decide +kernel))
  | 3, _ => (br_W0_in (i := 124) (by decide +kernel) (by decide +kernel))
  | 4, _ => (br_W0_in (i := 126) (by decide +kernel) (by decide +kernel))
  | k + 5, h => absurd h (by omega)
theorem br_cl3 : br_Cl 3 RX3 TX3 5 := ⟨rfl, fun w hw => by obtain ⟨k, hk, rfl⟩ := List.mem_map.mp hw; exact br_lay3 k (List.mem_range.mp hk), tyX3, tyX3_ok, nmX3⟩
theorem br_lay4 : ∀ k, k < 13 → u_lay RX4 TX4 k ∈ br_W0 := fun k hk => match k, hk with
  | 0, _ => (br_W0_in (i := 143) (by decide +kernel) (by decide +kernel))
  | 1, _ => (br_W0_in (i := 145) (by decide +kernel) (by decide +kernel))
  | 2, _ => (br_W0_in (i := 147) (by decide +kernel) (by decide +kernel))
  | 3, _ => (br_W0_in (i := 149) (by decide +kernel) (by decide +kernel))
  | 4, _ => (br_W0_in (i := 151) (by decide +kernel) (by decide +kernel))
  | 5, _ => (br_W0_in (i := 153) (by decide +kernel) (by decide +kernel))
  | 6, _ => (br_W0_in (i := 155) (by decide +kernel) (by decide +kernel))
  | 7, _ => (br_W0_in (i := 157) (by decide +kernel) (by decide +kernel))
  | 8, _ => (br_W0_in (i := 159) (by decide +kernel) (by decide +kernel))
  | 9, _ => (br_W0_in (i := 161) (by decide +kernel) (by decide +kernel))
  | 10, _ => (br_W0_in (i := 163) (by decide +kernel) (by decide +kernel))
  | 11, _ => (br_W0_in (i := 165) (by decide +kernel) (by decide +kernel))
  | 12, _ => (br_W0_in (i := 167) (by decide +kernel) (by decide +kernel))
  | k + 13, h => absurd h (by omega)
theorem br_cl4 : br_Cl 4 RX4 TX4 13 := ⟨rfl, fun w hw => by obtain ⟨k, hk, rfl⟩ := List.mem_map.mp hw; exact br_lay4 k (List.mem_range.mp hk), tyX4, tyX4_ok, nmX4⟩
theorem br_lay5 : ∀ k, k < 21 → u_lay RX5 TX5 k ∈ br_W0 := fun k hk => match k, hk with
  | 0, _ => (br_W0_in (i := 496) (by decide +kernel) (by decide +kernel))
  | 1, _ => (br_W0_in (i := 498) (by decide +kernel) (by decide +kernel))
  | 2, _ => (br_W0_in (i := 500) (by decide +kernel) (by decide +kernel))
  | 3, _ => (br_W0_in (i := 502) (by decide +kernel) (by decide +kernel))
  | 4, _ => (br_W0_in (i := 504) (by decide +kernel) (by decide +kernel))
  | 5, _ => (br_W0_in (i := 506) (by decide +kernel) (by decide +kernel))
  | 6, _ => (br_W0_in (i := 508) (by decide +kernel) (by decide +kernel))
  | 7, _ => (br_W0_in (i := 510) (by decide +kernel) (by decide +kernel))
  | 8, _ => (br_W0_in (i := 512) (by decide +kernel) (by decide +kernel))
  | 9, _ => (br_W0_in (i := 514) (by decide +kernel) (by decide +kernel))
  | 10, _ => (br_W0_in (i := 516) (by decide +kernel) (by decide +kernel))
  | 11, _ => (br_W0_in (i := 518) (by decide +kernel) (by decide +kernel))
  | 12, _ => (br_W0_in (i := 520) (by decide +kernel) (by decide +kernel))
  | 13, _ => (br_W0_in (i := 522) (by decide +kernel) (by decide +kernel))
  | 14, _ => (br_W0_in (i := 524) (by decide +kernel) (by decide +kernel))
  | 15, _ => (br_W0_in (i := 526) (by decide +kernel) (by decide +kernel))
  | 16, _ => (br_W0_in (i := 528) (by decide +kernel) (by decide +kernel))
  | 17, _ => (br_W0_in (i := 530) (by decide +kernel) (by decide +kernel))
  | 18, _ => (br_W0_in (i := 532) (by decide +kernel) (by decide +kernel))
  | 19, _ => (br_W0_in (i := 534) (by decide +kernel) (by decide +kernel))
  | 20, _ => (br_W0_in (i := 536) (by decide +kernel) (by decide +kernel))
  | k + 21, h => absurd h (by omega)
theorem br_cl5 : br_Cl 5 RX5 TX5 21 := ⟨rfl, fun w hw => by obtain ⟨k, hk, rfl⟩ := List.mem_map.mp hw; exact br_lay5 k (List.mem_range.mp hk), tyX5, tyX5_ok, nmX5⟩
theorem fdX1_9 : br_fd RX1 9 1 0 true (.array .int) := ⟨_, _, _, br_cl1, by decide, Or.inl (br_W0_in (i := 59) (by decide +kernel) (by decide +kernel)), rfl, by decide +kernel⟩
theorem fdX1_15 : br_fd RX1 15 1 1 false .int := ⟨_, _, _, br_cl1, by decide, Or.inl (br_W0_in (i := 60) (by decide +kernel) (by decide +kernel)), rfl, by decide +kernel⟩
theorem fdX0_25 : br_fd RX0 25 1 1 false .int := ⟨_, _, _, br_cl1, by decide, Or.inr (by decide +kernel), rfl, by decide +kernel⟩
theorem fdX4_68 : br_fd RX4 68 1 1 false .int := ⟨_, _, _, br_cl1, by decide, Or.inr (by decide +kernel), rfl, by decide +kernel⟩
theorem fdX0_9 : br_fd RX0 9 0 0 true (.array .int) := ⟨_, _, _, br_cl0, by decide, Or.inl (br_W0_in (i := 75) (by decide +kernel) (by decide +kernel)), rfl, by decide +kernel⟩
theorem fdX0_15 : br_fd RX0 15 0 1 true (.array .int) := ⟨_, _, _, br_cl0, by decide, Or.inl (br_W0_in (i := 76) (by decide +kernel) (by decide +kernel)), rfl, by decide +kernel⟩
theorem fdX0_18 : br_fd RX0 18 0 2 true (.array .int) := ⟨_, _, _, br_cl0, by decide, Or.inl (br_W0_in (i := 77) (by decide +kernel) (by decide +kernel)), rfl, by decide +kernel⟩
theorem fdX0_21 : br_fd RX0 21 0 3 false .int := ⟨_, _, _, br_cl0, by decide, Or.inl (br_W0_in (i := 78) (by decide +kernel) (by decide +kernel)), rfl, by decide +kernel⟩
theorem fdX4_91 : br_fd RX4 91 0 3 false .int := ⟨_, _, _, br_cl0, by decide, Or.inr (by decide +kernel), rfl, by decide +kernel⟩
theorem fdX2_19 : br_fd RX2 19 2 0 true (.object "BarRoutine$Gym") := ⟨_, _, _, br_cl2, by decide, Or.inl (br_W0_in (i := 95) (by decide +kernel) (by decide +kernel)), rfl, by decide +kernel⟩
theorem fdX2_9 : br_fd RX2 9 2 1 true (.array .int) := ⟨_, _, _, br_cl2, by decide, Or.inl (br_W0_in (i := 96) (by decide +kernel) (by decide +kernel)), rfl, by decide +kernel⟩
theorem fdX2_15 : br_fd RX2 15 2 2 false .int := ⟨_, _, _, br_cl2, by decide, Or.inl (br_W0_in (i := 97) (by decide +kernel) (by decide +kernel)), rfl, by decide +kernel⟩
theorem fdX4_87 : br_fd RX4 87 2 2 false .int := ⟨_, _, _, br_cl2, by decide, Or.inr (by decide +kernel), rfl, by decide +kernel⟩
theorem fdX3_26 : br_fd RX3 26 3 0 true (.object "BarRoutine$Gym") := ⟨_, _, _, br_cl3, by decide, Or.inl (br_W0_in (i := 112) (by decide +kernel) (by decide +kernel)), rfl, by decide +kernel⟩
theorem fdX3_9 : br_fd RX3 9 3 1 true (.array .int) := ⟨_, _, _, br_cl3, by decide, Or.inl (br_W0_in (i := 113) (by decide +kernel) (by decide +kernel)), rfl, by decide +kernel⟩
theorem fdX3_15 : br_fd RX3 15 3 2 true (.array .int) := ⟨_, _, _, br_cl3, by decide, Or.inl (br_W0_in (i := 114) (by decide +kernel) (by decide +kernel)), rfl, by decide +kernel⟩
theorem fdX3_18 : br_fd RX3 18 3 3 true (.array .boolean) := ⟨_, _, _, br_cl3, by decide, Or.inl (br_W0_in (i := 115) (by decide +kernel) (by decide +kernel)), rfl, by decide +kernel⟩
theorem fdX3_22 : br_fd RX3 22 3 4 false .int := ⟨_, _, _, br_cl3, by decide, Or.inl (br_W0_in (i := 116) (by decide +kernel) (by decide +kernel)), rfl, by decide +kernel⟩
theorem fdX4_90 : br_fd RX4 90 3 4 false .int := ⟨_, _, _, br_cl3, by decide, Or.inr (by decide +kernel), rfl, by decide +kernel⟩
theorem fdX4_12 : br_fd RX4 12 4 0 true (.object "BarRoutine$Page") := ⟨_, _, _, br_cl4, by decide, Or.inl (br_W0_in (i := 130) (by decide +kernel) (by decide +kernel)), rfl, by decide +kernel⟩
theorem fdX4_19 : br_fd RX4 19 4 1 true (.object "BarRoutine$Gym") := ⟨_, _, _, br_cl4, by decide, Or.inl (br_W0_in (i := 131) (by decide +kernel) (by decide +kernel)), rfl, by decide +kernel⟩
theorem fdX4_28 : br_fd RX4 28 4 2 true (.object "BarRoutine$Routine") := ⟨_, _, _, br_cl4, by decide, Or.inl (br_W0_in (i := 132) (by decide +kernel) (by decide +kernel)), rfl, by decide +kernel⟩
theorem fdX4_35 : br_fd RX4 35 4 3 true (.object "BarRoutine$Tries") := ⟨_, _, _, br_cl4, by decide, Or.inl (br_W0_in (i := 133) (by decide +kernel) (by decide +kernel)), rfl, by decide +kernel⟩
theorem fdX4_39 : br_fd RX4 39 4 4 false .int := ⟨_, _, _, br_cl4, by decide, Or.inl (br_W0_in (i := 134) (by decide +kernel) (by decide +kernel)), rfl, by decide +kernel⟩
theorem fdX4_43 : br_fd RX4 43 4 5 false .boolean := ⟨_, _, _, br_cl4, by decide, Or.inl (br_W0_in (i := 135) (by decide +kernel) (by decide +kernel)), rfl, by decide +kernel⟩
theorem fdX4_47 : br_fd RX4 47 4 6 true (.object "BarRoutine$Routine") := ⟨_, _, _, br_cl4, by decide, Or.inl (br_W0_in (i := 136) (by decide +kernel) (by decide +kernel)), rfl, by decide +kernel⟩
theorem fdX4_50 : br_fd RX4 50 4 7 true (.object "BarRoutine$Tries") := ⟨_, _, _, br_cl4, by decide, Or.inl (br_W0_in (i := 137) (by decide +kernel) (by decide +kernel)), rfl, by decide +kernel⟩
theorem fdX4_53 : br_fd RX4 53 4 8 false .int := ⟨_, _, _, br_cl4, by decide, Or.inl (br_W0_in (i := 138) (by decide +kernel) (by decide +kernel)), rfl, by decide +kernel⟩
theorem fdX4_56 : br_fd RX4 56 4 9 true (.object "BarRoutine$Routine") := ⟨_, _, _, br_cl4, by decide, Or.inl (br_W0_in (i := 139) (by decide +kernel) (by decide +kernel)), rfl, by decide +kernel⟩
theorem fdX4_59 : br_fd RX4 59 4 10 true (.object "BarRoutine$Routine") := ⟨_, _, _, br_cl4, by decide, Or.inl (br_W0_in (i := 140) (by decide +kernel) (by decide +kernel)), rfl, by decide +kernel⟩
theorem fdX4_62 : br_fd RX4 62 4 11 false .int := ⟨_, _, _, br_cl4, by decide, Or.inl (br_W0_in (i := 141) (by decide +kernel) (by decide +kernel)), rfl, by decide +kernel⟩
theorem fdX4_65 : br_fd RX4 65 4 12 false .int := ⟨_, _, _, br_cl4, by decide, Or.inl (br_W0_in (i := 142) (by decide +kernel) (by decide +kernel)), rfl, by decide +kernel⟩
theorem fdX5_7 : br_fd RX5 7 5 0 true (.array .int) := ⟨_, _, _, br_cl5, by decide, Or.inl (br_W0_in (i := 475) (by decide +kernel) (by decide +kernel)), rfl, by decide +kernel⟩
theorem fdX5_44 : br_fd RX5 44 5 1 false .int := ⟨_, _, _, br_cl5, by decide, Or.inl (br_W0_in (i := 476) (by decide +kernel) (by decide +kernel)), rfl, by decide +kernel⟩
theorem fdX5_63 : br_fd RX5 63 5 2 false .int := ⟨_, _, _, br_cl5, by decide, Or.inl (br_W0_in (i := 477) (by decide +kernel) (by decide +kernel)), rfl, by decide +kernel⟩
theorem fdX5_69 : br_fd RX5 69 5 3 false .int := ⟨_, _, _, br_cl5, by decide, Or.inl (br_W0_in (i := 478) (by decide +kernel) (by decide +kernel)), rfl, by decide +kernel⟩
theorem fdX5_75 : br_fd RX5 75 5 4 false .int := ⟨_, _, _, br_cl5, by decide, Or.inl (br_W0_in (i := 479) (by decide +kernel) (by decide +kernel)), rfl, by decide +kernel⟩
theorem fdX5_13 : br_fd RX5 13 5 5 true (.array .int) := ⟨_, _, _, br_cl5, by decide, Or.inl (br_W0_in (i := 480) (by decide +kernel) (by decide +kernel)), rfl, by decide +kernel⟩
theorem fdX5_16 : br_fd RX5 16 5 6 true (.array .int) := ⟨_, _, _, br_cl5, by decide, Or.inl (br_W0_in (i := 481) (by decide +kernel) (by decide +kernel)), rfl, by decide +kernel⟩
theorem fdX5_66 : br_fd RX5 66 5 7 false .int := ⟨_, _, _, br_cl5, by decide, Or.inl (br_W0_in (i := 482) (by decide +kernel) (by decide +kernel)), rfl, by decide +kernel⟩
theorem fdX5_164 : br_fd RX5 164 5 8 false .int := ⟨_, _, _, br_cl5, by decide, Or.inl (br_W0_in (i := 483) (by decide +kernel) (by decide +kernel)), rfl, by decide +kernel⟩
theorem fdX5_19 : br_fd RX5 19 5 9 true (.array .int) := ⟨_, _, _, br_cl5, by decide, Or.inl (br_W0_in (i := 484) (by decide +kernel) (by decide +kernel)), rfl, by decide +kernel⟩
theorem fdX5_22 : br_fd RX5 22 5 10 true (.array .int) := ⟨_, _, _, br_cl5, by decide, Or.inl (br_W0_in (i := 485) (by decide +kernel) (by decide +kernel)), rfl, by decide +kernel⟩
theorem fdX5_72 : br_fd RX5 72 5 11 false .int := ⟨_, _, _, br_cl5, by decide, Or.inl (br_W0_in (i := 486) (by decide +kernel) (by decide +kernel)), rfl, by decide +kernel⟩
theorem fdX5_25 : br_fd RX5 25 5 12 true (.array .int) := ⟨_, _, _, br_cl5, by decide, Or.inl (br_W0_in (i := 487) (by decide +kernel) (by decide +kernel)), rfl, by decide +kernel⟩
theorem fdX5_179 : br_fd RX5 179 5 13 false .int := ⟨_, _, _, br_cl5, by decide, Or.inl (br_W0_in (i := 488) (by decide +kernel) (by decide +kernel)), rfl, by decide +kernel⟩
theorem fdX5_34 : br_fd RX5 34 5 14 false .int := ⟨_, _, _, br_cl5, by decide, Or.inl (br_W0_in (i := 489) (by decide +kernel) (by decide +kernel)), rfl, by decide +kernel⟩
theorem fdX5_194 : br_fd RX5 194 5 15 false .int := ⟨_, _, _, br_cl5, by decide, Or.inl (br_W0_in (i := 490) (by decide +kernel) (by decide +kernel)), rfl, by decide +kernel⟩
theorem fdX5_197 : br_fd RX5 197 5 16 false .int := ⟨_, _, _, br_cl5, by decide, Or.inl (br_W0_in (i := 491) (by decide +kernel) (by decide +kernel)), rfl, by decide +kernel⟩
theorem fdX5_200 : br_fd RX5 200 5 17 false .int := ⟨_, _, _, br_cl5, by decide, Or.inl (br_W0_in (i := 492) (by decide +kernel) (by decide +kernel)), rfl, by decide +kernel⟩
theorem fdX5_28 : br_fd RX5 28 5 18 true (.array .int) := ⟨_, _, _, br_cl5, by decide, Or.inl (br_W0_in (i := 493) (by decide +kernel) (by decide +kernel)), rfl, by decide +kernel⟩
theorem fdX5_31 : br_fd RX5 31 5 19 true (.array .int) := ⟨_, _, _, br_cl5, by decide, Or.inl (br_W0_in (i := 494) (by decide +kernel) (by decide +kernel)), rfl, by decide +kernel⟩
theorem fdX5_217 : br_fd RX5 217 5 20 false .long := ⟨_, _, _, br_cl5, by decide, Or.inl (br_W0_in (i := 495) (by decide +kernel) (by decide +kernel)), rfl, by decide +kernel⟩
theorem mwX4_letter : (Cond.initialized mX4_letter.1.cls ∈ br_W0 ∧ Cond.code mX4_letter.1 mX4_letter.2.1 mX4_letter.2.2.1 mX4_letter.2.2.2 ∈ br_W0) ∧ (Cond.instanceMethod mX4_letter.1 ∈ br_W0 ∧ Cond.selects mX4_letter.1.cls mX4_letter.1 mX4_letter.1 ∈ br_W0) ∧ (mX4_letter.1.cls ≠ "java/lang/invoke/MethodHandle" ∧ mX4_letter.1.cls ≠ "java/lang/invoke/VarHandle" ∧ (parseMethodDescriptor mX4_letter.1.desc).map (fun d => d.parameters.length) = some 1) ∧ mX4_letter.2.2.1 ≤ 10 := ⟨⟨(br_W0_in (i := 38) (by decide +kernel) (by decide +kernel)), (br_W0_in (i := 173) (by decide +kernel) (by decide +kernel))⟩, ⟨(br_W0_in (i := 171) (by decide +kernel) (by decide +kernel)), (br_W0_in (i := 172) (by decide +kernel) (by decide +kernel))⟩, ⟨by decide +kernel, by decide +kernel, by decide +kernel⟩, by decide⟩
theorem vcL_13 : br_vc RL 13 mX4_letter 1 := ⟨⟨(br_W0_in (i := 170) (by decide +kernel) (by decide +kernel)), mwX4_letter.1.1, mwX4_letter.1.2⟩, mwX4_letter.2⟩
theorem mwX1_add : (Cond.initialized mX1_add.1.cls ∈ br_W0 ∧ Cond.code mX1_add.1 mX1_add.2.1 mX1_add.2.2.1 mX1_add.2.2.2 ∈ br_W0) ∧ (Cond.instanceMethod mX1_add.1 ∈ br_W0 ∧ Cond.selects mX1_add.1.cls mX1_add.1 mX1_add.1 ∈ br_W0) ∧ (mX1_add.1.cls ≠ "java/lang/invoke/MethodHandle" ∧ mX1_add.1.cls ≠ "java/lang/invoke/VarHandle" ∧ (parseMethodDescriptor mX1_add.1.desc).map (fun d => d.parameters.length) = some 1) ∧ mX1_add.2.2.1 ≤ 10 := ⟨⟨(br_W0_in (i := 39) (by decide +kernel) (by decide +kernel)), (br_W0_in (i := 177) (by decide +kernel) (by decide +kernel))⟩, ⟨(br_W0_in (i := 175) (by decide +kernel) (by decide +kernel)), (br_W0_in (i := 176) (by decide +kernel) (by decide +kernel))⟩, ⟨by decide +kernel, by decide +kernel, by decide +kernel⟩, by decide⟩
theorem vcX4_71 : br_vc RX4 71 mX1_add 1 := ⟨⟨(br_W0_in (i := 174) (by decide +kernel) (by decide +kernel)), mwX1_add.1.1, mwX1_add.1.2⟩, mwX1_add.2⟩
theorem mwX4_blank : (Cond.initialized mX4_blank.1.cls ∈ br_W0 ∧ Cond.code mX4_blank.1 mX4_blank.2.1 mX4_blank.2.2.1 mX4_blank.2.2.2 ∈ br_W0) ∧ (Cond.instanceMethod mX4_blank.1 ∈ br_W0 ∧ Cond.selects mX4_blank.1.cls mX4_blank.1 mX4_blank.1 ∈ br_W0) ∧ (mX4_blank.1.cls ≠ "java/lang/invoke/MethodHandle" ∧ mX4_blank.1.cls ≠ "java/lang/invoke/VarHandle" ∧ (parseMethodDescriptor mX4_blank.1.desc).map (fun d => d.parameters.length) = some 0) ∧ mX4_blank.2.2.1 ≤ 10 := ⟨⟨(br_W0_in (i := 38) (by decide +kernel) (by decide +kernel)), (br_W0_in (i := 181) (by decide +kernel) (by decide +kernel))⟩, ⟨(br_W0_in (i := 179) (by decide +kernel) (by decide +kernel)), (br_W0_in (i := 180) (by decide +kernel) (by decide +kernel))⟩, ⟨by decide +kernel, by decide +kernel, by decide +kernel⟩, by decide⟩
theorem vcL_18 : br_vc RL 18 mX4_blank 0 := ⟨⟨(br_W0_in (i := 178) (by decide +kernel) (by decide +kernel)), mwX4_blank.1.1, mwX4_blank.1.2⟩, mwX4_blank.2⟩
theorem mwX4_fault : (Cond.initialized mX4_fault.1.cls ∈ br_W0 ∧ Cond.code mX4_fault.1 mX4_fault.2.1 mX4_fault.2.2.1 mX4_fault.2.2.2 ∈ br_W0) ∧ (Cond.instanceMethod mX4_fault.1 ∈ br_W0 ∧ Cond.selects mX4_fault.1.cls mX4_fault.1 mX4_fault.1 ∈ br_W0) ∧ (mX4_fault.1.cls ≠ "java/lang/invoke/MethodHandle" ∧ mX4_fault.1.cls ≠ "java/lang/invoke/VarHandle" ∧ (parseMethodDescriptor mX4_fault.1.desc).map (fun d => d.parameters.length) = some 0) ∧ mX4_fault.2.2.1 ≤ 10 := ⟨⟨(br_W0_in (i := 38) (by decide +kernel) (by decide +kernel)), (br_W0_in (i := 185) (by decide +kernel) (by decide +kernel))⟩, ⟨(br_W0_in (i := 183) (by decide +kernel) (by decide +kernel)), (br_W0_in (i := 184) (by decide +kernel) (by decide +kernel))⟩, ⟨by decide +kernel, by decide +kernel, by decide +kernel⟩, by decide⟩
theorem vcL_23 : br_vc RL 23 mX4_fault 0 := ⟨⟨(br_W0_in (i := 182) (by decide +kernel) (by decide +kernel)), mwX4_fault.1.1, mwX4_fault.1.2⟩, mwX4_fault.2⟩
theorem mwX1_firstFault : (Cond.initialized mX1_firstFault.1.cls ∈ br_W0 ∧ Cond.code mX1_firstFault.1 mX1_firstFault.2.1 mX1_firstFault.2.2.1 mX1_firstFault.2.2.2 ∈ br_W0) ∧ (Cond.instanceMethod mX1_firstFault.1 ∈ br_W0 ∧ Cond.selects mX1_firstFault.1.cls mX1_firstFault.1 mX1_firstFault.1 ∈ br_W0) ∧ (mX1_firstFault.1.cls ≠ "java/lang/invoke/MethodHandle" ∧ mX1_firstFault.1.cls ≠ "java/lang/invoke/VarHandle" ∧ (parseMethodDescriptor mX1_firstFault.1.desc).map (fun d => d.parameters.length) = some 0) ∧ mX1_firstFault.2.2.1 ≤ 10 := ⟨⟨(br_W0_in (i := 39) (by decide +kernel) (by decide +kernel)), (br_W0_in (i := 189) (by decide +kernel) (by decide +kernel))⟩, ⟨(br_W0_in (i := 187) (by decide +kernel) (by decide +kernel)), (br_W0_in (i := 188) (by decide +kernel) (by decide +kernel))⟩, ⟨by decide +kernel, by decide +kernel, by decide +kernel⟩, by decide⟩
theorem vcX4_75 : br_vc RX4 75 mX1_firstFault 0 := ⟨⟨(br_W0_in (i := 186) (by decide +kernel) (by decide +kernel)), mwX1_firstFault.1.1, mwX1_firstFault.1.2⟩, mwX1_firstFault.2⟩
theorem mwX1_fits : (Cond.initialized mX1_fits.1.cls ∈ br_W0 ∧ Cond.code mX1_fits.1 mX1_fits.2.1 mX1_fits.2.2.1 mX1_fits.2.2.2 ∈ br_W0) ∧ Cond.static mX1_fits.1 ∈ br_W0 ∧ (mX1_fits.1.cls ≠ "java/lang/invoke/MethodHandle" ∧ mX1_fits.1.cls ≠ "java/lang/invoke/VarHandle" ∧ (parseMethodDescriptor mX1_fits.1.desc).map (fun d => d.parameters.length) = some 2) ∧ mX1_fits.2.2.1 ≤ 10 := ⟨⟨(br_W0_in (i := 39) (by decide +kernel) (by decide +kernel)), (br_W0_in (i := 192) (by decide +kernel) (by decide +kernel))⟩, (br_W0_in (i := 191) (by decide +kernel) (by decide +kernel)), ⟨by decide +kernel, by decide +kernel, by decide +kernel⟩, by decide⟩
theorem scX1_19 : br_sc RX1 19 mX1_fits 2 := ⟨⟨Or.inl (br_W0_in (i := 190) (by decide +kernel) (by decide +kernel)), mwX1_fits.1.1, mwX1_fits.1.2⟩, mwX1_fits.2⟩
theorem mwX1_kindByLetter : (Cond.initialized mX1_kindByLetter.1.cls ∈ br_W0 ∧ Cond.code mX1_kindByLetter.1 mX1_kindByLetter.2.1 mX1_kindByLetter.2.2.1 mX1_kindByLetter.2.2.2 ∈ br_W0) ∧ Cond.static mX1_kindByLetter.1 ∈ br_W0 ∧ (mX1_kindByLetter.1.cls ≠ "java/lang/invoke/MethodHandle" ∧ mX1_kindByLetter.1.cls ≠ "java/lang/invoke/VarHandle" ∧ (parseMethodDescriptor mX1_kindByLetter.1.desc).map (fun d => d.parameters.length) = some 1) ∧ mX1_kindByLetter.2.2.1 ≤ 10 := ⟨⟨(br_W0_in (i := 39) (by decide +kernel) (by decide +kernel)), (br_W0_in (i := 195) (by decide +kernel) (by decide +kernel))⟩, (br_W0_in (i := 194) (by decide +kernel) (by decide +kernel)), ⟨by decide +kernel, by decide +kernel, by decide +kernel⟩, by decide⟩
theorem scX1_27 : br_sc RX1 27 mX1_kindByLetter 1 := ⟨⟨Or.inl (br_W0_in (i := 193) (by decide +kernel) (by decide +kernel)), mwX1_kindByLetter.1.1, mwX1_kindByLetter.1.2⟩, mwX1_kindByLetter.2⟩
theorem mwX4_gym : (Cond.initialized mX4_gym.1.cls ∈ br_W0 ∧ Cond.code mX4_gym.1 mX4_gym.2.1 mX4_gym.2.2.1 mX4_gym.2.2.2 ∈ br_W0) ∧ (Cond.instanceMethod mX4_gym.1 ∈ br_W0 ∧ Cond.selects mX4_gym.1.cls mX4_gym.1 mX4_gym.1 ∈ br_W0) ∧ (mX4_gym.1.cls ≠ "java/lang/invoke/MethodHandle" ∧ mX4_gym.1.cls ≠ "java/lang/invoke/VarHandle" ∧ (parseMethodDescriptor mX4_gym.1.desc).map (fun d => d.parameters.length) = some 0) ∧ mX4_gym.2.2.1 ≤ 10 := ⟨⟨(br_W0_in (i := 38) (by decide +kernel) (by decide +kernel)), (br_W0_in (i := 199) (by decide +kernel) (by decide +kernel))⟩, ⟨(br_W0_in (i := 197) (by decide +kernel) (by decide +kernel)), (br_W0_in (i := 198) (by decide +kernel) (by decide +kernel))⟩, ⟨by decide +kernel, by decide +kernel, by decide +kernel⟩, by decide⟩
theorem vcL_27 : br_vc RL 27 mX4_gym 0 := ⟨⟨(br_W0_in (i := 196) (by decide +kernel) (by decide +kernel)), mwX4_gym.1.1, mwX4_gym.1.2⟩, mwX4_gym.2⟩
theorem mwX1_tellsGym : (Cond.initialized mX1_tellsGym.1.cls ∈ br_W0 ∧ Cond.code mX1_tellsGym.1 mX1_tellsGym.2.1 mX1_tellsGym.2.2.1 mX1_tellsGym.2.2.2 ∈ br_W0) ∧ (Cond.instanceMethod mX1_tellsGym.1 ∈ br_W0 ∧ Cond.selects mX1_tellsGym.1.cls mX1_tellsGym.1 mX1_tellsGym.1 ∈ br_W0) ∧ (mX1_tellsGym.1.cls ≠ "java/lang/invoke/MethodHandle" ∧ mX1_tellsGym.1.cls ≠ "java/lang/invoke/VarHandle" ∧ (parseMethodDescriptor mX1_tellsGym.1.desc).map (fun d => d.parameters.length) = some 0) ∧ mX1_tellsGym.2.2.1 ≤ 10 := ⟨⟨(br_W0_in (i := 39) (by decide +kernel) (by decide +kernel)), (br_W0_in (i := 203) (by decide +kernel) (by decide +kernel))⟩, ⟨(br_W0_in (i := 201) (by decide +kernel) (by decide +kernel)), (br_W0_in (i := 202) (by decide +kernel) (by decide +kernel))⟩, ⟨by decide +kernel, by decide +kernel, by decide +kernel⟩, by decide⟩
theorem vcX4_79 : br_vc RX4 79 mX1_tellsGym 0 := ⟨⟨(br_W0_in (i := 200) (by decide +kernel) (by decide +kernel)), mwX1_tellsGym.1.1, mwX1_tellsGym.1.2⟩, mwX1_tellsGym.2⟩
theorem vcX1_23 : br_vc RX1 23 mX1_firstFault 0 := ⟨⟨(br_W0_in (i := 204) (by decide +kernel) (by decide +kernel)), mwX1_firstFault.1.1, mwX1_firstFault.1.2⟩, mwX1_firstFault.2⟩
theorem mwX0_read : (Cond.initialized mX0_read.1.cls ∈ br_W0 ∧ Cond.code mX0_read.1 mX0_read.2.1 mX0_read.2.2.1 mX0_read.2.2.2 ∈ br_W0) ∧ (Cond.instanceMethod mX0_read.1 ∈ br_W0 ∧ Cond.selects mX0_read.1.cls mX0_read.1 mX0_read.1 ∈ br_W0) ∧ (mX0_read.1.cls ≠ "java/lang/invoke/MethodHandle" ∧ mX0_read.1.cls ≠ "java/lang/invoke/VarHandle" ∧ (parseMethodDescriptor mX0_read.1.desc).map (fun d => d.parameters.length) = some 1) ∧ mX0_read.2.2.1 ≤ 10 := ⟨⟨(br_W0_in (i := 40) (by decide +kernel) (by decide +kernel)), (br_W0_in (i := 208) (by decide +kernel) (by decide +kernel))⟩, ⟨(br_W0_in (i := 206) (by decide +kernel) (by decide +kernel)), (br_W0_in (i := 207) (by decide +kernel) (by decide +kernel))⟩, ⟨by decide +kernel, by decide +kernel, by decide +kernel⟩, by decide⟩
theorem vcX4_83 : br_vc RX4 83 mX0_read 1 := ⟨⟨(br_W0_in (i := 205) (by decide +kernel) (by decide +kernel)), mwX0_read.1.1, mwX0_read.1.2⟩, mwX0_read.2⟩
theorem mwX1_codeAt : (Cond.initialized mX1_codeAt.1.cls ∈ br_W0 ∧ Cond.code mX1_codeAt.1 mX1_codeAt.2.1 mX1_codeAt.2.2.1 mX1_codeAt.2.2.2 ∈ br_W0) ∧ (Cond.instanceMethod mX1_codeAt.1 ∈ br_W0 ∧ Cond.selects mX1_codeAt.1.cls mX1_codeAt.1 mX1_codeAt.1 ∈ br_W0) ∧ (mX1_codeAt.1.cls ≠ "java/lang/invoke/MethodHandle" ∧ mX1_codeAt.1.cls ≠ "java/lang/invoke/VarHandle" ∧ (parseMethodDescriptor mX1_codeAt.1.desc).map (fun d => d.parameters.length) = some 1) ∧ mX1_codeAt.2.2.1 ≤ 10 := ⟨⟨(br_W0_in (i := 39) (by decide +kernel) (by decide +kernel)), (br_W0_in (i := 212) (by decide +kernel) (by decide +kernel))⟩, ⟨(br_W0_in (i := 210) (by decide +kernel) (by decide +kernel)), (br_W0_in (i := 211) (by decide +kernel) (by decide +kernel))⟩, ⟨by decide +kernel, by decide +kernel, by decide +kernel⟩, by decide⟩
theorem vcX0_30 : br_vc RX0 30 mX1_codeAt 1 := ⟨⟨(br_W0_in (i := 209) (by decide +kernel) (by decide +kernel)), mwX1_codeAt.1.1, mwX1_codeAt.1.2⟩, mwX1_codeAt.2⟩
theorem scX0_34 : br_sc RX0 34 mX1_kindByLetter 1 := ⟨⟨Or.inl (br_W0_in (i := 213) (by decide +kernel) (by decide +kernel)), mwX1_kindByLetter.1.1, mwX1_kindByLetter.1.2⟩, mwX1_kindByLetter.2⟩
theorem mwX4_piece : (Cond.initialized mX4_piece.1.cls ∈ br_W0 ∧ Cond.code mX4_piece.1 mX4_piece.2.1 mX4_piece.2.2.1 mX4_piece.2.2.2 ∈ br_W0) ∧ (Cond.instanceMethod mX4_piece.1 ∈ br_W0 ∧ Cond.selects mX4_piece.1.cls mX4_piece.1 mX4_piece.1 ∈ br_W0) ∧ (mX4_piece.1.cls ≠ "java/lang/invoke/MethodHandle" ∧ mX4_piece.1.cls ≠ "java/lang/invoke/VarHandle" ∧ (parseMethodDescriptor mX4_piece.1.desc).map (fun d => d.parameters.length) = some 2) ∧ mX4_piece.2.2.1 ≤ 10 := ⟨⟨(br_W0_in (i := 38) (by decide +kernel) (by decide +kernel)), (br_W0_in (i := 217) (by decide +kernel) (by decide +kernel))⟩, ⟨(br_W0_in (i := 215) (by decide +kernel) (by decide +kernel)), (br_W0_in (i := 216) (by decide +kernel) (by decide +kernel))⟩, ⟨by decide +kernel, by decide +kernel, by decide +kernel⟩, by decide⟩
theorem vcL_31 : br_vc RL 31 mX4_piece 2 := ⟨⟨(br_W0_in (i := 214) (by decide +kernel) (by decide +kernel)), mwX4_piece.1.1, mwX4_piece.1.2⟩, mwX4_piece.2⟩
theorem mwX0_has : (Cond.initialized mX0_has.1.cls ∈ br_W0 ∧ Cond.code mX0_has.1 mX0_has.2.1 mX0_has.2.2.1 mX0_has.2.2.2 ∈ br_W0) ∧ (Cond.instanceMethod mX0_has.1 ∈ br_W0 ∧ Cond.selects mX0_has.1.cls mX0_has.1 mX0_has.1 ∈ br_W0) ∧ (mX0_has.1.cls ≠ "java/lang/invoke/MethodHandle" ∧ mX0_has.1.cls ≠ "java/lang/invoke/VarHandle" ∧ (parseMethodDescriptor mX0_has.1.desc).map (fun d => d.parameters.length) = some 1) ∧ mX0_has.2.2.1 ≤ 10 := ⟨⟨(br_W0_in (i := 40) (by decide +kernel) (by decide +kernel)), (br_W0_in (i := 221) (by decide +kernel) (by decide +kernel))⟩, ⟨(br_W0_in (i := 219) (by decide +kernel) (by decide +kernel)), (br_W0_in (i := 220) (by decide +kernel) (by decide +kernel))⟩, ⟨by decide +kernel, by decide +kernel, by decide +kernel⟩, by decide⟩
theorem vcX4_92 : br_vc RX4 92 mX0_has 1 := ⟨⟨(br_W0_in (i := 218) (by decide +kernel) (by decide +kernel)), mwX0_has.1.1, mwX0_has.1.2⟩, mwX0_has.2⟩
theorem mwX0_kindOf : (Cond.initialized mX0_kindOf.1.cls ∈ br_W0 ∧ Cond.code mX0_kindOf.1 mX0_kindOf.2.1 mX0_kindOf.2.2.1 mX0_kindOf.2.2.2 ∈ br_W0) ∧ (Cond.instanceMethod mX0_kindOf.1 ∈ br_W0 ∧ Cond.selects mX0_kindOf.1.cls mX0_kindOf.1 mX0_kindOf.1 ∈ br_W0) ∧ (mX0_kindOf.1.cls ≠ "java/lang/invoke/MethodHandle" ∧ mX0_kindOf.1.cls ≠ "java/lang/invoke/VarHandle" ∧ (parseMethodDescriptor mX0_kindOf.1.desc).map (fun d => d.parameters.length) = some 1) ∧ mX0_kindOf.2.2.1 ≤ 10 := ⟨⟨(br_W0_in (i := 40) (by decide +kernel) (by decide +kernel)), (br_W0_in (i := 225) (by decide +kernel) (by decide +kernel))⟩, ⟨(br_W0_in (i := 223) (by decide +kernel) (by decide +kernel)), (br_W0_in (i := 224) (by decide +kernel) (by decide +kernel))⟩, ⟨by decide +kernel, by decide +kernel, by decide +kernel⟩, by decide⟩
theorem vcX4_96 : br_vc RX4 96 mX0_kindOf 1 := ⟨⟨(br_W0_in (i := 222) (by decide +kernel) (by decide +kernel)), mwX0_kindOf.1.1, mwX0_kindOf.1.2⟩, mwX0_kindOf.2⟩
theorem vcX0_37 : br_vc RX0 37 mX0_has 1 := ⟨⟨(br_W0_in (i := 226) (by decide +kernel) (by decide +kernel)), mwX0_has.1.1, mwX0_has.1.2⟩, mwX0_has.2⟩
theorem mwX0_worthOf : (Cond.initialized mX0_worthOf.1.cls ∈ br_W0 ∧ Cond.code mX0_worthOf.1 mX0_worthOf.2.1 mX0_worthOf.2.2.1 mX0_worthOf.2.2.2 ∈ br_W0) ∧ (Cond.instanceMethod mX0_worthOf.1 ∈ br_W0 ∧ Cond.selects mX0_worthOf.1.cls mX0_worthOf.1 mX0_worthOf.1 ∈ br_W0) ∧ (mX0_worthOf.1.cls ≠ "java/lang/invoke/MethodHandle" ∧ mX0_worthOf.1.cls ≠ "java/lang/invoke/VarHandle" ∧ (parseMethodDescriptor mX0_worthOf.1.desc).map (fun d => d.parameters.length) = some 1) ∧ mX0_worthOf.2.2.1 ≤ 10 := ⟨⟨(br_W0_in (i := 40) (by decide +kernel) (by decide +kernel)), (br_W0_in (i := 230) (by decide +kernel) (by decide +kernel))⟩, ⟨(br_W0_in (i := 228) (by decide +kernel) (by decide +kernel)), (br_W0_in (i := 229) (by decide +kernel) (by decide +kernel))⟩, ⟨by decide +kernel, by decide +kernel, by decide +kernel⟩, by decide⟩
theorem vcX4_100 : br_vc RX4 100 mX0_worthOf 1 := ⟨⟨(br_W0_in (i := 227) (by decide +kernel) (by decide +kernel)), mwX0_worthOf.1.1, mwX0_worthOf.1.2⟩, mwX0_worthOf.2⟩
theorem mwX0_sureOf : (Cond.initialized mX0_sureOf.1.cls ∈ br_W0 ∧ Cond.code mX0_sureOf.1 mX0_sureOf.2.1 mX0_sureOf.2.2.1 mX0_sureOf.2.2.2 ∈ br_W0) ∧ (Cond.instanceMethod mX0_sureOf.1 ∈ br_W0 ∧ Cond.selects mX0_sureOf.1.cls mX0_sureOf.1 mX0_sureOf.1 ∈ br_W0) ∧ (mX0_sureOf.1.cls ≠ "java/lang/invoke/MethodHandle" ∧ mX0_sureOf.1.cls ≠ "java/lang/invoke/VarHandle" ∧ (parseMethodDescriptor mX0_sureOf.1.desc).map (fun d => d.parameters.length) = some 1) ∧ mX0_sureOf.2.2.1 ≤ 10 := ⟨⟨(br_W0_in (i := 40) (by decide +kernel) (by decide +kernel)), (br_W0_in (i := 234) (by decide +kernel) (by decide +kernel))⟩, ⟨(br_W0_in (i := 232) (by decide +kernel) (by decide +kernel)), (br_W0_in (i := 233) (by decide +kernel) (by decide +kernel))⟩, ⟨by decide +kernel, by decide +kernel, by decide +kernel⟩, by decide⟩
theorem vcX4_103 : br_vc RX4 103 mX0_sureOf 1 := ⟨⟨(br_W0_in (i := 231) (by decide +kernel) (by decide +kernel)), mwX0_sureOf.1.1, mwX0_sureOf.1.2⟩, mwX0_sureOf.2⟩
theorem mwX2_placeOf : (Cond.initialized mX2_placeOf.1.cls ∈ br_W0 ∧ Cond.code mX2_placeOf.1 mX2_placeOf.2.1 mX2_placeOf.2.2.1 mX2_placeOf.2.2.2 ∈ br_W0) ∧ (Cond.instanceMethod mX2_placeOf.1 ∈ br_W0 ∧ Cond.selects mX2_placeOf.1.cls mX2_placeOf.1 mX2_placeOf.1 ∈ br_W0) ∧ (mX2_placeOf.1.cls ≠ "java/lang/invoke/MethodHandle" ∧ mX2_placeOf.1.cls ≠ "java/lang/invoke/VarHandle" ∧ (parseMethodDescriptor mX2_placeOf.1.desc).map (fun d => d.parameters.length) = some 1) ∧ mX2_placeOf.2.2.1 ≤ 10 := ⟨⟨(br_W0_in (i := 41) (by decide +kernel) (by decide +kernel)), (br_W0_in (i := 238) (by decide +kernel) (by decide +kernel))⟩, ⟨(br_W0_in (i := 236) (by decide +kernel) (by decide +kernel)), (br_W0_in (i := 237) (by decide +kernel) (by decide +kernel))⟩, ⟨by decide +kernel, by decide +kernel, by decide +kernel⟩, by decide⟩
theorem vcX4_106 : br_vc RX4 106 mX2_placeOf 1 := ⟨⟨(br_W0_in (i := 235) (by decide +kernel) (by decide +kernel)), mwX2_placeOf.1.1, mwX2_placeOf.1.2⟩, mwX2_placeOf.2⟩
theorem mwX2_holds : (Cond.initialized mX2_holds.1.cls ∈ br_W0 ∧ Cond.code mX2_holds.1 mX2_holds.2.1 mX2_holds.2.2.1 mX2_holds.2.2.2 ∈ br_W0) ∧ (Cond.instanceMethod mX2_holds.1 ∈ br_W0 ∧ Cond.selects mX2_holds.1.cls mX2_holds.1 mX2_holds.1 ∈ br_W0) ∧ (mX2_holds.1.cls ≠ "java/lang/invoke/MethodHandle" ∧ mX2_holds.1.cls ≠ "java/lang/invoke/VarHandle" ∧ (parseMethodDescriptor mX2_holds.1.desc).map (fun d => d.parameters.length) = some 1) ∧ mX2_holds.2.2.1 ≤ 10 := ⟨⟨(br_W0_in (i := 41) (by decide +kernel) (by decide +kernel)), (br_W0_in (i := 242) (by decide +kernel) (by decide +kernel))⟩, ⟨(br_W0_in (i := 240) (by decide +kernel) (by decide +kernel)), (br_W0_in (i := 241) (by decide +kernel) (by decide +kernel))⟩, ⟨by decide +kernel, by decide +kernel, by decide +kernel⟩, by decide⟩
theorem vcX4_109 : br_vc RX4 109 mX2_holds 1 := ⟨⟨(br_W0_in (i := 239) (by decide +kernel) (by decide +kernel)), mwX2_holds.1.1, mwX2_holds.1.2⟩, mwX2_holds.2⟩
theorem vcX2_27 : br_vc RX2 27 mX2_placeOf 1 := ⟨⟨(br_W0_in (i := 243) (by decide +kernel) (by decide +kernel)), mwX2_placeOf.1.1, mwX2_placeOf.1.2⟩, mwX2_placeOf.2⟩
theorem mwX2_chanceAt : (Cond.initialized mX2_chanceAt.1.cls ∈ br_W0 ∧ Cond.code mX2_chanceAt.1 mX2_chanceAt.2.1 mX2_chanceAt.2.2.1 mX2_chanceAt.2.2.2 ∈ br_W0) ∧ (Cond.instanceMethod mX2_chanceAt.1 ∈ br_W0 ∧ Cond.selects mX2_chanceAt.1.cls mX2_chanceAt.1 mX2_chanceAt.1 ∈ br_W0) ∧ (mX2_chanceAt.1.cls ≠ "java/lang/invoke/MethodHandle" ∧ mX2_chanceAt.1.cls ≠ "java/lang/invoke/VarHandle" ∧ (parseMethodDescriptor mX2_chanceAt.1.desc).map (fun d => d.parameters.length) = some 1) ∧ mX2_chanceAt.2.2.1 ≤ 10 := ⟨⟨(br_W0_in (i := 41) (by decide +kernel) (by decide +kernel)), (br_W0_in (i := 247) (by decide +kernel) (by decide +kernel))⟩, ⟨(br_W0_in (i := 245) (by decide +kernel) (by decide +kernel)), (br_W0_in (i := 246) (by decide +kernel) (by decide +kernel))⟩, ⟨by decide +kernel, by decide +kernel, by decide +kernel⟩, by decide⟩
theorem vcX4_112 : br_vc RX4 112 mX2_chanceAt 1 := ⟨⟨(br_W0_in (i := 244) (by decide +kernel) (by decide +kernel)), mwX2_chanceAt.1.1, mwX2_chanceAt.1.2⟩, mwX2_chanceAt.2⟩
theorem mwX2_pieceAt : (Cond.initialized mX2_pieceAt.1.cls ∈ br_W0 ∧ Cond.code mX2_pieceAt.1 mX2_pieceAt.2.1 mX2_pieceAt.2.2.1 mX2_pieceAt.2.2.2 ∈ br_W0) ∧ (Cond.instanceMethod mX2_pieceAt.1 ∈ br_W0 ∧ Cond.selects mX2_pieceAt.1.cls mX2_pieceAt.1 mX2_pieceAt.1 ∈ br_W0) ∧ (mX2_pieceAt.1.cls ≠ "java/lang/invoke/MethodHandle" ∧ mX2_pieceAt.1.cls ≠ "java/lang/invoke/VarHandle" ∧ (parseMethodDescriptor mX2_pieceAt.1.desc).map (fun d => d.parameters.length) = some 1) ∧ mX2_pieceAt.2.2.1 ≤ 10 := ⟨⟨(br_W0_in (i := 41) (by decide +kernel) (by decide +kernel)), (br_W0_in (i := 251) (by decide +kernel) (by decide +kernel))⟩, ⟨(br_W0_in (i := 249) (by decide +kernel) (by decide +kernel)), (br_W0_in (i := 250) (by decide +kernel) (by decide +kernel))⟩, ⟨by decide +kernel, by decide +kernel, by decide +kernel⟩, by decide⟩
theorem vcX2_40 : br_vc RX2 40 mX2_pieceAt 1 := ⟨⟨(br_W0_in (i := 248) (by decide +kernel) (by decide +kernel)), mwX2_pieceAt.1.1, mwX2_pieceAt.1.2⟩, mwX2_pieceAt.2⟩
theorem mwX2_reaches : (Cond.initialized mX2_reaches.1.cls ∈ br_W0 ∧ Cond.code mX2_reaches.1 mX2_reaches.2.1 mX2_reaches.2.2.1 mX2_reaches.2.2.2 ∈ br_W0) ∧ (Cond.instanceMethod mX2_reaches.1 ∈ br_W0 ∧ Cond.selects mX2_reaches.1.cls mX2_reaches.1 mX2_reaches.1 ∈ br_W0) ∧ (mX2_reaches.1.cls ≠ "java/lang/invoke/MethodHandle" ∧ mX2_reaches.1.cls ≠ "java/lang/invoke/VarHandle" ∧ (parseMethodDescriptor mX2_reaches.1.desc).map (fun d => d.parameters.length) = some 1) ∧ mX2_reaches.2.2.1 ≤ 10 := ⟨⟨(br_W0_in (i := 41) (by decide +kernel) (by decide +kernel)), (br_W0_in (i := 255) (by decide +kernel) (by decide +kernel))⟩, ⟨(br_W0_in (i := 253) (by decide +kernel) (by decide +kernel)), (br_W0_in (i := 254) (by decide +kernel) (by decide +kernel))⟩, ⟨by decide +kernel, by decide +kernel, by decide +kernel⟩, by decide⟩
theorem vcX2_23 : br_vc RX2 23 mX2_reaches 1 := ⟨⟨(br_W0_in (i := 252) (by decide +kernel) (by decide +kernel)), mwX2_reaches.1.1, mwX2_reaches.1.2⟩, mwX2_reaches.2⟩
theorem vcX2_46 : br_vc RX2 46 mX0_kindOf 1 := ⟨⟨(br_W0_in (i := 256) (by decide +kernel) (by decide +kernel)), mwX0_kindOf.1.1, mwX0_kindOf.1.2⟩, mwX0_kindOf.2⟩
theorem vcX2_49 : br_vc RX2 49 mX0_sureOf 1 := ⟨⟨(br_W0_in (i := 257) (by decide +kernel) (by decide +kernel)), mwX0_sureOf.1.1, mwX0_sureOf.1.2⟩, mwX0_sureOf.2⟩
theorem mwX4_chanceOf : (Cond.initialized mX4_chanceOf.1.cls ∈ br_W0 ∧ Cond.code mX4_chanceOf.1 mX4_chanceOf.2.1 mX4_chanceOf.2.2.1 mX4_chanceOf.2.2.2 ∈ br_W0) ∧ Cond.static mX4_chanceOf.1 ∈ br_W0 ∧ (mX4_chanceOf.1.cls ≠ "java/lang/invoke/MethodHandle" ∧ mX4_chanceOf.1.cls ≠ "java/lang/invoke/VarHandle" ∧ (parseMethodDescriptor mX4_chanceOf.1.desc).map (fun d => d.parameters.length) = some 3) ∧ mX4_chanceOf.2.2.1 ≤ 10 := ⟨⟨(br_W0_in (i := 38) (by decide +kernel) (by decide +kernel)), (br_W0_in (i := 260) (by decide +kernel) (by decide +kernel))⟩, (br_W0_in (i := 259) (by decide +kernel) (by decide +kernel)), ⟨by decide +kernel, by decide +kernel, by decide +kernel⟩, by decide⟩
theorem scX2_52 : br_sc RX2 52 mX4_chanceOf 3 := ⟨⟨Or.inr (by decide +kernel), mwX4_chanceOf.1.1, mwX4_chanceOf.1.2⟩, mwX4_chanceOf.2⟩
theorem mwJ9_max_7cf53 : (Cond.initialized mJ9_max_7cf53.1.cls ∈ br_W0 ∧ Cond.code mJ9_max_7cf53.1 mJ9_max_7cf53.2.1 mJ9_max_7cf53.2.2.1 mJ9_max_7cf53.2.2.2 ∈ br_W0) ∧ Cond.static mJ9_max_7cf53.1 ∈ br_W0 ∧ (mJ9_max_7cf53.1.cls ≠ "java/lang/invoke/MethodHandle" ∧ mJ9_max_7cf53.1.cls ≠ "java/lang/invoke/VarHandle" ∧ (parseMethodDescriptor mJ9_max_7cf53.1.desc).map (fun d => d.parameters.length) = some 2) ∧ mJ9_max_7cf53.2.2.1 ≤ 10 := ⟨⟨(br_W0_in (i := 44) (by decide +kernel) (by decide +kernel)), (br_W0_in (i := 263) (by decide +kernel) (by decide +kernel))⟩, (br_W0_in (i := 262) (by decide +kernel) (by decide +kernel)), ⟨by decide +kernel, by decide +kernel, by decide +kernel⟩, by decide⟩
theorem scX4_234 : br_sc RX4 234 mJ9_max_7cf53 2 := ⟨⟨Or.inl (br_W0_in (i := 261) (by decide +kernel) (by decide +kernel)), mwJ9_max_7cf53.1.1, mwJ9_max_7cf53.1.2⟩, mwJ9_max_7cf53.2⟩
theorem mwX3_possibleSures : (Cond.initialized mX3_possibleSures.1.cls ∈ br_W0 ∧ Cond.code mX3_possibleSures.1 mX3_possibleSures.2.1 mX3_possibleSures.2.2.1 mX3_possibleSures.2.2.2 ∈ br_W0) ∧ (Cond.instanceMethod mX3_possibleSures.1 ∈ br_W0 ∧ Cond.selects mX3_possibleSures.1.cls mX3_possibleSures.1 mX3_possibleSures.1 ∈ br_W0) ∧ (mX3_possibleSures.1.cls ≠ "java/lang/invoke/MethodHandle" ∧ mX3_possibleSures.1.cls ≠ "java/lang/invoke/VarHandle" ∧ (parseMethodDescriptor mX3_possibleSures.1.desc).map (fun d => d.parameters.length) = some 1) ∧ mX3_possibleSures.2.2.1 ≤ 10 := ⟨⟨(br_W0_in (i := 42) (by decide +kernel) (by decide +kernel)), (br_W0_in (i := 267) (by decide +kernel) (by decide +kernel))⟩, ⟨(br_W0_in (i := 265) (by decide +kernel) (by decide +kernel)), (br_W0_in (i := 266) (by decide +kernel) (by decide +kernel))⟩, ⟨by decide +kernel, by decide +kernel, by decide +kernel⟩, by decide⟩
theorem vcX4_115 : br_vc RX4 115 mX3_possibleSures 1 := ⟨⟨(br_W0_in (i := 264) (by decide +kernel) (by decide +kernel)), mwX3_possibleSures.1.1, mwX3_possibleSures.1.2⟩, mwX3_possibleSures.2⟩
theorem mwX3_likelihood : (Cond.initialized mX3_likelihood.1.cls ∈ br_W0 ∧ Cond.code mX3_likelihood.1 mX3_likelihood.2.1 mX3_likelihood.2.2.1 mX3_likelihood.2.2.2 ∈ br_W0) ∧ (Cond.instanceMethod mX3_likelihood.1 ∈ br_W0 ∧ Cond.selects mX3_likelihood.1.cls mX3_likelihood.1 mX3_likelihood.1 ∈ br_W0) ∧ (mX3_likelihood.1.cls ≠ "java/lang/invoke/MethodHandle" ∧ mX3_likelihood.1.cls ≠ "java/lang/invoke/VarHandle" ∧ (parseMethodDescriptor mX3_likelihood.1.desc).map (fun d => d.parameters.length) = some 2) ∧ mX3_likelihood.2.2.1 ≤ 10 := ⟨⟨(br_W0_in (i := 42) (by decide +kernel) (by decide +kernel)), (br_W0_in (i := 271) (by decide +kernel) (by decide +kernel))⟩, ⟨(br_W0_in (i := 270) (by decide +kernel) (by decide +kernel)), (br_W0_in (i := 0) (by decide +kernel) (by decide +kernel))⟩, ⟨by decide +kernel, by decide +kernel, by decide +kernel⟩, by decide⟩
theorem vcX3_30 : br_vc RX3 30 mX3_likelihood 2 := ⟨⟨(br_W0_in (i := 268) (by decide +kernel) (by decide +kernel)), mwX3_likelihood.1.1, mwX3_likelihood.1.2⟩, mwX3_likelihood.2⟩
theorem vcX3_34 : br_vc RX3 34 mX0_kindOf 1 := ⟨⟨(br_W0_in (i := 272) (by decide +kernel) (by decide +kernel)), mwX0_kindOf.1.1, mwX0_kindOf.1.2⟩, mwX0_kindOf.2⟩
theorem scX3_40 : br_sc RX3 40 mX4_chanceOf 3 := ⟨⟨Or.inr (by decide +kernel), mwX4_chanceOf.1.1, mwX4_chanceOf.1.2⟩, mwX4_chanceOf.2⟩
theorem mwX3_likeliestSure : (Cond.initialized mX3_likeliestSure.1.cls ∈ br_W0 ∧ Cond.code mX3_likeliestSure.1 mX3_likeliestSure.2.1 mX3_likeliestSure.2.2.1 mX3_likeliestSure.2.2.2 ∈ br_W0) ∧ (Cond.instanceMethod mX3_likeliestSure.1 ∈ br_W0 ∧ Cond.selects mX3_likeliestSure.1.cls mX3_likeliestSure.1 mX3_likeliestSure.1 ∈ br_W0) ∧ (mX3_likeliestSure.1.cls ≠ "java/lang/invoke/MethodHandle" ∧ mX3_likeliestSure.1.cls ≠ "java/lang/invoke/VarHandle" ∧ (parseMethodDescriptor mX3_likeliestSure.1.desc).map (fun d => d.parameters.length) = some 1) ∧ mX3_likeliestSure.2.2.1 ≤ 10 := ⟨⟨(br_W0_in (i := 42) (by decide +kernel) (by decide +kernel)), (br_W0_in (i := 277) (by decide +kernel) (by decide +kernel))⟩, ⟨(br_W0_in (i := 275) (by decide +kernel) (by decide +kernel)), (br_W0_in (i := 276) (by decide +kernel) (by decide +kernel))⟩, ⟨by decide +kernel, by decide +kernel, by decide +kernel⟩, by decide⟩
theorem vcX4_118 : br_vc RX4 118 mX3_likeliestSure 1 := ⟨⟨(br_W0_in (i := 274) (by decide +kernel) (by decide +kernel)), mwX3_likeliestSure.1.1, mwX3_likeliestSure.1.2⟩, mwX3_likeliestSure.2⟩
theorem mwX4_as : (Cond.initialized mX4_as.1.cls ∈ br_W0 ∧ Cond.code mX4_as.1 mX4_as.2.1 mX4_as.2.2.1 mX4_as.2.2.2 ∈ br_W0) ∧ (Cond.instanceMethod mX4_as.1 ∈ br_W0 ∧ Cond.selects mX4_as.1.cls mX4_as.1 mX4_as.1 ∈ br_W0) ∧ (mX4_as.1.cls ≠ "java/lang/invoke/MethodHandle" ∧ mX4_as.1.cls ≠ "java/lang/invoke/VarHandle" ∧ (parseMethodDescriptor mX4_as.1.desc).map (fun d => d.parameters.length) = some 2) ∧ mX4_as.2.2.1 ≤ 10 := ⟨⟨(br_W0_in (i := 38) (by decide +kernel) (by decide +kernel)), (br_W0_in (i := 281) (by decide +kernel) (by decide +kernel))⟩, ⟨(br_W0_in (i := 279) (by decide +kernel) (by decide +kernel)), (br_W0_in (i := 280) (by decide +kernel) (by decide +kernel))⟩, ⟨by decide +kernel, by decide +kernel, by decide +kernel⟩, by decide⟩
theorem vcL_36 : br_vc RL 36 mX4_as 2 := ⟨⟨(br_W0_in (i := 278) (by decide +kernel) (by decide +kernel)), mwX4_as.1.1, mwX4_as.1.2⟩, mwX4_as.2⟩
theorem mwX0_isA : (Cond.initialized mX0_isA.1.cls ∈ br_W0 ∧ Cond.code mX0_isA.1 mX0_isA.2.1 mX0_isA.2.2.1 mX0_isA.2.2.2 ∈ br_W0) ∧ (Cond.instanceMethod mX0_isA.1 ∈ br_W0 ∧ Cond.selects mX0_isA.1.cls mX0_isA.1 mX0_isA.1 ∈ br_W0) ∧ (mX0_isA.1.cls ≠ "java/lang/invoke/MethodHandle" ∧ mX0_isA.1.cls ≠ "java/lang/invoke/VarHandle" ∧ (parseMethodDescriptor mX0_isA.1.desc).map (fun d => d.parameters.length) = some 2) ∧ mX0_isA.2.2.1 ≤ 10 := ⟨⟨(br_W0_in (i := 40) (by decide +kernel) (by decide +kernel)), (br_W0_in (i := 285) (by decide +kernel) (by decide +kernel))⟩, ⟨(br_W0_in (i := 283) (by decide +kernel) (by decide +kernel)), (br_W0_in (i := 284) (by decide +kernel) (by decide +kernel))⟩, ⟨by decide +kernel, by decide +kernel, by decide +kernel⟩, by decide⟩
theorem vcX4_121 : br_vc RX4 121 mX0_isA 2 := ⟨⟨(br_W0_in (i := 282) (by decide +kernel) (by decide +kernel)), mwX0_isA.1.1, mwX0_isA.1.2⟩, mwX0_isA.2⟩
theorem mwX4_put : (Cond.initialized mX4_put.1.cls ∈ br_W0 ∧ Cond.code mX4_put.1 mX4_put.2.1 mX4_put.2.2.1 mX4_put.2.2.2 ∈ br_W0) ∧ (Cond.instanceMethod mX4_put.1 ∈ br_W0 ∧ Cond.selects mX4_put.1.cls mX4_put.1 mX4_put.1 ∈ br_W0) ∧ (mX4_put.1.cls ≠ "java/lang/invoke/MethodHandle" ∧ mX4_put.1.cls ≠ "java/lang/invoke/VarHandle" ∧ (parseMethodDescriptor mX4_put.1.desc).map (fun d => d.parameters.length) = some 1) ∧ mX4_put.2.2.1 ≤ 10 := ⟨⟨(br_W0_in (i := 38) (by decide +kernel) (by decide +kernel)), (br_W0_in (i := 289) (by decide +kernel) (by decide +kernel))⟩, ⟨(br_W0_in (i := 287) (by decide +kernel) (by decide +kernel)), (br_W0_in (i := 288) (by decide +kernel) (by decide +kernel))⟩, ⟨by decide +kernel, by decide +kernel, by decide +kernel⟩, by decide⟩
theorem vcL_40 : br_vc RL 40 mX4_put 1 := ⟨⟨(br_W0_in (i := 286) (by decide +kernel) (by decide +kernel)), mwX4_put.1.1, mwX4_put.1.2⟩, mwX4_put.2⟩
theorem mwX2_append : (Cond.initialized mX2_append.1.cls ∈ br_W0 ∧ Cond.code mX2_append.1 mX2_append.2.1 mX2_append.2.2.1 mX2_append.2.2.2 ∈ br_W0) ∧ (Cond.instanceMethod mX2_append.1 ∈ br_W0 ∧ Cond.selects mX2_append.1.cls mX2_append.1 mX2_append.1 ∈ br_W0) ∧ (mX2_append.1.cls ≠ "java/lang/invoke/MethodHandle" ∧ mX2_append.1.cls ≠ "java/lang/invoke/VarHandle" ∧ (parseMethodDescriptor mX2_append.1.desc).map (fun d => d.parameters.length) = some 1) ∧ mX2_append.2.2.1 ≤ 10 := ⟨⟨(br_W0_in (i := 41) (by decide +kernel) (by decide +kernel)), (br_W0_in (i := 293) (by decide +kernel) (by decide +kernel))⟩, ⟨(br_W0_in (i := 291) (by decide +kernel) (by decide +kernel)), (br_W0_in (i := 292) (by decide +kernel) (by decide +kernel))⟩, ⟨by decide +kernel, by decide +kernel, by decide +kernel⟩, by decide⟩
theorem vcX4_125 : br_vc RX4 125 mX2_append 1 := ⟨⟨(br_W0_in (i := 290) (by decide +kernel) (by decide +kernel)), mwX2_append.1.1, mwX2_append.1.2⟩, mwX2_append.2⟩
theorem mwX4_take : (Cond.initialized mX4_take.1.cls ∈ br_W0 ∧ Cond.code mX4_take.1 mX4_take.2.1 mX4_take.2.2.1 mX4_take.2.2.2 ∈ br_W0) ∧ (Cond.instanceMethod mX4_take.1 ∈ br_W0 ∧ Cond.selects mX4_take.1.cls mX4_take.1 mX4_take.1 ∈ br_W0) ∧ (mX4_take.1.cls ≠ "java/lang/invoke/MethodHandle" ∧ mX4_take.1.cls ≠ "java/lang/invoke/VarHandle" ∧ (parseMethodDescriptor mX4_take.1.desc).map (fun d => d.parameters.length) = some 1) ∧ mX4_take.2.2.1 ≤ 10 := ⟨⟨(br_W0_in (i := 38) (by decide +kernel) (by decide +kernel)), (br_W0_in (i := 297) (by decide +kernel) (by decide +kernel))⟩, ⟨(br_W0_in (i := 295) (by decide +kernel) (by decide +kernel)), (br_W0_in (i := 296) (by decide +kernel) (by decide +kernel))⟩, ⟨by decide +kernel, by decide +kernel, by decide +kernel⟩, by decide⟩
theorem vcL_44 : br_vc RL 44 mX4_take 1 := ⟨⟨(br_W0_in (i := 294) (by decide +kernel) (by decide +kernel)), mwX4_take.1.1, mwX4_take.1.2⟩, mwX4_take.2⟩
theorem vcX4_128 : br_vc RX4 128 mX2_reaches 1 := ⟨⟨(br_W0_in (i := 298) (by decide +kernel) (by decide +kernel)), mwX2_reaches.1.1, mwX2_reaches.1.2⟩, mwX2_reaches.2⟩
theorem mwX2_removeAt : (Cond.initialized mX2_removeAt.1.cls ∈ br_W0 ∧ Cond.code mX2_removeAt.1 mX2_removeAt.2.1 mX2_removeAt.2.2.1 mX2_removeAt.2.2.2 ∈ br_W0) ∧ (Cond.instanceMethod mX2_removeAt.1 ∈ br_W0 ∧ Cond.selects mX2_removeAt.1.cls mX2_removeAt.1 mX2_removeAt.1 ∈ br_W0) ∧ (mX2_removeAt.1.cls ≠ "java/lang/invoke/MethodHandle" ∧ mX2_removeAt.1.cls ≠ "java/lang/invoke/VarHandle" ∧ (parseMethodDescriptor mX2_removeAt.1.desc).map (fun d => d.parameters.length) = some 1) ∧ mX2_removeAt.2.2.1 ≤ 10 := ⟨⟨(br_W0_in (i := 41) (by decide +kernel) (by decide +kernel)), (br_W0_in (i := 302) (by decide +kernel) (by decide +kernel))⟩, ⟨(br_W0_in (i := 300) (by decide +kernel) (by decide +kernel)), (br_W0_in (i := 301) (by decide +kernel) (by decide +kernel))⟩, ⟨by decide +kernel, by decide +kernel, by decide +kernel⟩, by decide⟩
theorem vcX4_131 : br_vc RX4 131 mX2_removeAt 1 := ⟨⟨(br_W0_in (i := 299) (by decide +kernel) (by decide +kernel)), mwX2_removeAt.1.1, mwX2_removeAt.1.2⟩, mwX2_removeAt.2⟩
theorem mwX4_swap : (Cond.initialized mX4_swap.1.cls ∈ br_W0 ∧ Cond.code mX4_swap.1 mX4_swap.2.1 mX4_swap.2.2.1 mX4_swap.2.2.2 ∈ br_W0) ∧ (Cond.instanceMethod mX4_swap.1 ∈ br_W0 ∧ Cond.selects mX4_swap.1.cls mX4_swap.1 mX4_swap.1 ∈ br_W0) ∧ (mX4_swap.1.cls ≠ "java/lang/invoke/MethodHandle" ∧ mX4_swap.1.cls ≠ "java/lang/invoke/VarHandle" ∧ (parseMethodDescriptor mX4_swap.1.desc).map (fun d => d.parameters.length) = some 2) ∧ mX4_swap.2.2.1 ≤ 10 := ⟨⟨(br_W0_in (i := 38) (by decide +kernel) (by decide +kernel)), (br_W0_in (i := 306) (by decide +kernel) (by decide +kernel))⟩, ⟨(br_W0_in (i := 304) (by decide +kernel) (by decide +kernel)), (br_W0_in (i := 305) (by decide +kernel) (by decide +kernel))⟩, ⟨by decide +kernel, by decide +kernel, by decide +kernel⟩, by decide⟩
theorem vcL_48 : br_vc RL 48 mX4_swap 2 := ⟨⟨(br_W0_in (i := 303) (by decide +kernel) (by decide +kernel)), mwX4_swap.1.1, mwX4_swap.1.2⟩, mwX4_swap.2⟩
theorem mwX2_exchange : (Cond.initialized mX2_exchange.1.cls ∈ br_W0 ∧ Cond.code mX2_exchange.1 mX2_exchange.2.1 mX2_exchange.2.2.1 mX2_exchange.2.2.2 ∈ br_W0) ∧ (Cond.instanceMethod mX2_exchange.1 ∈ br_W0 ∧ Cond.selects mX2_exchange.1.cls mX2_exchange.1 mX2_exchange.1 ∈ br_W0) ∧ (mX2_exchange.1.cls ≠ "java/lang/invoke/MethodHandle" ∧ mX2_exchange.1.cls ≠ "java/lang/invoke/VarHandle" ∧ (parseMethodDescriptor mX2_exchange.1.desc).map (fun d => d.parameters.length) = some 2) ∧ mX2_exchange.2.2.1 ≤ 10 := ⟨⟨(br_W0_in (i := 41) (by decide +kernel) (by decide +kernel)), (br_W0_in (i := 310) (by decide +kernel) (by decide +kernel))⟩, ⟨(br_W0_in (i := 308) (by decide +kernel) (by decide +kernel)), (br_W0_in (i := 309) (by decide +kernel) (by decide +kernel))⟩, ⟨by decide +kernel, by decide +kernel, by decide +kernel⟩, by decide⟩
theorem vcX4_134 : br_vc RX4 134 mX2_exchange 2 := ⟨⟨(br_W0_in (i := 307) (by decide +kernel) (by decide +kernel)), mwX2_exchange.1.1, mwX2_exchange.1.2⟩, mwX2_exchange.2⟩
theorem mwX4_at : (Cond.initialized mX4_at.1.cls ∈ br_W0 ∧ Cond.code mX4_at.1 mX4_at.2.1 mX4_at.2.2.1 mX4_at.2.2.2 ∈ br_W0) ∧ (Cond.instanceMethod mX4_at.1 ∈ br_W0 ∧ Cond.selects mX4_at.1.cls mX4_at.1 mX4_at.1 ∈ br_W0) ∧ (mX4_at.1.cls ≠ "java/lang/invoke/MethodHandle" ∧ mX4_at.1.cls ≠ "java/lang/invoke/VarHandle" ∧ (parseMethodDescriptor mX4_at.1.desc).map (fun d => d.parameters.length) = some 1) ∧ mX4_at.2.2.1 ≤ 10 := ⟨⟨(br_W0_in (i := 38) (by decide +kernel) (by decide +kernel)), (br_W0_in (i := 314) (by decide +kernel) (by decide +kernel))⟩, ⟨(br_W0_in (i := 312) (by decide +kernel) (by decide +kernel)), (br_W0_in (i := 313) (by decide +kernel) (by decide +kernel))⟩, ⟨by decide +kernel, by decide +kernel, by decide +kernel⟩, by decide⟩
theorem vcL_52 : br_vc RL 52 mX4_at 1 := ⟨⟨(br_W0_in (i := 311) (by decide +kernel) (by decide +kernel)), mwX4_at.1.1, mwX4_at.1.2⟩, mwX4_at.2⟩
theorem vcX4_138 : br_vc RX4 138 mX2_pieceAt 1 := ⟨⟨(br_W0_in (i := 315) (by decide +kernel) (by decide +kernel)), mwX2_pieceAt.1.1, mwX2_pieceAt.1.2⟩, mwX2_pieceAt.2⟩
theorem mwX4_score : (Cond.initialized mX4_score.1.cls ∈ br_W0 ∧ Cond.code mX4_score.1 mX4_score.2.1 mX4_score.2.2.1 mX4_score.2.2.2 ∈ br_W0) ∧ (Cond.instanceMethod mX4_score.1 ∈ br_W0 ∧ Cond.selects mX4_score.1.cls mX4_score.1 mX4_score.1 ∈ br_W0) ∧ (mX4_score.1.cls ≠ "java/lang/invoke/MethodHandle" ∧ mX4_score.1.cls ≠ "java/lang/invoke/VarHandle" ∧ (parseMethodDescriptor mX4_score.1.desc).map (fun d => d.parameters.length) = some 1) ∧ mX4_score.2.2.1 ≤ 10 := ⟨⟨(br_W0_in (i := 38) (by decide +kernel) (by decide +kernel)), (br_W0_in (i := 319) (by decide +kernel) (by decide +kernel))⟩, ⟨(br_W0_in (i := 317) (by decide +kernel) (by decide +kernel)), (br_W0_in (i := 318) (by decide +kernel) (by decide +kernel))⟩, ⟨by decide +kernel, by decide +kernel, by decide +kernel⟩, by decide⟩
theorem vcL_56 : br_vc RL 56 mX4_score 1 := ⟨⟨(br_W0_in (i := 316) (by decide +kernel) (by decide +kernel)), mwX4_score.1.1, mwX4_score.1.2⟩, mwX4_score.2⟩
theorem mwX4_noGym : (Cond.initialized mX4_noGym.1.cls ∈ br_W0 ∧ Cond.code mX4_noGym.1 mX4_noGym.2.1 mX4_noGym.2.2.1 mX4_noGym.2.2.2 ∈ br_W0) ∧ (Cond.instanceMethod mX4_noGym.1 ∈ br_W0 ∧ Cond.selects mX4_noGym.1.cls mX4_noGym.1 mX4_noGym.1 ∈ br_W0) ∧ (mX4_noGym.1.cls ≠ "java/lang/invoke/MethodHandle" ∧ mX4_noGym.1.cls ≠ "java/lang/invoke/VarHandle" ∧ (parseMethodDescriptor mX4_noGym.1.desc).map (fun d => d.parameters.length) = some 0) ∧ mX4_noGym.2.2.1 ≤ 10 := ⟨⟨(br_W0_in (i := 38) (by decide +kernel) (by decide +kernel)), (br_W0_in (i := 323) (by decide +kernel) (by decide +kernel))⟩, ⟨(br_W0_in (i := 322) (by decide +kernel) (by decide +kernel)), (br_W0_in (i := 1) (by decide +kernel) (by decide +kernel))⟩, ⟨by decide +kernel, by decide +kernel, by decide +kernel⟩, by decide⟩
theorem vcX4_141 : br_vc RX4 141 mX4_noGym 0 := ⟨⟨(br_W0_in (i := 320) (by decide +kernel) (by decide +kernel)), mwX4_noGym.1.1, mwX4_noGym.1.2⟩, mwX4_noGym.2⟩
theorem mwX2_points : (Cond.initialized mX2_points.1.cls ∈ br_W0 ∧ Cond.code mX2_points.1 mX2_points.2.1 mX2_points.2.2.1 mX2_points.2.2.2 ∈ br_W0) ∧ (Cond.instanceMethod mX2_points.1 ∈ br_W0 ∧ Cond.selects mX2_points.1.cls mX2_points.1 mX2_points.1 ∈ br_W0) ∧ (mX2_points.1.cls ≠ "java/lang/invoke/MethodHandle" ∧ mX2_points.1.cls ≠ "java/lang/invoke/VarHandle" ∧ (parseMethodDescriptor mX2_points.1.desc).map (fun d => d.parameters.length) = some 1) ∧ mX2_points.2.2.1 ≤ 10 := ⟨⟨(br_W0_in (i := 41) (by decide +kernel) (by decide +kernel)), (br_W0_in (i := 327) (by decide +kernel) (by decide +kernel))⟩, ⟨(br_W0_in (i := 325) (by decide +kernel) (by decide +kernel)), (br_W0_in (i := 326) (by decide +kernel) (by decide +kernel))⟩, ⟨by decide +kernel, by decide +kernel, by decide +kernel⟩, by decide⟩
theorem vcX4_144 : br_vc RX4 144 mX2_points 1 := ⟨⟨(br_W0_in (i := 324) (by decide +kernel) (by decide +kernel)), mwX2_points.1.1, mwX2_points.1.2⟩, mwX2_points.2⟩
theorem mwX2_gained : (Cond.initialized mX2_gained.1.cls ∈ br_W0 ∧ Cond.code mX2_gained.1 mX2_gained.2.1 mX2_gained.2.2.1 mX2_gained.2.2.2 ∈ br_W0) ∧ (Cond.instanceMethod mX2_gained.1 ∈ br_W0 ∧ Cond.selects mX2_gained.1.cls mX2_gained.1 mX2_gained.1 ∈ br_W0) ∧ (mX2_gained.1.cls ≠ "java/lang/invoke/MethodHandle" ∧ mX2_gained.1.cls ≠ "java/lang/invoke/VarHandle" ∧ (parseMethodDescriptor mX2_gained.1.desc).map (fun d => d.parameters.length) = some 1) ∧ mX2_gained.2.2.1 ≤ 10 := ⟨⟨(br_W0_in (i := 41) (by decide +kernel) (by decide +kernel)), (br_W0_in (i := 331) (by decide +kernel) (by decide +kernel))⟩, ⟨(br_W0_in (i := 330) (by decide +kernel) (by decide +kernel)), (br_W0_in (i := 2) (by decide +kernel) (by decide +kernel))⟩, ⟨by decide +kernel, by decide +kernel, by decide +kernel⟩, by decide⟩
theorem vcX2_56 : br_vc RX2 56 mX2_gained 1 := ⟨⟨(br_W0_in (i := 328) (by decide +kernel) (by decide +kernel)), mwX2_gained.1.1, mwX2_gained.1.2⟩, mwX2_gained.2⟩
theorem vcX2_63 : br_vc RX2 63 mX0_worthOf 1 := ⟨⟨(br_W0_in (i := 332) (by decide +kernel) (by decide +kernel)), mwX0_worthOf.1.1, mwX0_worthOf.1.2⟩, mwX0_worthOf.2⟩
theorem mwX2_joinWorth : (Cond.initialized mX2_joinWorth.1.cls ∈ br_W0 ∧ Cond.code mX2_joinWorth.1 mX2_joinWorth.2.1 mX2_joinWorth.2.2.1 mX2_joinWorth.2.2.2 ∈ br_W0) ∧ (Cond.instanceMethod mX2_joinWorth.1 ∈ br_W0 ∧ Cond.selects mX2_joinWorth.1.cls mX2_joinWorth.1 mX2_joinWorth.1 ∈ br_W0) ∧ (mX2_joinWorth.1.cls ≠ "java/lang/invoke/MethodHandle" ∧ mX2_joinWorth.1.cls ≠ "java/lang/invoke/VarHandle" ∧ (parseMethodDescriptor mX2_joinWorth.1.desc).map (fun d => d.parameters.length) = some 1) ∧ mX2_joinWorth.2.2.1 ≤ 10 := ⟨⟨(br_W0_in (i := 41) (by decide +kernel) (by decide +kernel)), (br_W0_in (i := 336) (by decide +kernel) (by decide +kernel))⟩, ⟨(br_W0_in (i := 335) (by decide +kernel) (by decide +kernel)), (br_W0_in (i := 3) (by decide +kernel) (by decide +kernel))⟩, ⟨by decide +kernel, by decide +kernel, by decide +kernel⟩, by decide⟩
theorem vcX2_37 : br_vc RX2 37 mX2_joinWorth 1 := ⟨⟨(br_W0_in (i := 333) (by decide +kernel) (by decide +kernel)), mwX2_joinWorth.1.1, mwX2_joinWorth.1.2⟩, mwX2_joinWorth.2⟩
theorem vcX2_31 : br_vc RX2 31 mX0_isA 2 := ⟨⟨(br_W0_in (i := 337) (by decide +kernel) (by decide +kernel)), mwX0_isA.1.1, mwX0_isA.1.2⟩, mwX0_isA.2⟩
theorem mwX2_lackingPenalty : (Cond.initialized mX2_lackingPenalty.1.cls ∈ br_W0 ∧ Cond.code mX2_lackingPenalty.1 mX2_lackingPenalty.2.1 mX2_lackingPenalty.2.2.1 mX2_lackingPenalty.2.2.2 ∈ br_W0) ∧ (Cond.instanceMethod mX2_lackingPenalty.1 ∈ br_W0 ∧ Cond.selects mX2_lackingPenalty.1.cls mX2_lackingPenalty.1 mX2_lackingPenalty.1 ∈ br_W0) ∧ (mX2_lackingPenalty.1.cls ≠ "java/lang/invoke/MethodHandle" ∧ mX2_lackingPenalty.1.cls ≠ "java/lang/invoke/VarHandle" ∧ (parseMethodDescriptor mX2_lackingPenalty.1.desc).map (fun d => d.parameters.length) = some 0) ∧ mX2_lackingPenalty.2.2.1 ≤ 10 := ⟨⟨(br_W0_in (i := 41) (by decide +kernel) (by decide +kernel)), (br_W0_in (i := 341) (by decide +kernel) (by decide +kernel))⟩, ⟨(br_W0_in (i := 340) (by decide +kernel) (by decide +kernel)), (br_W0_in (i := 4) (by decide +kernel) (by decide +kernel))⟩, ⟨by decide +kernel, by decide +kernel, by decide +kernel⟩, by decide⟩
theorem vcX2_59 : br_vc RX2 59 mX2_lackingPenalty 0 := ⟨⟨(br_W0_in (i := 338) (by decide +kernel) (by decide +kernel)), mwX2_lackingPenalty.1.1, mwX2_lackingPenalty.1.2⟩, mwX2_lackingPenalty.2⟩
theorem mwX2_howMany : (Cond.initialized mX2_howMany.1.cls ∈ br_W0 ∧ Cond.code mX2_howMany.1 mX2_howMany.2.1 mX2_howMany.2.2.1 mX2_howMany.2.2.2 ∈ br_W0) ∧ (Cond.instanceMethod mX2_howMany.1 ∈ br_W0 ∧ Cond.selects mX2_howMany.1.cls mX2_howMany.1 mX2_howMany.1 ∈ br_W0) ∧ (mX2_howMany.1.cls ≠ "java/lang/invoke/MethodHandle" ∧ mX2_howMany.1.cls ≠ "java/lang/invoke/VarHandle" ∧ (parseMethodDescriptor mX2_howMany.1.desc).map (fun d => d.parameters.length) = some 1) ∧ mX2_howMany.2.2.1 ≤ 10 := ⟨⟨(br_W0_in (i := 41) (by decide +kernel) (by decide +kernel)), (br_W0_in (i := 345) (by decide +kernel) (by decide +kernel))⟩, ⟨(br_W0_in (i := 343) (by decide +kernel) (by decide +kernel)), (br_W0_in (i := 344) (by decide +kernel) (by decide +kernel))⟩, ⟨by decide +kernel, by decide +kernel, by decide +kernel⟩, by decide⟩
theorem vcX2_43 : br_vc RX2 43 mX2_howMany 1 := ⟨⟨(br_W0_in (i := 342) (by decide +kernel) (by decide +kernel)), mwX2_howMany.1.1, mwX2_howMany.1.2⟩, mwX2_howMany.2⟩
theorem mwX4_mean : (Cond.initialized mX4_mean.1.cls ∈ br_W0 ∧ Cond.code mX4_mean.1 mX4_mean.2.1 mX4_mean.2.2.1 mX4_mean.2.2.2 ∈ br_W0) ∧ (Cond.instanceMethod mX4_mean.1 ∈ br_W0 ∧ Cond.selects mX4_mean.1.cls mX4_mean.1 mX4_mean.1 ∈ br_W0) ∧ (mX4_mean.1.cls ≠ "java/lang/invoke/MethodHandle" ∧ mX4_mean.1.cls ≠ "java/lang/invoke/VarHandle" ∧ (parseMethodDescriptor mX4_mean.1.desc).map (fun d => d.parameters.length) = some 1) ∧ mX4_mean.2.2.1 ≤ 10 := ⟨⟨(br_W0_in (i := 38) (by decide +kernel) (by decide +kernel)), (br_W0_in (i := 349) (by decide +kernel) (by decide +kernel))⟩, ⟨(br_W0_in (i := 347) (by decide +kernel) (by decide +kernel)), (br_W0_in (i := 348) (by decide +kernel) (by decide +kernel))⟩, ⟨by decide +kernel, by decide +kernel, by decide +kernel⟩, by decide⟩
theorem vcL_60 : br_vc RL 60 mX4_mean 1 := ⟨⟨(br_W0_in (i := 346) (by decide +kernel) (by decide +kernel)), mwX4_mean.1.1, mwX4_mean.1.2⟩, mwX4_mean.2⟩
theorem mwX4_asksAboveOrBelow : (Cond.initialized mX4_asksAboveOrBelow.1.cls ∈ br_W0 ∧ Cond.code mX4_asksAboveOrBelow.1 mX4_asksAboveOrBelow.2.1 mX4_asksAboveOrBelow.2.2.1 mX4_asksAboveOrBelow.2.2.2 ∈ br_W0) ∧ Cond.static mX4_asksAboveOrBelow.1 ∈ br_W0 ∧ (mX4_asksAboveOrBelow.1.cls ≠ "java/lang/invoke/MethodHandle" ∧ mX4_asksAboveOrBelow.1.cls ≠ "java/lang/invoke/VarHandle" ∧ (parseMethodDescriptor mX4_asksAboveOrBelow.1.desc).map (fun d => d.parameters.length) = some 1) ∧ mX4_asksAboveOrBelow.2.2.1 ≤ 10 := ⟨⟨(br_W0_in (i := 38) (by decide +kernel) (by decide +kernel)), (br_W0_in (i := 352) (by decide +kernel) (by decide +kernel))⟩, (br_W0_in (i := 351) (by decide +kernel) (by decide +kernel)), ⟨by decide +kernel, by decide +kernel, by decide +kernel⟩, by decide⟩
theorem scX4_147 : br_sc RX4 147 mX4_asksAboveOrBelow 1 := ⟨⟨Or.inl (br_W0_in (i := 350) (by decide +kernel) (by decide +kernel)), mwX4_asksAboveOrBelow.1.1, mwX4_asksAboveOrBelow.1.2⟩, mwX4_asksAboveOrBelow.2⟩
theorem mwX2_meanInHundredths : (Cond.initialized mX2_meanInHundredths.1.cls ∈ br_W0 ∧ Cond.code mX2_meanInHundredths.1 mX2_meanInHundredths.2.1 mX2_meanInHundredths.2.2.1 mX2_meanInHundredths.2.2.2 ∈ br_W0) ∧ (Cond.instanceMethod mX2_meanInHundredths.1 ∈ br_W0 ∧ Cond.selects mX2_meanInHundredths.1.cls mX2_meanInHundredths.1 mX2_meanInHundredths.1 ∈ br_W0) ∧ (mX2_meanInHundredths.1.cls ≠ "java/lang/invoke/MethodHandle" ∧ mX2_meanInHundredths.1.cls ≠ "java/lang/invoke/VarHandle" ∧ (parseMethodDescriptor mX2_meanInHundredths.1.desc).map (fun d => d.parameters.length) = some 0) ∧ mX2_meanInHundredths.2.2.1 ≤ 10 := ⟨⟨(br_W0_in (i := 41) (by decide +kernel) (by decide +kernel)), (br_W0_in (i := 356) (by decide +kernel) (by decide +kernel))⟩, ⟨(br_W0_in (i := 354) (by decide +kernel) (by decide +kernel)), (br_W0_in (i := 355) (by decide +kernel) (by decide +kernel))⟩, ⟨by decide +kernel, by decide +kernel, by decide +kernel⟩, by decide⟩
theorem vcX4_150 : br_vc RX4 150 mX2_meanInHundredths 0 := ⟨⟨(br_W0_in (i := 353) (by decide +kernel) (by decide +kernel)), mwX2_meanInHundredths.1.1, mwX2_meanInHundredths.1.2⟩, mwX2_meanInHundredths.2⟩
theorem vcX2_66 : br_vc RX2 66 mX2_chanceAt 1 := ⟨⟨(br_W0_in (i := 357) (by decide +kernel) (by decide +kernel)), mwX2_chanceAt.1.1, mwX2_chanceAt.1.2⟩, mwX2_chanceAt.2⟩
theorem mwX4_inLowestTerms : (Cond.initialized mX4_inLowestTerms.1.cls ∈ br_W0 ∧ Cond.code mX4_inLowestTerms.1 mX4_inLowestTerms.2.1 mX4_inLowestTerms.2.2.1 mX4_inLowestTerms.2.2.2 ∈ br_W0) ∧ Cond.static mX4_inLowestTerms.1 ∈ br_W0 ∧ (mX4_inLowestTerms.1.cls ≠ "java/lang/invoke/MethodHandle" ∧ mX4_inLowestTerms.1.cls ≠ "java/lang/invoke/VarHandle" ∧ (parseMethodDescriptor mX4_inLowestTerms.1.desc).map (fun d => d.parameters.length) = some 3) ∧ mX4_inLowestTerms.2.2.1 ≤ 10 := ⟨⟨(br_W0_in (i := 38) (by decide +kernel) (by decide +kernel)), (br_W0_in (i := 360) (by decide +kernel) (by decide +kernel))⟩, (br_W0_in (i := 359) (by decide +kernel) (by decide +kernel)), ⟨by decide +kernel, by decide +kernel, by decide +kernel⟩, by decide⟩
theorem scX4_153 : br_sc RX4 153 mX4_inLowestTerms 3 := ⟨⟨Or.inl (br_W0_in (i := 358) (by decide +kernel) (by decide +kernel)), mwX4_inLowestTerms.1.1, mwX4_inLowestTerms.1.2⟩, mwX4_inLowestTerms.2⟩
theorem mwX4_commonDivisor : (Cond.initialized mX4_commonDivisor.1.cls ∈ br_W0 ∧ Cond.code mX4_commonDivisor.1 mX4_commonDivisor.2.1 mX4_commonDivisor.2.2.1 mX4_commonDivisor.2.2.2 ∈ br_W0) ∧ Cond.static mX4_commonDivisor.1 ∈ br_W0 ∧ (mX4_commonDivisor.1.cls ≠ "java/lang/invoke/MethodHandle" ∧ mX4_commonDivisor.1.cls ≠ "java/lang/invoke/VarHandle" ∧ (parseMethodDescriptor mX4_commonDivisor.1.desc).map (fun d => d.parameters.length) = some 2) ∧ mX4_commonDivisor.2.2.1 ≤ 10 := ⟨⟨(br_W0_in (i := 38) (by decide +kernel) (by decide +kernel)), (br_W0_in (i := 363) (by decide +kernel) (by decide +kernel))⟩, (br_W0_in (i := 362) (by decide +kernel) (by decide +kernel)), ⟨by decide +kernel, by decide +kernel, by decide +kernel⟩, by decide⟩
theorem scX4_225 : br_sc RX4 225 mX4_commonDivisor 2 := ⟨⟨Or.inl (br_W0_in (i := 361) (by decide +kernel) (by decide +kernel)), mwX4_commonDivisor.1.1, mwX4_commonDivisor.1.2⟩, mwX4_commonDivisor.2⟩
theorem mwX4_odds : (Cond.initialized mX4_odds.1.cls ∈ br_W0 ∧ Cond.code mX4_odds.1 mX4_odds.2.1 mX4_odds.2.2.1 mX4_odds.2.2.2 ∈ br_W0) ∧ (Cond.instanceMethod mX4_odds.1 ∈ br_W0 ∧ Cond.selects mX4_odds.1.cls mX4_odds.1 mX4_odds.1 ∈ br_W0) ∧ (mX4_odds.1.cls ≠ "java/lang/invoke/MethodHandle" ∧ mX4_odds.1.cls ≠ "java/lang/invoke/VarHandle" ∧ (parseMethodDescriptor mX4_odds.1.desc).map (fun d => d.parameters.length) = some 2) ∧ mX4_odds.2.2.1 ≤ 10 := ⟨⟨(br_W0_in (i := 38) (by decide +kernel) (by decide +kernel)), (br_W0_in (i := 367) (by decide +kernel) (by decide +kernel))⟩, ⟨(br_W0_in (i := 365) (by decide +kernel) (by decide +kernel)), (br_W0_in (i := 366) (by decide +kernel) (by decide +kernel))⟩, ⟨by decide +kernel, by decide +kernel, by decide +kernel⟩, by decide⟩
theorem vcL_64 : br_vc RL 64 mX4_odds 2 := ⟨⟨(br_W0_in (i := 364) (by decide +kernel) (by decide +kernel)), mwX4_odds.1.1, mwX4_odds.1.2⟩, mwX4_odds.2⟩
theorem mwX4_isScore : (Cond.initialized mX4_isScore.1.cls ∈ br_W0 ∧ Cond.code mX4_isScore.1 mX4_isScore.2.1 mX4_isScore.2.2.1 mX4_isScore.2.2.2 ∈ br_W0) ∧ Cond.static mX4_isScore.1 ∈ br_W0 ∧ (mX4_isScore.1.cls ≠ "java/lang/invoke/MethodHandle" ∧ mX4_isScore.1.cls ≠ "java/lang/invoke/VarHandle" ∧ (parseMethodDescriptor mX4_isScore.1.desc).map (fun d => d.parameters.length) = some 1) ∧ mX4_isScore.2.2.1 ≤ 10 := ⟨⟨(br_W0_in (i := 38) (by decide +kernel) (by decide +kernel)), (br_W0_in (i := 370) (by decide +kernel) (by decide +kernel))⟩, (br_W0_in (i := 369) (by decide +kernel) (by decide +kernel)), ⟨by decide +kernel, by decide +kernel, by decide +kernel⟩, by decide⟩
theorem scX4_157 : br_sc RX4 157 mX4_isScore 1 := ⟨⟨Or.inl (br_W0_in (i := 368) (by decide +kernel) (by decide +kernel)), mwX4_isScore.1.1, mwX4_isScore.1.2⟩, mwX4_isScore.2⟩
theorem mwX2_partsWith : (Cond.initialized mX2_partsWith.1.cls ∈ br_W0 ∧ Cond.code mX2_partsWith.1 mX2_partsWith.2.1 mX2_partsWith.2.2.1 mX2_partsWith.2.2.2 ∈ br_W0) ∧ (Cond.instanceMethod mX2_partsWith.1 ∈ br_W0 ∧ Cond.selects mX2_partsWith.1.cls mX2_partsWith.1 mX2_partsWith.1 ∈ br_W0) ∧ (mX2_partsWith.1.cls ≠ "java/lang/invoke/MethodHandle" ∧ mX2_partsWith.1.cls ≠ "java/lang/invoke/VarHandle" ∧ (parseMethodDescriptor mX2_partsWith.1.desc).map (fun d => d.parameters.length) = some 1) ∧ mX2_partsWith.2.2.1 ≤ 10 := ⟨⟨(br_W0_in (i := 41) (by decide +kernel) (by decide +kernel)), (br_W0_in (i := 374) (by decide +kernel) (by decide +kernel))⟩, ⟨(br_W0_in (i := 372) (by decide +kernel) (by decide +kernel)), (br_W0_in (i := 373) (by decide +kernel) (by decide +kernel))⟩, ⟨by decide +kernel, by decide +kernel, by decide +kernel⟩, by decide⟩
theorem vcX4_160 : br_vc RX4 160 mX2_partsWith 1 := ⟨⟨(br_W0_in (i := 371) (by decide +kernel) (by decide +kernel)), mwX2_partsWith.1.1, mwX2_partsWith.1.2⟩, mwX2_partsWith.2⟩
theorem mwX2_partsOf : (Cond.initialized mX2_partsOf.1.cls ∈ br_W0 ∧ Cond.code mX2_partsOf.1 mX2_partsOf.2.1 mX2_partsOf.2.2.1 mX2_partsOf.2.2.2 ∈ br_W0) ∧ (Cond.instanceMethod mX2_partsOf.1 ∈ br_W0 ∧ Cond.selects mX2_partsOf.1.cls mX2_partsOf.1 mX2_partsOf.1 ∈ br_W0) ∧ (mX2_partsOf.1.cls ≠ "java/lang/invoke/MethodHandle" ∧ mX2_partsOf.1.cls ≠ "java/lang/invoke/VarHandle" ∧ (parseMethodDescriptor mX2_partsOf.1.desc).map (fun d => d.parameters.length) = some 1) ∧ mX2_partsOf.2.2.1 ≤ 10 := ⟨⟨(br_W0_in (i := 41) (by decide +kernel) (by decide +kernel)), (br_W0_in (i := 378) (by decide +kernel) (by decide +kernel))⟩, ⟨(br_W0_in (i := 377) (by decide +kernel) (by decide +kernel)), (br_W0_in (i := 5) (by decide +kernel) (by decide +kernel))⟩, ⟨by decide +kernel, by decide +kernel, by decide +kernel⟩, by decide⟩
theorem vcX2_69 : br_vc RX2 69 mX2_partsOf 1 := ⟨⟨(br_W0_in (i := 375) (by decide +kernel) (by decide +kernel)), mwX2_partsOf.1.1, mwX2_partsOf.1.2⟩, mwX2_partsOf.2⟩
theorem mwX2_allParts : (Cond.initialized mX2_allParts.1.cls ∈ br_W0 ∧ Cond.code mX2_allParts.1 mX2_allParts.2.1 mX2_allParts.2.2.1 mX2_allParts.2.2.2 ∈ br_W0) ∧ (Cond.instanceMethod mX2_allParts.1 ∈ br_W0 ∧ Cond.selects mX2_allParts.1.cls mX2_allParts.1 mX2_allParts.1 ∈ br_W0) ∧ (mX2_allParts.1.cls ≠ "java/lang/invoke/MethodHandle" ∧ mX2_allParts.1.cls ≠ "java/lang/invoke/VarHandle" ∧ (parseMethodDescriptor mX2_allParts.1.desc).map (fun d => d.parameters.length) = some 0) ∧ mX2_allParts.2.2.1 ≤ 10 := ⟨⟨(br_W0_in (i := 41) (by decide +kernel) (by decide +kernel)), (br_W0_in (i := 382) (by decide +kernel) (by decide +kernel))⟩, ⟨(br_W0_in (i := 380) (by decide +kernel) (by decide +kernel)), (br_W0_in (i := 381) (by decide +kernel) (by decide +kernel))⟩, ⟨by decide +kernel, by decide +kernel, by decide +kernel⟩, by decide⟩
theorem vcX4_163 : br_vc RX4 163 mX2_allParts 0 := ⟨⟨(br_W0_in (i := 379) (by decide +kernel) (by decide +kernel)), mwX2_allParts.1.1, mwX2_allParts.1.2⟩, mwX2_allParts.2⟩
theorem mwX4_best : (Cond.initialized mX4_best.1.cls ∈ br_W0 ∧ Cond.code mX4_best.1 mX4_best.2.1 mX4_best.2.2.1 mX4_best.2.2.2 ∈ br_W0) ∧ (Cond.instanceMethod mX4_best.1 ∈ br_W0 ∧ Cond.selects mX4_best.1.cls mX4_best.1 mX4_best.1 ∈ br_W0) ∧ (mX4_best.1.cls ≠ "java/lang/invoke/MethodHandle" ∧ mX4_best.1.cls ≠ "java/lang/invoke/VarHandle" ∧ (parseMethodDescriptor mX4_best.1.desc).map (fun d => d.parameters.length) = some 2) ∧ mX4_best.2.2.1 ≤ 10 := ⟨⟨(br_W0_in (i := 38) (by decide +kernel) (by decide +kernel)), (br_W0_in (i := 386) (by decide +kernel) (by decide +kernel))⟩, ⟨(br_W0_in (i := 384) (by decide +kernel) (by decide +kernel)), (br_W0_in (i := 385) (by decide +kernel) (by decide +kernel))⟩, ⟨by decide +kernel, by decide +kernel, by decide +kernel⟩, by decide⟩
theorem vcL_68 : br_vc RL 68 mX4_best 2 := ⟨⟨(br_W0_in (i := 383) (by decide +kernel) (by decide +kernel)), mwX4_best.1.1, mwX4_best.1.2⟩, mwX4_best.2⟩
theorem mwX4_findFinest : (Cond.initialized mX4_findFinest.1.cls ∈ br_W0 ∧ Cond.code mX4_findFinest.1 mX4_findFinest.2.1 mX4_findFinest.2.2.1 mX4_findFinest.2.2.2 ∈ br_W0) ∧ (Cond.instanceMethod mX4_findFinest.1 ∈ br_W0 ∧ Cond.selects mX4_findFinest.1.cls mX4_findFinest.1 mX4_findFinest.1 ∈ br_W0) ∧ (mX4_findFinest.1.cls ≠ "java/lang/invoke/MethodHandle" ∧ mX4_findFinest.1.cls ≠ "java/lang/invoke/VarHandle" ∧ (parseMethodDescriptor mX4_findFinest.1.desc).map (fun d => d.parameters.length) = some 1) ∧ mX4_findFinest.2.2.1 ≤ 10 := ⟨⟨(br_W0_in (i := 38) (by decide +kernel) (by decide +kernel)), (br_W0_in (i := 390) (by decide +kernel) (by decide +kernel))⟩, ⟨(br_W0_in (i := 389) (by decide +kernel) (by decide +kernel)), (br_W0_in (i := 6) (by decide +kernel) (by decide +kernel))⟩, ⟨by decide +kernel, by decide +kernel, by decide +kernel⟩, by decide⟩
theorem vcX4_166 : br_vc RX4 166 mX4_findFinest 1 := ⟨⟨(br_W0_in (i := 387) (by decide +kernel) (by decide +kernel)), mwX4_findFinest.1.1, mwX4_findFinest.1.2⟩, mwX4_findFinest.2⟩
theorem mwX4_picksOf : (Cond.initialized mX4_picksOf.1.cls ∈ br_W0 ∧ Cond.code mX4_picksOf.1 mX4_picksOf.2.1 mX4_picksOf.2.2.1 mX4_picksOf.2.2.2 ∈ br_W0) ∧ (Cond.instanceMethod mX4_picksOf.1 ∈ br_W0 ∧ Cond.selects mX4_picksOf.1.cls mX4_picksOf.1 mX4_picksOf.1 ∈ br_W0) ∧ (mX4_picksOf.1.cls ≠ "java/lang/invoke/MethodHandle" ∧ mX4_picksOf.1.cls ≠ "java/lang/invoke/VarHandle" ∧ (parseMethodDescriptor mX4_picksOf.1.desc).map (fun d => d.parameters.length) = some 1) ∧ mX4_picksOf.2.2.1 ≤ 10 := ⟨⟨(br_W0_in (i := 38) (by decide +kernel) (by decide +kernel)), (br_W0_in (i := 394) (by decide +kernel) (by decide +kernel))⟩, ⟨(br_W0_in (i := 393) (by decide +kernel) (by decide +kernel)), (br_W0_in (i := 7) (by decide +kernel) (by decide +kernel))⟩, ⟨by decide +kernel, by decide +kernel, by decide +kernel⟩, by decide⟩
theorem vcX4_228 : br_vc RX4 228 mX4_picksOf 1 := ⟨⟨(br_W0_in (i := 391) (by decide +kernel) (by decide +kernel)), mwX4_picksOf.1.1, mwX4_picksOf.1.2⟩, mwX4_picksOf.2⟩
theorem mwX4_pickByNumber : (Cond.initialized mX4_pickByNumber.1.cls ∈ br_W0 ∧ Cond.code mX4_pickByNumber.1 mX4_pickByNumber.2.1 mX4_pickByNumber.2.2.1 mX4_pickByNumber.2.2.2 ∈ br_W0) ∧ (Cond.instanceMethod mX4_pickByNumber.1 ∈ br_W0 ∧ Cond.selects mX4_pickByNumber.1.cls mX4_pickByNumber.1 mX4_pickByNumber.1 ∈ br_W0) ∧ (mX4_pickByNumber.1.cls ≠ "java/lang/invoke/MethodHandle" ∧ mX4_pickByNumber.1.cls ≠ "java/lang/invoke/VarHandle" ∧ (parseMethodDescriptor mX4_pickByNumber.1.desc).map (fun d => d.parameters.length) = some 2) ∧ mX4_pickByNumber.2.2.1 ≤ 10 := ⟨⟨(br_W0_in (i := 38) (by decide +kernel) (by decide +kernel)), (br_W0_in (i := 398) (by decide +kernel) (by decide +kernel))⟩, ⟨(br_W0_in (i := 397) (by decide +kernel) (by decide +kernel)), (br_W0_in (i := 8) (by decide +kernel) (by decide +kernel))⟩, ⟨by decide +kernel, by decide +kernel, by decide +kernel⟩, by decide⟩
theorem vcX4_231 : br_vc RX4 231 mX4_pickByNumber 2 := ⟨⟨(br_W0_in (i := 395) (by decide +kernel) (by decide +kernel)), mwX4_pickByNumber.1.1, mwX4_pickByNumber.1.2⟩, mwX4_pickByNumber.2⟩
theorem mwX2_copyFrom : (Cond.initialized mX2_copyFrom.1.cls ∈ br_W0 ∧ Cond.code mX2_copyFrom.1 mX2_copyFrom.2.1 mX2_copyFrom.2.2.1 mX2_copyFrom.2.2.2 ∈ br_W0) ∧ (Cond.instanceMethod mX2_copyFrom.1 ∈ br_W0 ∧ Cond.selects mX2_copyFrom.1.cls mX2_copyFrom.1 mX2_copyFrom.1 ∈ br_W0) ∧ (mX2_copyFrom.1.cls ≠ "java/lang/invoke/MethodHandle" ∧ mX2_copyFrom.1.cls ≠ "java/lang/invoke/VarHandle" ∧ (parseMethodDescriptor mX2_copyFrom.1.desc).map (fun d => d.parameters.length) = some 1) ∧ mX2_copyFrom.2.2.1 ≤ 10 := ⟨⟨(br_W0_in (i := 41) (by decide +kernel) (by decide +kernel)), (br_W0_in (i := 402) (by decide +kernel) (by decide +kernel))⟩, ⟨(br_W0_in (i := 400) (by decide +kernel) (by decide +kernel)), (br_W0_in (i := 401) (by decide +kernel) (by decide +kernel))⟩, ⟨by decide +kernel, by decide +kernel, by decide +kernel⟩, by decide⟩
theorem vcX4_169 : br_vc RX4 169 mX2_copyFrom 1 := ⟨⟨(br_W0_in (i := 399) (by decide +kernel) (by decide +kernel)), mwX2_copyFrom.1.1, mwX2_copyFrom.1.2⟩, mwX2_copyFrom.2⟩
theorem mwX4_more : (Cond.initialized mX4_more.1.cls ∈ br_W0 ∧ Cond.code mX4_more.1 mX4_more.2.1 mX4_more.2.2.1 mX4_more.2.2.2 ∈ br_W0) ∧ (Cond.instanceMethod mX4_more.1 ∈ br_W0 ∧ Cond.selects mX4_more.1.cls mX4_more.1 mX4_more.1 ∈ br_W0) ∧ (mX4_more.1.cls ≠ "java/lang/invoke/MethodHandle" ∧ mX4_more.1.cls ≠ "java/lang/invoke/VarHandle" ∧ (parseMethodDescriptor mX4_more.1.desc).map (fun d => d.parameters.length) = some 1) ∧ mX4_more.2.2.1 ≤ 10 := ⟨⟨(br_W0_in (i := 38) (by decide +kernel) (by decide +kernel)), (br_W0_in (i := 406) (by decide +kernel) (by decide +kernel))⟩, ⟨(br_W0_in (i := 404) (by decide +kernel) (by decide +kernel)), (br_W0_in (i := 405) (by decide +kernel) (by decide +kernel))⟩, ⟨by decide +kernel, by decide +kernel, by decide +kernel⟩, by decide⟩
theorem vcL_72 : br_vc RL 72 mX4_more 1 := ⟨⟨(br_W0_in (i := 403) (by decide +kernel) (by decide +kernel)), mwX4_more.1.1, mwX4_more.1.2⟩, mwX4_more.2⟩
theorem mwX4_tryIt : (Cond.initialized mX4_tryIt.1.cls ∈ br_W0 ∧ Cond.code mX4_tryIt.1 mX4_tryIt.2.1 mX4_tryIt.2.2.1 mX4_tryIt.2.2.2 ∈ br_W0) ∧ (Cond.instanceMethod mX4_tryIt.1 ∈ br_W0 ∧ Cond.selects mX4_tryIt.1.cls mX4_tryIt.1 mX4_tryIt.1 ∈ br_W0) ∧ (mX4_tryIt.1.cls ≠ "java/lang/invoke/MethodHandle" ∧ mX4_tryIt.1.cls ≠ "java/lang/invoke/VarHandle" ∧ (parseMethodDescriptor mX4_tryIt.1.desc).map (fun d => d.parameters.length) = some 3) ∧ mX4_tryIt.2.2.1 ≤ 10 := ⟨⟨(br_W0_in (i := 38) (by decide +kernel) (by decide +kernel)), (br_W0_in (i := 410) (by decide +kernel) (by decide +kernel))⟩, ⟨(br_W0_in (i := 408) (by decide +kernel) (by decide +kernel)), (br_W0_in (i := 409) (by decide +kernel) (by decide +kernel))⟩, ⟨by decide +kernel, by decide +kernel, by decide +kernel⟩, by decide⟩
theorem vcL_76 : br_vc RL 76 mX4_tryIt 3 := ⟨⟨(br_W0_in (i := 407) (by decide +kernel) (by decide +kernel)), mwX4_tryIt.1.1, mwX4_tryIt.1.2⟩, mwX4_tryIt.2⟩
theorem mwX3_add : (Cond.initialized mX3_add.1.cls ∈ br_W0 ∧ Cond.code mX3_add.1 mX3_add.2.1 mX3_add.2.2.1 mX3_add.2.2.2 ∈ br_W0) ∧ (Cond.instanceMethod mX3_add.1 ∈ br_W0 ∧ Cond.selects mX3_add.1.cls mX3_add.1 mX3_add.1 ∈ br_W0) ∧ (mX3_add.1.cls ≠ "java/lang/invoke/MethodHandle" ∧ mX3_add.1.cls ≠ "java/lang/invoke/VarHandle" ∧ (parseMethodDescriptor mX3_add.1.desc).map (fun d => d.parameters.length) = some 3) ∧ mX3_add.2.2.1 ≤ 10 := ⟨⟨(br_W0_in (i := 42) (by decide +kernel) (by decide +kernel)), (br_W0_in (i := 414) (by decide +kernel) (by decide +kernel))⟩, ⟨(br_W0_in (i := 412) (by decide +kernel) (by decide +kernel)), (br_W0_in (i := 413) (by decide +kernel) (by decide +kernel))⟩, ⟨by decide +kernel, by decide +kernel, by decide +kernel⟩, by decide⟩
theorem vcX4_173 : br_vc RX4 173 mX3_add 3 := ⟨⟨(br_W0_in (i := 411) (by decide +kernel) (by decide +kernel)), mwX3_add.1.1, mwX3_add.1.2⟩, mwX3_add.2⟩
theorem mwX4_forget : (Cond.initialized mX4_forget.1.cls ∈ br_W0 ∧ Cond.code mX4_forget.1 mX4_forget.2.1 mX4_forget.2.2.1 mX4_forget.2.2.2 ∈ br_W0) ∧ (Cond.instanceMethod mX4_forget.1 ∈ br_W0 ∧ Cond.selects mX4_forget.1.cls mX4_forget.1 mX4_forget.1 ∈ br_W0) ∧ (mX4_forget.1.cls ≠ "java/lang/invoke/MethodHandle" ∧ mX4_forget.1.cls ≠ "java/lang/invoke/VarHandle" ∧ (parseMethodDescriptor mX4_forget.1.desc).map (fun d => d.parameters.length) = some 0) ∧ mX4_forget.2.2.1 ≤ 10 := ⟨⟨(br_W0_in (i := 38) (by decide +kernel) (by decide +kernel)), (br_W0_in (i := 418) (by decide +kernel) (by decide +kernel))⟩, ⟨(br_W0_in (i := 416) (by decide +kernel) (by decide +kernel)), (br_W0_in (i := 417) (by decide +kernel) (by decide +kernel))⟩, ⟨by decide +kernel, by decide +kernel, by decide +kernel⟩, by decide⟩
theorem vcL_81 : br_vc RL 81 mX4_forget 0 := ⟨⟨(br_W0_in (i := 415) (by decide +kernel) (by decide +kernel)), mwX4_forget.1.1, mwX4_forget.1.2⟩, mwX4_forget.2⟩
theorem mwX4_meets : (Cond.initialized mX4_meets.1.cls ∈ br_W0 ∧ Cond.code mX4_meets.1 mX4_meets.2.1 mX4_meets.2.2.1 mX4_meets.2.2.2 ∈ br_W0) ∧ (Cond.instanceMethod mX4_meets.1 ∈ br_W0 ∧ Cond.selects mX4_meets.1.cls mX4_meets.1 mX4_meets.1 ∈ br_W0) ∧ (mX4_meets.1.cls ≠ "java/lang/invoke/MethodHandle" ∧ mX4_meets.1.cls ≠ "java/lang/invoke/VarHandle" ∧ (parseMethodDescriptor mX4_meets.1.desc).map (fun d => d.parameters.length) = some 3) ∧ mX4_meets.2.2.1 ≤ 10 := ⟨⟨(br_W0_in (i := 38) (by decide +kernel) (by decide +kernel)), (br_W0_in (i := 422) (by decide +kernel) (by decide +kernel))⟩, ⟨(br_W0_in (i := 420) (by decide +kernel) (by decide +kernel)), (br_W0_in (i := 421) (by decide +kernel) (by decide +kernel))⟩, ⟨by decide +kernel, by decide +kernel, by decide +kernel⟩, by decide⟩
theorem vcL_85 : br_vc RL 85 mX4_meets 3 := ⟨⟨(br_W0_in (i := 419) (by decide +kernel) (by decide +kernel)), mwX4_meets.1.1, mwX4_meets.1.2⟩, mwX4_meets.2⟩
theorem mwX4_nextSeed : (Cond.initialized mX4_nextSeed.1.cls ∈ br_W0 ∧ Cond.code mX4_nextSeed.1 mX4_nextSeed.2.1 mX4_nextSeed.2.2.1 mX4_nextSeed.2.2.2 ∈ br_W0) ∧ Cond.static mX4_nextSeed.1 ∈ br_W0 ∧ (mX4_nextSeed.1.cls ≠ "java/lang/invoke/MethodHandle" ∧ mX4_nextSeed.1.cls ≠ "java/lang/invoke/VarHandle" ∧ (parseMethodDescriptor mX4_nextSeed.1.desc).map (fun d => d.parameters.length) = some 1) ∧ mX4_nextSeed.2.2.1 ≤ 10 := ⟨⟨(br_W0_in (i := 38) (by decide +kernel) (by decide +kernel)), (br_W0_in (i := 425) (by decide +kernel) (by decide +kernel))⟩, (br_W0_in (i := 424) (by decide +kernel) (by decide +kernel)), ⟨by decide +kernel, by decide +kernel, by decide +kernel⟩, by decide⟩
theorem scX4_176 : br_sc RX4 176 mX4_nextSeed 1 := ⟨⟨Or.inl (br_W0_in (i := 423) (by decide +kernel) (by decide +kernel)), mwX4_nextSeed.1.1, mwX4_nextSeed.1.2⟩, mwX4_nextSeed.2⟩
theorem mwX4_drawOfTen : (Cond.initialized mX4_drawOfTen.1.cls ∈ br_W0 ∧ Cond.code mX4_drawOfTen.1 mX4_drawOfTen.2.1 mX4_drawOfTen.2.2.1 mX4_drawOfTen.2.2.2 ∈ br_W0) ∧ Cond.static mX4_drawOfTen.1 ∈ br_W0 ∧ (mX4_drawOfTen.1.cls ≠ "java/lang/invoke/MethodHandle" ∧ mX4_drawOfTen.1.cls ≠ "java/lang/invoke/VarHandle" ∧ (parseMethodDescriptor mX4_drawOfTen.1.desc).map (fun d => d.parameters.length) = some 1) ∧ mX4_drawOfTen.2.2.1 ≤ 10 := ⟨⟨(br_W0_in (i := 38) (by decide +kernel) (by decide +kernel)), (br_W0_in (i := 431) (by decide +kernel) (by decide +kernel))⟩, (br_W0_in (i := 430) (by decide +kernel) (by decide +kernel)), ⟨by decide +kernel, by decide +kernel, by decide +kernel⟩, by decide⟩
theorem scX4_179 : br_sc RX4 179 mX4_drawOfTen 1 := ⟨⟨Or.inl (br_W0_in (i := 429) (by decide +kernel) (by decide +kernel)), mwX4_drawOfTen.1.1, mwX4_drawOfTen.1.2⟩, mwX4_drawOfTen.2⟩
theorem mwX4_image : (Cond.initialized mX4_image.1.cls ∈ br_W0 ∧ Cond.code mX4_image.1 mX4_image.2.1 mX4_image.2.2.1 mX4_image.2.2.2 ∈ br_W0) ∧ (Cond.instanceMethod mX4_image.1 ∈ br_W0 ∧ Cond.selects mX4_image.1.cls mX4_image.1 mX4_image.1 ∈ br_W0) ∧ (mX4_image.1.cls ≠ "java/lang/invoke/MethodHandle" ∧ mX4_image.1.cls ≠ "java/lang/invoke/VarHandle" ∧ (parseMethodDescriptor mX4_image.1.desc).map (fun d => d.parameters.length) = some 0) ∧ mX4_image.2.2.1 ≤ 10 := ⟨⟨(br_W0_in (i := 38) (by decide +kernel) (by decide +kernel)), (br_W0_in (i := 436) (by decide +kernel) (by decide +kernel))⟩, ⟨(br_W0_in (i := 434) (by decide +kernel) (by decide +kernel)), (br_W0_in (i := 435) (by decide +kernel) (by decide +kernel))⟩, ⟨by decide +kernel, by decide +kernel, by decide +kernel⟩, by decide⟩
theorem vcL_90 : br_vc RL 90 mX4_image 0 := ⟨⟨(br_W0_in (i := 433) (by decide +kernel) (by decide +kernel)), mwX4_image.1.1, mwX4_image.1.2⟩, mwX4_image.2⟩
theorem mwX3_copyFrom : (Cond.initialized mX3_copyFrom.1.cls ∈ br_W0 ∧ Cond.code mX3_copyFrom.1 mX3_copyFrom.2.1 mX3_copyFrom.2.2.1 mX3_copyFrom.2.2.2 ∈ br_W0) ∧ (Cond.instanceMethod mX3_copyFrom.1 ∈ br_W0 ∧ Cond.selects mX3_copyFrom.1.cls mX3_copyFrom.1 mX3_copyFrom.1 ∈ br_W0) ∧ (mX3_copyFrom.1.cls ≠ "java/lang/invoke/MethodHandle" ∧ mX3_copyFrom.1.cls ≠ "java/lang/invoke/VarHandle" ∧ (parseMethodDescriptor mX3_copyFrom.1.desc).map (fun d => d.parameters.length) = some 1) ∧ mX3_copyFrom.2.2.1 ≤ 10 := ⟨⟨(br_W0_in (i := 42) (by decide +kernel) (by decide +kernel)), (br_W0_in (i := 440) (by decide +kernel) (by decide +kernel))⟩, ⟨(br_W0_in (i := 438) (by decide +kernel) (by decide +kernel)), (br_W0_in (i := 439) (by decide +kernel) (by decide +kernel))⟩, ⟨by decide +kernel, by decide +kernel, by decide +kernel⟩, by decide⟩
theorem vcX4_182 : br_vc RX4 182 mX3_copyFrom 1 := ⟨⟨(br_W0_in (i := 437) (by decide +kernel) (by decide +kernel)), mwX3_copyFrom.1.1, mwX3_copyFrom.1.2⟩, mwX3_copyFrom.2⟩
theorem mwX4_restore : (Cond.initialized mX4_restore.1.cls ∈ br_W0 ∧ Cond.code mX4_restore.1 mX4_restore.2.1 mX4_restore.2.2.1 mX4_restore.2.2.2 ∈ br_W0) ∧ (Cond.instanceMethod mX4_restore.1 ∈ br_W0 ∧ Cond.selects mX4_restore.1.cls mX4_restore.1 mX4_restore.1 ∈ br_W0) ∧ (mX4_restore.1.cls ≠ "java/lang/invoke/MethodHandle" ∧ mX4_restore.1.cls ≠ "java/lang/invoke/VarHandle" ∧ (parseMethodDescriptor mX4_restore.1.desc).map (fun d => d.parameters.length) = some 0) ∧ mX4_restore.2.2.1 ≤ 10 := ⟨⟨(br_W0_in (i := 38) (by decide +kernel) (by decide +kernel)), (br_W0_in (i := 444) (by decide +kernel) (by decide +kernel))⟩, ⟨(br_W0_in (i := 442) (by decide +kernel) (by decide +kernel)), (br_W0_in (i := 443) (by decide +kernel) (by decide +kernel))⟩, ⟨by decide +kernel, by decide +kernel, by decide +kernel⟩, by decide⟩
theorem vcL_94 : br_vc RL 94 mX4_restore 0 := ⟨⟨(br_W0_in (i := 441) (by decide +kernel) (by decide +kernel)), mwX4_restore.1.1, mwX4_restore.1.2⟩, mwX4_restore.2⟩
theorem mwX4_count : (Cond.initialized mX4_count.1.cls ∈ br_W0 ∧ Cond.code mX4_count.1 mX4_count.2.1 mX4_count.2.2.1 mX4_count.2.2.2 ∈ br_W0) ∧ (Cond.instanceMethod mX4_count.1 ∈ br_W0 ∧ Cond.selects mX4_count.1.cls mX4_count.1 mX4_count.1 ∈ br_W0) ∧ (mX4_count.1.cls ≠ "java/lang/invoke/MethodHandle" ∧ mX4_count.1.cls ≠ "java/lang/invoke/VarHandle" ∧ (parseMethodDescriptor mX4_count.1.desc).map (fun d => d.parameters.length) = some 1) ∧ mX4_count.2.2.1 ≤ 10 := ⟨⟨(br_W0_in (i := 38) (by decide +kernel) (by decide +kernel)), (br_W0_in (i := 448) (by decide +kernel) (by decide +kernel))⟩, ⟨(br_W0_in (i := 446) (by decide +kernel) (by decide +kernel)), (br_W0_in (i := 447) (by decide +kernel) (by decide +kernel))⟩, ⟨by decide +kernel, by decide +kernel, by decide +kernel⟩, by decide⟩
theorem vcL_98 : br_vc RL 98 mX4_count 1 := ⟨⟨(br_W0_in (i := 445) (by decide +kernel) (by decide +kernel)), mwX4_count.1.1, mwX4_count.1.2⟩, mwX4_count.2⟩
theorem vcX4_185 : br_vc RX4 185 mX2_howMany 1 := ⟨⟨(br_W0_in (i := 449) (by decide +kernel) (by decide +kernel)), mwX2_howMany.1.1, mwX2_howMany.1.2⟩, mwX2_howMany.2⟩
theorem mwX2_joins : (Cond.initialized mX2_joins.1.cls ∈ br_W0 ∧ Cond.code mX2_joins.1 mX2_joins.2.1 mX2_joins.2.2.1 mX2_joins.2.2.2 ∈ br_W0) ∧ (Cond.instanceMethod mX2_joins.1 ∈ br_W0 ∧ Cond.selects mX2_joins.1.cls mX2_joins.1 mX2_joins.1 ∈ br_W0) ∧ (mX2_joins.1.cls ≠ "java/lang/invoke/MethodHandle" ∧ mX2_joins.1.cls ≠ "java/lang/invoke/VarHandle" ∧ (parseMethodDescriptor mX2_joins.1.desc).map (fun d => d.parameters.length) = some 0) ∧ mX2_joins.2.2.1 ≤ 10 := ⟨⟨(br_W0_in (i := 41) (by decide +kernel) (by decide +kernel)), (br_W0_in (i := 453) (by decide +kernel) (by decide +kernel))⟩, ⟨(br_W0_in (i := 451) (by decide +kernel) (by decide +kernel)), (br_W0_in (i := 452) (by decide +kernel) (by decide +kernel))⟩, ⟨by decide +kernel, by decide +kernel, by decide +kernel⟩, by decide⟩
theorem vcX4_188 : br_vc RX4 188 mX2_joins 0 := ⟨⟨(br_W0_in (i := 450) (by decide +kernel) (by decide +kernel)), mwX2_joins.1.1, mwX2_joins.1.2⟩, mwX2_joins.2⟩
theorem mwX4_digest : (Cond.initialized mX4_digest.1.cls ∈ br_W0 ∧ Cond.code mX4_digest.1 mX4_digest.2.1 mX4_digest.2.2.1 mX4_digest.2.2.2 ∈ br_W0) ∧ (Cond.instanceMethod mX4_digest.1 ∈ br_W0 ∧ Cond.selects mX4_digest.1.cls mX4_digest.1 mX4_digest.1 ∈ br_W0) ∧ (mX4_digest.1.cls ≠ "java/lang/invoke/MethodHandle" ∧ mX4_digest.1.cls ≠ "java/lang/invoke/VarHandle" ∧ (parseMethodDescriptor mX4_digest.1.desc).map (fun d => d.parameters.length) = some 0) ∧ mX4_digest.2.2.1 ≤ 10 := ⟨⟨(br_W0_in (i := 38) (by decide +kernel) (by decide +kernel)), (br_W0_in (i := 457) (by decide +kernel) (by decide +kernel))⟩, ⟨(br_W0_in (i := 455) (by decide +kernel) (by decide +kernel)), (br_W0_in (i := 456) (by decide +kernel) (by decide +kernel))⟩, ⟨by decide +kernel, by decide +kernel, by decide +kernel⟩, by decide⟩
theorem vcL_102 : br_vc RL 102 mX4_digest 0 := ⟨⟨(br_W0_in (i := 454) (by decide +kernel) (by decide +kernel)), mwX4_digest.1.1, mwX4_digest.1.2⟩, mwX4_digest.2⟩
theorem vcX4_193 : br_vc RX4 193 mX4_piece 2 := ⟨⟨(br_W0_in (i := 459) (by decide +kernel) (by decide +kernel)), mwX4_piece.1.1, mwX4_piece.1.2⟩, mwX4_piece.2⟩
theorem mwX4_mixed : (Cond.initialized mX4_mixed.1.cls ∈ br_W0 ∧ Cond.code mX4_mixed.1 mX4_mixed.2.1 mX4_mixed.2.2.1 mX4_mixed.2.2.2 ∈ br_W0) ∧ Cond.static mX4_mixed.1 ∈ br_W0 ∧ (mX4_mixed.1.cls ≠ "java/lang/invoke/MethodHandle" ∧ mX4_mixed.1.cls ≠ "java/lang/invoke/VarHandle" ∧ (parseMethodDescriptor mX4_mixed.1.desc).map (fun d => d.parameters.length) = some 2) ∧ mX4_mixed.2.2.1 ≤ 10 := ⟨⟨(br_W0_in (i := 38) (by decide +kernel) (by decide +kernel)), (br_W0_in (i := 462) (by decide +kernel) (by decide +kernel))⟩, (br_W0_in (i := 461) (by decide +kernel) (by decide +kernel)), ⟨by decide +kernel, by decide +kernel, by decide +kernel⟩, by decide⟩
theorem scX4_197 : br_sc RX4 197 mX4_mixed 2 := ⟨⟨Or.inl (br_W0_in (i := 460) (by decide +kernel) (by decide +kernel)), mwX4_mixed.1.1, mwX4_mixed.1.2⟩, mwX4_mixed.2⟩
theorem vcX4_201 : br_vc RX4 201 mX4_score 1 := ⟨⟨(br_W0_in (i := 464) (by decide +kernel) (by decide +kernel)), mwX4_score.1.1, mwX4_score.1.2⟩, mwX4_score.2⟩
theorem vcX4_204 : br_vc RX4 204 mX4_mean 1 := ⟨⟨(br_W0_in (i := 465) (by decide +kernel) (by decide +kernel)), mwX4_mean.1.1, mwX4_mean.1.2⟩, mwX4_mean.2⟩
theorem vcX4_207 : br_vc RX4 207 mX4_odds 2 := ⟨⟨(br_W0_in (i := 466) (by decide +kernel) (by decide +kernel)), mwX4_odds.1.1, mwX4_odds.1.2⟩, mwX4_odds.2⟩
theorem vcX4_210 : br_vc RX4 210 mX1_codeAt 1 := ⟨⟨(br_W0_in (i := 467) (by decide +kernel) (by decide +kernel)), mwX1_codeAt.1.1, mwX1_codeAt.1.2⟩, mwX1_codeAt.2⟩
theorem vcX4_213 : br_vc RX4 213 mX4_count 1 := ⟨⟨(br_W0_in (i := 468) (by decide +kernel) (by decide +kernel)), mwX4_count.1.1, mwX4_count.1.2⟩, mwX4_count.2⟩
theorem mwX5_letter : (Cond.initialized mX5_letter.1.cls ∈ br_W0 ∧ Cond.code mX5_letter.1 mX5_letter.2.1 mX5_letter.2.2.1 mX5_letter.2.2.2 ∈ br_W0) ∧ (Cond.instanceMethod mX5_letter.1 ∈ br_W0 ∧ Cond.selects mX5_letter.1.cls mX5_letter.1 mX5_letter.1 ∈ br_W0) ∧ (mX5_letter.1.cls ≠ "java/lang/invoke/MethodHandle" ∧ mX5_letter.1.cls ≠ "java/lang/invoke/VarHandle" ∧ (parseMethodDescriptor mX5_letter.1.desc).map (fun d => d.parameters.length) = some 1) ∧ mX5_letter.2.2.1 ≤ 10 := ⟨⟨(br_W0_in (i := 43) (by decide +kernel) (by decide +kernel)), (br_W0_in (i := 542) (by decide +kernel) (by decide +kernel))⟩, ⟨(br_W0_in (i := 540) (by decide +kernel) (by decide +kernel)), (br_W0_in (i := 541) (by decide +kernel) (by decide +kernel))⟩, ⟨by decide +kernel, by decide +kernel, by decide +kernel⟩, by decide⟩
theorem vcL_17 : br_vc RL 17 mX5_letter 1 := ⟨⟨(br_W0_in (i := 539) (by decide +kernel) (by decide +kernel)), mwX5_letter.1.1, mwX5_letter.1.2⟩, mwX5_letter.2⟩
theorem mwX5_in : (Cond.initialized mX5_in.1.cls ∈ br_W0 ∧ Cond.code mX5_in.1 mX5_in.2.1 mX5_in.2.2.1 mX5_in.2.2.2 ∈ br_W0) ∧ Cond.static mX5_in.1 ∈ br_W0 ∧ (mX5_in.1.cls ≠ "java/lang/invoke/MethodHandle" ∧ mX5_in.1.cls ≠ "java/lang/invoke/VarHandle" ∧ (parseMethodDescriptor mX5_in.1.desc).map (fun d => d.parameters.length) = some 3) ∧ mX5_in.2.2.1 ≤ 10 := ⟨⟨(br_W0_in (i := 43) (by decide +kernel) (by decide +kernel)), (br_W0_in (i := 546) (by decide +kernel) (by decide +kernel))⟩, (br_W0_in (i := 545) (by decide +kernel) (by decide +kernel)), ⟨by decide +kernel, by decide +kernel, by decide +kernel⟩, by decide⟩
theorem scX5_40 : br_sc RX5 40 mX5_in 3 := ⟨⟨Or.inl (br_W0_in (i := 544) (by decide +kernel) (by decide +kernel)), mwX5_in.1.1, mwX5_in.1.2⟩, mwX5_in.2⟩
theorem mwX5_blank : (Cond.initialized mX5_blank.1.cls ∈ br_W0 ∧ Cond.code mX5_blank.1 mX5_blank.2.1 mX5_blank.2.2.1 mX5_blank.2.2.2 ∈ br_W0) ∧ (Cond.instanceMethod mX5_blank.1 ∈ br_W0 ∧ Cond.selects mX5_blank.1.cls mX5_blank.1 mX5_blank.1 ∈ br_W0) ∧ (mX5_blank.1.cls ≠ "java/lang/invoke/MethodHandle" ∧ mX5_blank.1.cls ≠ "java/lang/invoke/VarHandle" ∧ (parseMethodDescriptor mX5_blank.1.desc).map (fun d => d.parameters.length) = some 0) ∧ mX5_blank.2.2.1 ≤ 10 := ⟨⟨(br_W0_in (i := 43) (by decide +kernel) (by decide +kernel)), (br_W0_in (i := 550) (by decide +kernel) (by decide +kernel))⟩, ⟨(br_W0_in (i := 548) (by decide +kernel) (by decide +kernel)), (br_W0_in (i := 549) (by decide +kernel) (by decide +kernel))⟩, ⟨by decide +kernel, by decide +kernel, by decide +kernel⟩, by decide⟩
theorem vcL_22 : br_vc RL 22 mX5_blank 0 := ⟨⟨(br_W0_in (i := 547) (by decide +kernel) (by decide +kernel)), mwX5_blank.1.1, mwX5_blank.1.2⟩, mwX5_blank.2⟩
theorem mwX5_fault : (Cond.initialized mX5_fault.1.cls ∈ br_W0 ∧ Cond.code mX5_fault.1 mX5_fault.2.1 mX5_fault.2.2.1 mX5_fault.2.2.2 ∈ br_W0) ∧ (Cond.instanceMethod mX5_fault.1 ∈ br_W0 ∧ Cond.selects mX5_fault.1.cls mX5_fault.1 mX5_fault.1 ∈ br_W0) ∧ (mX5_fault.1.cls ≠ "java/lang/invoke/MethodHandle" ∧ mX5_fault.1.cls ≠ "java/lang/invoke/VarHandle" ∧ (parseMethodDescriptor mX5_fault.1.desc).map (fun d => d.parameters.length) = some 0) ∧ mX5_fault.2.2.1 ≤ 10 := ⟨⟨(br_W0_in (i := 43) (by decide +kernel) (by decide +kernel)), (br_W0_in (i := 554) (by decide +kernel) (by decide +kernel))⟩, ⟨(br_W0_in (i := 552) (by decide +kernel) (by decide +kernel)), (br_W0_in (i := 553) (by decide +kernel) (by decide +kernel))⟩, ⟨by decide +kernel, by decide +kernel, by decide +kernel⟩, by decide⟩
theorem vcL_26 : br_vc RL 26 mX5_fault 0 := ⟨⟨(br_W0_in (i := 551) (by decide +kernel) (by decide +kernel)), mwX5_fault.1.1, mwX5_fault.1.2⟩, mwX5_fault.2⟩
theorem mwX5_faultOf : (Cond.initialized mX5_faultOf.1.cls ∈ br_W0 ∧ Cond.code mX5_faultOf.1 mX5_faultOf.2.1 mX5_faultOf.2.2.1 mX5_faultOf.2.2.2 ∈ br_W0) ∧ (Cond.instanceMethod mX5_faultOf.1 ∈ br_W0 ∧ Cond.selects mX5_faultOf.1.cls mX5_faultOf.1 mX5_faultOf.1 ∈ br_W0) ∧ (mX5_faultOf.1.cls ≠ "java/lang/invoke/MethodHandle" ∧ mX5_faultOf.1.cls ≠ "java/lang/invoke/VarHandle" ∧ (parseMethodDescriptor mX5_faultOf.1.desc).map (fun d => d.parameters.length) = some 0) ∧ mX5_faultOf.2.2.1 ≤ 10 := ⟨⟨(br_W0_in (i := 43) (by decide +kernel) (by decide +kernel)), (br_W0_in (i := 558) (by decide +kernel) (by decide +kernel))⟩, ⟨(br_W0_in (i := 557) (by decide +kernel) (by decide +kernel)), (br_W0_in (i := 9) (by decide +kernel) (by decide +kernel))⟩, ⟨by decide +kernel, by decide +kernel, by decide +kernel⟩, by decide⟩
theorem vcX5_59 : br_vc RX5 59 mX5_faultOf 0 := ⟨⟨(br_W0_in (i := 555) (by decide +kernel) (by decide +kernel)), mwX5_faultOf.1.1, mwX5_faultOf.1.2⟩, mwX5_faultOf.2⟩
theorem mwX5_isGood : (Cond.initialized mX5_isGood.1.cls ∈ br_W0 ∧ Cond.code mX5_isGood.1 mX5_isGood.2.1 mX5_isGood.2.2.1 mX5_isGood.2.2.2 ∈ br_W0) ∧ Cond.static mX5_isGood.1 ∈ br_W0 ∧ (mX5_isGood.1.cls ≠ "java/lang/invoke/MethodHandle" ∧ mX5_isGood.1.cls ≠ "java/lang/invoke/VarHandle" ∧ (parseMethodDescriptor mX5_isGood.1.desc).map (fun d => d.parameters.length) = some 2) ∧ mX5_isGood.2.2.1 ≤ 10 := ⟨⟨(br_W0_in (i := 43) (by decide +kernel) (by decide +kernel)), (br_W0_in (i := 561) (by decide +kernel) (by decide +kernel))⟩, (br_W0_in (i := 560) (by decide +kernel) (by decide +kernel)), ⟨by decide +kernel, by decide +kernel, by decide +kernel⟩, by decide⟩
theorem scX5_55 : br_sc RX5 55 mX5_isGood 2 := ⟨⟨Or.inl (br_W0_in (i := 559) (by decide +kernel) (by decide +kernel)), mwX5_isGood.1.1, mwX5_isGood.1.2⟩, mwX5_isGood.2⟩
theorem mwX5_kindBy : (Cond.initialized mX5_kindBy.1.cls ∈ br_W0 ∧ Cond.code mX5_kindBy.1 mX5_kindBy.2.1 mX5_kindBy.2.2.1 mX5_kindBy.2.2.2 ∈ br_W0) ∧ Cond.static mX5_kindBy.1 ∈ br_W0 ∧ (mX5_kindBy.1.cls ≠ "java/lang/invoke/MethodHandle" ∧ mX5_kindBy.1.cls ≠ "java/lang/invoke/VarHandle" ∧ (parseMethodDescriptor mX5_kindBy.1.desc).map (fun d => d.parameters.length) = some 1) ∧ mX5_kindBy.2.2.1 ≤ 10 := ⟨⟨(br_W0_in (i := 43) (by decide +kernel) (by decide +kernel)), (br_W0_in (i := 564) (by decide +kernel) (by decide +kernel))⟩, (br_W0_in (i := 563) (by decide +kernel) (by decide +kernel)), ⟨by decide +kernel, by decide +kernel, by decide +kernel⟩, by decide⟩
theorem scX5_47 : br_sc RX5 47 mX5_kindBy 1 := ⟨⟨Or.inl (br_W0_in (i := 562) (by decide +kernel) (by decide +kernel)), mwX5_kindBy.1.1, mwX5_kindBy.1.2⟩, mwX5_kindBy.2⟩
theorem mwX5_gym : (Cond.initialized mX5_gym.1.cls ∈ br_W0 ∧ Cond.code mX5_gym.1 mX5_gym.2.1 mX5_gym.2.2.1 mX5_gym.2.2.2 ∈ br_W0) ∧ (Cond.instanceMethod mX5_gym.1 ∈ br_W0 ∧ Cond.selects mX5_gym.1.cls mX5_gym.1 mX5_gym.1 ∈ br_W0) ∧ (mX5_gym.1.cls ≠ "java/lang/invoke/MethodHandle" ∧ mX5_gym.1.cls ≠ "java/lang/invoke/VarHandle" ∧ (parseMethodDescriptor mX5_gym.1.desc).map (fun d => d.parameters.length) = some 0) ∧ mX5_gym.2.2.1 ≤ 10 := ⟨⟨(br_W0_in (i := 43) (by decide +kernel) (by decide +kernel)), (br_W0_in (i := 570) (by decide +kernel) (by decide +kernel))⟩, ⟨(br_W0_in (i := 568) (by decide +kernel) (by decide +kernel)), (br_W0_in (i := 569) (by decide +kernel) (by decide +kernel))⟩, ⟨by decide +kernel, by decide +kernel, by decide +kernel⟩, by decide⟩
theorem vcL_30 : br_vc RL 30 mX5_gym 0 := ⟨⟨(br_W0_in (i := 567) (by decide +kernel) (by decide +kernel)), mwX5_gym.1.1, mwX5_gym.1.2⟩, mwX5_gym.2⟩
theorem mwX5_piece : (Cond.initialized mX5_piece.1.cls ∈ br_W0 ∧ Cond.code mX5_piece.1 mX5_piece.2.1 mX5_piece.2.2.1 mX5_piece.2.2.2 ∈ br_W0) ∧ (Cond.instanceMethod mX5_piece.1 ∈ br_W0 ∧ Cond.selects mX5_piece.1.cls mX5_piece.1 mX5_piece.1 ∈ br_W0) ∧ (mX5_piece.1.cls ≠ "java/lang/invoke/MethodHandle" ∧ mX5_piece.1.cls ≠ "java/lang/invoke/VarHandle" ∧ (parseMethodDescriptor mX5_piece.1.desc).map (fun d => d.parameters.length) = some 2) ∧ mX5_piece.2.2.1 ≤ 10 := ⟨⟨(br_W0_in (i := 43) (by decide +kernel) (by decide +kernel)), (br_W0_in (i := 574) (by decide +kernel) (by decide +kernel))⟩, ⟨(br_W0_in (i := 572) (by decide +kernel) (by decide +kernel)), (br_W0_in (i := 573) (by decide +kernel) (by decide +kernel))⟩, ⟨by decide +kernel, by decide +kernel, by decide +kernel⟩, by decide⟩
theorem vcL_35 : br_vc RL 35 mX5_piece 2 := ⟨⟨(br_W0_in (i := 571) (by decide +kernel) (by decide +kernel)), mwX5_piece.1.1, mwX5_piece.1.2⟩, mwX5_piece.2⟩
theorem mwX5_isPiece : (Cond.initialized mX5_isPiece.1.cls ∈ br_W0 ∧ Cond.code mX5_isPiece.1 mX5_isPiece.2.1 mX5_isPiece.2.2.1 mX5_isPiece.2.2.2 ∈ br_W0) ∧ (Cond.instanceMethod mX5_isPiece.1 ∈ br_W0 ∧ Cond.selects mX5_isPiece.1.cls mX5_isPiece.1 mX5_isPiece.1 ∈ br_W0) ∧ (mX5_isPiece.1.cls ≠ "java/lang/invoke/MethodHandle" ∧ mX5_isPiece.1.cls ≠ "java/lang/invoke/VarHandle" ∧ (parseMethodDescriptor mX5_isPiece.1.desc).map (fun d => d.parameters.length) = some 1) ∧ mX5_isPiece.2.2.1 ≤ 10 := ⟨⟨(br_W0_in (i := 43) (by decide +kernel) (by decide +kernel)), (br_W0_in (i := 578) (by decide +kernel) (by decide +kernel))⟩, ⟨(br_W0_in (i := 577) (by decide +kernel) (by decide +kernel)), (br_W0_in (i := 10) (by decide +kernel) (by decide +kernel))⟩, ⟨by decide +kernel, by decide +kernel, by decide +kernel⟩, by decide⟩
theorem vcX5_95 : br_vc RX5 95 mX5_isPiece 1 := ⟨⟨(br_W0_in (i := 575) (by decide +kernel) (by decide +kernel)), mwX5_isPiece.1.1, mwX5_isPiece.1.2⟩, mwX5_isPiece.2⟩
theorem mwX5_tell : (Cond.initialized mX5_tell.1.cls ∈ br_W0 ∧ Cond.code mX5_tell.1 mX5_tell.2.1 mX5_tell.2.2.1 mX5_tell.2.2.2 ∈ br_W0) ∧ (Cond.instanceMethod mX5_tell.1 ∈ br_W0 ∧ Cond.selects mX5_tell.1.cls mX5_tell.1 mX5_tell.1 ∈ br_W0) ∧ (mX5_tell.1.cls ≠ "java/lang/invoke/MethodHandle" ∧ mX5_tell.1.cls ≠ "java/lang/invoke/VarHandle" ∧ (parseMethodDescriptor mX5_tell.1.desc).map (fun d => d.parameters.length) = some 2) ∧ mX5_tell.2.2.1 ≤ 10 := ⟨⟨(br_W0_in (i := 43) (by decide +kernel) (by decide +kernel)), (br_W0_in (i := 582) (by decide +kernel) (by decide +kernel))⟩, ⟨(br_W0_in (i := 581) (by decide +kernel) (by decide +kernel)), (br_W0_in (i := 11) (by decide +kernel) (by decide +kernel))⟩, ⟨by decide +kernel, by decide +kernel, by decide +kernel⟩, by decide⟩
theorem vcX5_99 : br_vc RX5 99 mX5_tell 2 := ⟨⟨(br_W0_in (i := 579) (by decide +kernel) (by decide +kernel)), mwX5_tell.1.1, mwX5_tell.1.2⟩, mwX5_tell.2⟩
theorem mwX5_placeOf : (Cond.initialized mX5_placeOf.1.cls ∈ br_W0 ∧ Cond.code mX5_placeOf.1 mX5_placeOf.2.1 mX5_placeOf.2.2.1 mX5_placeOf.2.2.2 ∈ br_W0) ∧ (Cond.instanceMethod mX5_placeOf.1 ∈ br_W0 ∧ Cond.selects mX5_placeOf.1.cls mX5_placeOf.1 mX5_placeOf.1 ∈ br_W0) ∧ (mX5_placeOf.1.cls ≠ "java/lang/invoke/MethodHandle" ∧ mX5_placeOf.1.cls ≠ "java/lang/invoke/VarHandle" ∧ (parseMethodDescriptor mX5_placeOf.1.desc).map (fun d => d.parameters.length) = some 1) ∧ mX5_placeOf.2.2.1 ≤ 10 := ⟨⟨(br_W0_in (i := 43) (by decide +kernel) (by decide +kernel)), (br_W0_in (i := 586) (by decide +kernel) (by decide +kernel))⟩, ⟨(br_W0_in (i := 585) (by decide +kernel) (by decide +kernel)), (br_W0_in (i := 12) (by decide +kernel) (by decide +kernel))⟩, ⟨by decide +kernel, by decide +kernel, by decide +kernel⟩, by decide⟩
theorem vcX5_82 : br_vc RX5 82 mX5_placeOf 1 := ⟨⟨(br_W0_in (i := 583) (by decide +kernel) (by decide +kernel)), mwX5_placeOf.1.1, mwX5_placeOf.1.2⟩, mwX5_placeOf.2⟩
theorem mwX5_tenthsOf : (Cond.initialized mX5_tenthsOf.1.cls ∈ br_W0 ∧ Cond.code mX5_tenthsOf.1 mX5_tenthsOf.2.1 mX5_tenthsOf.2.2.1 mX5_tenthsOf.2.2.2 ∈ br_W0) ∧ (Cond.instanceMethod mX5_tenthsOf.1 ∈ br_W0 ∧ Cond.selects mX5_tenthsOf.1.cls mX5_tenthsOf.1 mX5_tenthsOf.1 ∈ br_W0) ∧ (mX5_tenthsOf.1.cls ≠ "java/lang/invoke/MethodHandle" ∧ mX5_tenthsOf.1.cls ≠ "java/lang/invoke/VarHandle" ∧ (parseMethodDescriptor mX5_tenthsOf.1.desc).map (fun d => d.parameters.length) = some 2) ∧ mX5_tenthsOf.2.2.1 ≤ 10 := ⟨⟨(br_W0_in (i := 43) (by decide +kernel) (by decide +kernel)), (br_W0_in (i := 590) (by decide +kernel) (by decide +kernel))⟩, ⟨(br_W0_in (i := 589) (by decide +kernel) (by decide +kernel)), (br_W0_in (i := 13) (by decide +kernel) (by decide +kernel))⟩, ⟨by decide +kernel, by decide +kernel, by decide +kernel⟩, by decide⟩
theorem vcX5_85 : br_vc RX5 85 mX5_tenthsOf 2 := ⟨⟨(br_W0_in (i := 587) (by decide +kernel) (by decide +kernel)), mwX5_tenthsOf.1.1, mwX5_tenthsOf.1.2⟩, mwX5_tenthsOf.2⟩
theorem mwX5_tenthsBy : (Cond.initialized mX5_tenthsBy.1.cls ∈ br_W0 ∧ Cond.code mX5_tenthsBy.1 mX5_tenthsBy.2.1 mX5_tenthsBy.2.2.1 mX5_tenthsBy.2.2.2 ∈ br_W0) ∧ Cond.static mX5_tenthsBy.1 ∈ br_W0 ∧ (mX5_tenthsBy.1.cls ≠ "java/lang/invoke/MethodHandle" ∧ mX5_tenthsBy.1.cls ≠ "java/lang/invoke/VarHandle" ∧ (parseMethodDescriptor mX5_tenthsBy.1.desc).map (fun d => d.parameters.length) = some 3) ∧ mX5_tenthsBy.2.2.1 ≤ 10 := ⟨⟨(br_W0_in (i := 43) (by decide +kernel) (by decide +kernel)), (br_W0_in (i := 593) (by decide +kernel) (by decide +kernel))⟩, (br_W0_in (i := 592) (by decide +kernel) (by decide +kernel)), ⟨by decide +kernel, by decide +kernel, by decide +kernel⟩, by decide⟩
theorem scX5_78 : br_sc RX5 78 mX5_tenthsBy 3 := ⟨⟨Or.inl (br_W0_in (i := 591) (by decide +kernel) (by decide +kernel)), mwX5_tenthsBy.1.1, mwX5_tenthsBy.1.2⟩, mwX5_tenthsBy.2⟩
theorem mwX5_sureOf : (Cond.initialized mX5_sureOf.1.cls ∈ br_W0 ∧ Cond.code mX5_sureOf.1 mX5_sureOf.2.1 mX5_sureOf.2.2.1 mX5_sureOf.2.2.2 ∈ br_W0) ∧ (Cond.instanceMethod mX5_sureOf.1 ∈ br_W0 ∧ Cond.selects mX5_sureOf.1.cls mX5_sureOf.1 mX5_sureOf.1 ∈ br_W0) ∧ (mX5_sureOf.1.cls ≠ "java/lang/invoke/MethodHandle" ∧ mX5_sureOf.1.cls ≠ "java/lang/invoke/VarHandle" ∧ (parseMethodDescriptor mX5_sureOf.1.desc).map (fun d => d.parameters.length) = some 1) ∧ mX5_sureOf.2.2.1 ≤ 10 := ⟨⟨(br_W0_in (i := 43) (by decide +kernel) (by decide +kernel)), (br_W0_in (i := 597) (by decide +kernel) (by decide +kernel))⟩, ⟨(br_W0_in (i := 596) (by decide +kernel) (by decide +kernel)), (br_W0_in (i := 14) (by decide +kernel) (by decide +kernel))⟩, ⟨by decide +kernel, by decide +kernel, by decide +kernel⟩, by decide⟩
theorem vcX5_89 : br_vc RX5 89 mX5_sureOf 1 := ⟨⟨(br_W0_in (i := 594) (by decide +kernel) (by decide +kernel)), mwX5_sureOf.1.1, mwX5_sureOf.1.2⟩, mwX5_sureOf.2⟩
theorem mwX5_triedWays : (Cond.initialized mX5_triedWays.1.cls ∈ br_W0 ∧ Cond.code mX5_triedWays.1 mX5_triedWays.2.1 mX5_triedWays.2.2.1 mX5_triedWays.2.2.2 ∈ br_W0) ∧ (Cond.instanceMethod mX5_triedWays.1 ∈ br_W0 ∧ Cond.selects mX5_triedWays.1.cls mX5_triedWays.1 mX5_triedWays.1 ∈ br_W0) ∧ (mX5_triedWays.1.cls ≠ "java/lang/invoke/MethodHandle" ∧ mX5_triedWays.1.cls ≠ "java/lang/invoke/VarHandle" ∧ (parseMethodDescriptor mX5_triedWays.1.desc).map (fun d => d.parameters.length) = some 2) ∧ mX5_triedWays.2.2.1 ≤ 10 := ⟨⟨(br_W0_in (i := 43) (by decide +kernel) (by decide +kernel)), (br_W0_in (i := 601) (by decide +kernel) (by decide +kernel))⟩, ⟨(br_W0_in (i := 600) (by decide +kernel) (by decide +kernel)), (br_W0_in (i := 15) (by decide +kernel) (by decide +kernel))⟩, ⟨by decide +kernel, by decide +kernel, by decide +kernel⟩, by decide⟩
theorem vcX5_173 : br_vc RX5 173 mX5_triedWays 2 := ⟨⟨(br_W0_in (i := 598) (by decide +kernel) (by decide +kernel)), mwX5_triedWays.1.1, mwX5_triedWays.1.2⟩, mwX5_triedWays.2⟩
theorem mwX5_likelyOf : (Cond.initialized mX5_likelyOf.1.cls ∈ br_W0 ∧ Cond.code mX5_likelyOf.1 mX5_likelyOf.2.1 mX5_likelyOf.2.2.1 mX5_likelyOf.2.2.2 ∈ br_W0) ∧ (Cond.instanceMethod mX5_likelyOf.1 ∈ br_W0 ∧ Cond.selects mX5_likelyOf.1.cls mX5_likelyOf.1 mX5_likelyOf.1 ∈ br_W0) ∧ (mX5_likelyOf.1.cls ≠ "java/lang/invoke/MethodHandle" ∧ mX5_likelyOf.1.cls ≠ "java/lang/invoke/VarHandle" ∧ (parseMethodDescriptor mX5_likelyOf.1.desc).map (fun d => d.parameters.length) = some 1) ∧ mX5_likelyOf.2.2.1 ≤ 10 := ⟨⟨(br_W0_in (i := 43) (by decide +kernel) (by decide +kernel)), (br_W0_in (i := 605) (by decide +kernel) (by decide +kernel))⟩, ⟨(br_W0_in (i := 604) (by decide +kernel) (by decide +kernel)), (br_W0_in (i := 16) (by decide +kernel) (by decide +kernel))⟩, ⟨by decide +kernel, by decide +kernel, by decide +kernel⟩, by decide⟩
theorem vcX5_92 : br_vc RX5 92 mX5_likelyOf 1 := ⟨⟨(br_W0_in (i := 602) (by decide +kernel) (by decide +kernel)), mwX5_likelyOf.1.1, mwX5_likelyOf.1.2⟩, mwX5_likelyOf.2⟩
theorem mwX5_as : (Cond.initialized mX5_as.1.cls ∈ br_W0 ∧ Cond.code mX5_as.1 mX5_as.2.1 mX5_as.2.2.1 mX5_as.2.2.2 ∈ br_W0) ∧ (Cond.instanceMethod mX5_as.1 ∈ br_W0 ∧ Cond.selects mX5_as.1.cls mX5_as.1 mX5_as.1 ∈ br_W0) ∧ (mX5_as.1.cls ≠ "java/lang/invoke/MethodHandle" ∧ mX5_as.1.cls ≠ "java/lang/invoke/VarHandle" ∧ (parseMethodDescriptor mX5_as.1.desc).map (fun d => d.parameters.length) = some 2) ∧ mX5_as.2.2.1 ≤ 10 := ⟨⟨(br_W0_in (i := 43) (by decide +kernel) (by decide +kernel)), (br_W0_in (i := 609) (by decide +kernel) (by decide +kernel))⟩, ⟨(br_W0_in (i := 607) (by decide +kernel) (by decide +kernel)), (br_W0_in (i := 608) (by decide +kernel) (by decide +kernel))⟩, ⟨by decide +kernel, by decide +kernel, by decide +kernel⟩, by decide⟩
theorem vcL_39 : br_vc RL 39 mX5_as 2 := ⟨⟨(br_W0_in (i := 606) (by decide +kernel) (by decide +kernel)), mwX5_as.1.1, mwX5_as.1.2⟩, mwX5_as.2⟩
theorem mwX5_put : (Cond.initialized mX5_put.1.cls ∈ br_W0 ∧ Cond.code mX5_put.1 mX5_put.2.1 mX5_put.2.2.1 mX5_put.2.2.2 ∈ br_W0) ∧ (Cond.instanceMethod mX5_put.1 ∈ br_W0 ∧ Cond.selects mX5_put.1.cls mX5_put.1 mX5_put.1 ∈ br_W0) ∧ (mX5_put.1.cls ≠ "java/lang/invoke/MethodHandle" ∧ mX5_put.1.cls ≠ "java/lang/invoke/VarHandle" ∧ (parseMethodDescriptor mX5_put.1.desc).map (fun d => d.parameters.length) = some 1) ∧ mX5_put.2.2.1 ≤ 10 := ⟨⟨(br_W0_in (i := 43) (by decide +kernel) (by decide +kernel)), (br_W0_in (i := 614) (by decide +kernel) (by decide +kernel))⟩, ⟨(br_W0_in (i := 612) (by decide +kernel) (by decide +kernel)), (br_W0_in (i := 613) (by decide +kernel) (by decide +kernel))⟩, ⟨by decide +kernel, by decide +kernel, by decide +kernel⟩, by decide⟩
theorem vcL_43 : br_vc RL 43 mX5_put 1 := ⟨⟨(br_W0_in (i := 611) (by decide +kernel) (by decide +kernel)), mwX5_put.1.1, mwX5_put.1.2⟩, mwX5_put.2⟩
theorem mwX5_take : (Cond.initialized mX5_take.1.cls ∈ br_W0 ∧ Cond.code mX5_take.1 mX5_take.2.1 mX5_take.2.2.1 mX5_take.2.2.2 ∈ br_W0) ∧ (Cond.instanceMethod mX5_take.1 ∈ br_W0 ∧ Cond.selects mX5_take.1.cls mX5_take.1 mX5_take.1 ∈ br_W0) ∧ (mX5_take.1.cls ≠ "java/lang/invoke/MethodHandle" ∧ mX5_take.1.cls ≠ "java/lang/invoke/VarHandle" ∧ (parseMethodDescriptor mX5_take.1.desc).map (fun d => d.parameters.length) = some 1) ∧ mX5_take.2.2.1 ≤ 10 := ⟨⟨(br_W0_in (i := 43) (by decide +kernel) (by decide +kernel)), (br_W0_in (i := 618) (by decide +kernel) (by decide +kernel))⟩, ⟨(br_W0_in (i := 616) (by decide +kernel) (by decide +kernel)), (br_W0_in (i := 617) (by decide +kernel) (by decide +kernel))⟩, ⟨by decide +kernel, by decide +kernel, by decide +kernel⟩, by decide⟩
theorem vcL_47 : br_vc RL 47 mX5_take 1 := ⟨⟨(br_W0_in (i := 615) (by decide +kernel) (by decide +kernel)), mwX5_take.1.1, mwX5_take.1.2⟩, mwX5_take.2⟩
theorem mwX5_isPlace : (Cond.initialized mX5_isPlace.1.cls ∈ br_W0 ∧ Cond.code mX5_isPlace.1 mX5_isPlace.2.1 mX5_isPlace.2.2.1 mX5_isPlace.2.2.2 ∈ br_W0) ∧ (Cond.instanceMethod mX5_isPlace.1 ∈ br_W0 ∧ Cond.selects mX5_isPlace.1.cls mX5_isPlace.1 mX5_isPlace.1 ∈ br_W0) ∧ (mX5_isPlace.1.cls ≠ "java/lang/invoke/MethodHandle" ∧ mX5_isPlace.1.cls ≠ "java/lang/invoke/VarHandle" ∧ (parseMethodDescriptor mX5_isPlace.1.desc).map (fun d => d.parameters.length) = some 1) ∧ mX5_isPlace.2.2.1 ≤ 10 := ⟨⟨(br_W0_in (i := 43) (by decide +kernel) (by decide +kernel)), (br_W0_in (i := 622) (by decide +kernel) (by decide +kernel))⟩, ⟨(br_W0_in (i := 621) (by decide +kernel) (by decide +kernel)), (br_W0_in (i := 17) (by decide +kernel) (by decide +kernel))⟩, ⟨by decide +kernel, by decide +kernel, by decide +kernel⟩, by decide⟩
theorem vcX5_104 : br_vc RX5 104 mX5_isPlace 1 := ⟨⟨(br_W0_in (i := 619) (by decide +kernel) (by decide +kernel)), mwX5_isPlace.1.1, mwX5_isPlace.1.2⟩, mwX5_isPlace.2⟩
theorem mwX5_swap : (Cond.initialized mX5_swap.1.cls ∈ br_W0 ∧ Cond.code mX5_swap.1 mX5_swap.2.1 mX5_swap.2.2.1 mX5_swap.2.2.2 ∈ br_W0) ∧ (Cond.instanceMethod mX5_swap.1 ∈ br_W0 ∧ Cond.selects mX5_swap.1.cls mX5_swap.1 mX5_swap.1 ∈ br_W0) ∧ (mX5_swap.1.cls ≠ "java/lang/invoke/MethodHandle" ∧ mX5_swap.1.cls ≠ "java/lang/invoke/VarHandle" ∧ (parseMethodDescriptor mX5_swap.1.desc).map (fun d => d.parameters.length) = some 2) ∧ mX5_swap.2.2.1 ≤ 10 := ⟨⟨(br_W0_in (i := 43) (by decide +kernel) (by decide +kernel)), (br_W0_in (i := 626) (by decide +kernel) (by decide +kernel))⟩, ⟨(br_W0_in (i := 624) (by decide +kernel) (by decide +kernel)), (br_W0_in (i := 625) (by decide +kernel) (by decide +kernel))⟩, ⟨by decide +kernel, by decide +kernel, by decide +kernel⟩, by decide⟩
theorem vcL_51 : br_vc RL 51 mX5_swap 2 := ⟨⟨(br_W0_in (i := 623) (by decide +kernel) (by decide +kernel)), mwX5_swap.1.1, mwX5_swap.1.2⟩, mwX5_swap.2⟩
theorem mwX5_at : (Cond.initialized mX5_at.1.cls ∈ br_W0 ∧ Cond.code mX5_at.1 mX5_at.2.1 mX5_at.2.2.1 mX5_at.2.2.2 ∈ br_W0) ∧ (Cond.instanceMethod mX5_at.1 ∈ br_W0 ∧ Cond.selects mX5_at.1.cls mX5_at.1 mX5_at.1 ∈ br_W0) ∧ (mX5_at.1.cls ≠ "java/lang/invoke/MethodHandle" ∧ mX5_at.1.cls ≠ "java/lang/invoke/VarHandle" ∧ (parseMethodDescriptor mX5_at.1.desc).map (fun d => d.parameters.length) = some 1) ∧ mX5_at.2.2.1 ≤ 10 := ⟨⟨(br_W0_in (i := 43) (by decide +kernel) (by decide +kernel)), (br_W0_in (i := 630) (by decide +kernel) (by decide +kernel))⟩, ⟨(br_W0_in (i := 628) (by decide +kernel) (by decide +kernel)), (br_W0_in (i := 629) (by decide +kernel) (by decide +kernel))⟩, ⟨by decide +kernel, by decide +kernel, by decide +kernel⟩, by decide⟩
theorem vcL_55 : br_vc RL 55 mX5_at 1 := ⟨⟨(br_W0_in (i := 627) (by decide +kernel) (by decide +kernel)), mwX5_at.1.1, mwX5_at.1.2⟩, mwX5_at.2⟩
theorem mwX5_score : (Cond.initialized mX5_score.1.cls ∈ br_W0 ∧ Cond.code mX5_score.1 mX5_score.2.1 mX5_score.2.2.1 mX5_score.2.2.2 ∈ br_W0) ∧ (Cond.instanceMethod mX5_score.1 ∈ br_W0 ∧ Cond.selects mX5_score.1.cls mX5_score.1 mX5_score.1 ∈ br_W0) ∧ (mX5_score.1.cls ≠ "java/lang/invoke/MethodHandle" ∧ mX5_score.1.cls ≠ "java/lang/invoke/VarHandle" ∧ (parseMethodDescriptor mX5_score.1.desc).map (fun d => d.parameters.length) = some 1) ∧ mX5_score.2.2.1 ≤ 10 := ⟨⟨(br_W0_in (i := 43) (by decide +kernel) (by decide +kernel)), (br_W0_in (i := 634) (by decide +kernel) (by decide +kernel))⟩, ⟨(br_W0_in (i := 632) (by decide +kernel) (by decide +kernel)), (br_W0_in (i := 633) (by decide +kernel) (by decide +kernel))⟩, ⟨by decide +kernel, by decide +kernel, by decide +kernel⟩, by decide⟩
theorem vcL_59 : br_vc RL 59 mX5_score 1 := ⟨⟨(br_W0_in (i := 631) (by decide +kernel) (by decide +kernel)), mwX5_score.1.1, mwX5_score.1.2⟩, mwX5_score.2⟩
theorem mwX5_lacks : (Cond.initialized mX5_lacks.1.cls ∈ br_W0 ∧ Cond.code mX5_lacks.1 mX5_lacks.2.1 mX5_lacks.2.2.1 mX5_lacks.2.2.2 ∈ br_W0) ∧ (Cond.instanceMethod mX5_lacks.1 ∈ br_W0 ∧ Cond.selects mX5_lacks.1.cls mX5_lacks.1 mX5_lacks.1 ∈ br_W0) ∧ (mX5_lacks.1.cls ≠ "java/lang/invoke/MethodHandle" ∧ mX5_lacks.1.cls ≠ "java/lang/invoke/VarHandle" ∧ (parseMethodDescriptor mX5_lacks.1.desc).map (fun d => d.parameters.length) = some 0) ∧ mX5_lacks.2.2.1 ≤ 10 := ⟨⟨(br_W0_in (i := 43) (by decide +kernel) (by decide +kernel)), (br_W0_in (i := 638) (by decide +kernel) (by decide +kernel))⟩, ⟨(br_W0_in (i := 637) (by decide +kernel) (by decide +kernel)), (br_W0_in (i := 18) (by decide +kernel) (by decide +kernel))⟩, ⟨by decide +kernel, by decide +kernel, by decide +kernel⟩, by decide⟩
theorem vcX5_117 : br_vc RX5 117 mX5_lacks 0 := ⟨⟨(br_W0_in (i := 635) (by decide +kernel) (by decide +kernel)), mwX5_lacks.1.1, mwX5_lacks.1.2⟩, mwX5_lacks.2⟩
theorem mwX5_scoreOf : (Cond.initialized mX5_scoreOf.1.cls ∈ br_W0 ∧ Cond.code mX5_scoreOf.1 mX5_scoreOf.2.1 mX5_scoreOf.2.2.1 mX5_scoreOf.2.2.2 ∈ br_W0) ∧ (Cond.instanceMethod mX5_scoreOf.1 ∈ br_W0 ∧ Cond.selects mX5_scoreOf.1.cls mX5_scoreOf.1 mX5_scoreOf.1 ∈ br_W0) ∧ (mX5_scoreOf.1.cls ≠ "java/lang/invoke/MethodHandle" ∧ mX5_scoreOf.1.cls ≠ "java/lang/invoke/VarHandle" ∧ (parseMethodDescriptor mX5_scoreOf.1.desc).map (fun d => d.parameters.length) = some 3) ∧ mX5_scoreOf.2.2.1 ≤ 10 := ⟨⟨(br_W0_in (i := 43) (by decide +kernel) (by decide +kernel)), (br_W0_in (i := 642) (by decide +kernel) (by decide +kernel))⟩, ⟨(br_W0_in (i := 641) (by decide +kernel) (by decide +kernel)), (br_W0_in (i := 19) (by decide +kernel) (by decide +kernel))⟩, ⟨by decide +kernel, by decide +kernel, by decide +kernel⟩, by decide⟩
theorem vcX5_121 : br_vc RX5 121 mX5_scoreOf 3 := ⟨⟨(br_W0_in (i := 639) (by decide +kernel) (by decide +kernel)), mwX5_scoreOf.1.1, mwX5_scoreOf.1.2⟩, mwX5_scoreOf.2⟩
theorem mwX5_isFlight : (Cond.initialized mX5_isFlight.1.cls ∈ br_W0 ∧ Cond.code mX5_isFlight.1 mX5_isFlight.2.1 mX5_isFlight.2.2.1 mX5_isFlight.2.2.2 ∈ br_W0) ∧ (Cond.instanceMethod mX5_isFlight.1 ∈ br_W0 ∧ Cond.selects mX5_isFlight.1.cls mX5_isFlight.1 mX5_isFlight.1 ∈ br_W0) ∧ (mX5_isFlight.1.cls ≠ "java/lang/invoke/MethodHandle" ∧ mX5_isFlight.1.cls ≠ "java/lang/invoke/VarHandle" ∧ (parseMethodDescriptor mX5_isFlight.1.desc).map (fun d => d.parameters.length) = some 1) ∧ mX5_isFlight.2.2.1 ≤ 10 := ⟨⟨(br_W0_in (i := 43) (by decide +kernel) (by decide +kernel)), (br_W0_in (i := 646) (by decide +kernel) (by decide +kernel))⟩, ⟨(br_W0_in (i := 645) (by decide +kernel) (by decide +kernel)), (br_W0_in (i := 20) (by decide +kernel) (by decide +kernel))⟩, ⟨by decide +kernel, by decide +kernel, by decide +kernel⟩, by decide⟩
theorem vcX5_107 : br_vc RX5 107 mX5_isFlight 1 := ⟨⟨(br_W0_in (i := 643) (by decide +kernel) (by decide +kernel)), mwX5_isFlight.1.1, mwX5_isFlight.1.2⟩, mwX5_isFlight.2⟩
theorem mwX5_isTurn : (Cond.initialized mX5_isTurn.1.cls ∈ br_W0 ∧ Cond.code mX5_isTurn.1 mX5_isTurn.2.1 mX5_isTurn.2.2.1 mX5_isTurn.2.2.2 ∈ br_W0) ∧ (Cond.instanceMethod mX5_isTurn.1 ∈ br_W0 ∧ Cond.selects mX5_isTurn.1.cls mX5_isTurn.1 mX5_isTurn.1 ∈ br_W0) ∧ (mX5_isTurn.1.cls ≠ "java/lang/invoke/MethodHandle" ∧ mX5_isTurn.1.cls ≠ "java/lang/invoke/VarHandle" ∧ (parseMethodDescriptor mX5_isTurn.1.desc).map (fun d => d.parameters.length) = some 1) ∧ mX5_isTurn.2.2.1 ≤ 10 := ⟨⟨(br_W0_in (i := 43) (by decide +kernel) (by decide +kernel)), (br_W0_in (i := 650) (by decide +kernel) (by decide +kernel))⟩, ⟨(br_W0_in (i := 649) (by decide +kernel) (by decide +kernel)), (br_W0_in (i := 21) (by decide +kernel) (by decide +kernel))⟩, ⟨by decide +kernel, by decide +kernel, by decide +kernel⟩, by decide⟩
theorem vcX5_110 : br_vc RX5 110 mX5_isTurn 1 := ⟨⟨(br_W0_in (i := 647) (by decide +kernel) (by decide +kernel)), mwX5_isTurn.1.1, mwX5_isTurn.1.2⟩, mwX5_isTurn.2⟩
theorem mwX5_joins : (Cond.initialized mX5_joins.1.cls ∈ br_W0 ∧ Cond.code mX5_joins.1 mX5_joins.2.1 mX5_joins.2.2.1 mX5_joins.2.2.2 ∈ br_W0) ∧ (Cond.instanceMethod mX5_joins.1 ∈ br_W0 ∧ Cond.selects mX5_joins.1.cls mX5_joins.1 mX5_joins.1 ∈ br_W0) ∧ (mX5_joins.1.cls ≠ "java/lang/invoke/MethodHandle" ∧ mX5_joins.1.cls ≠ "java/lang/invoke/VarHandle" ∧ (parseMethodDescriptor mX5_joins.1.desc).map (fun d => d.parameters.length) = some 3) ∧ mX5_joins.2.2.1 ≤ 10 := ⟨⟨(br_W0_in (i := 43) (by decide +kernel) (by decide +kernel)), (br_W0_in (i := 654) (by decide +kernel) (by decide +kernel))⟩, ⟨(br_W0_in (i := 653) (by decide +kernel) (by decide +kernel)), (br_W0_in (i := 22) (by decide +kernel) (by decide +kernel))⟩, ⟨by decide +kernel, by decide +kernel, by decide +kernel⟩, by decide⟩
theorem vcX5_113 : br_vc RX5 113 mX5_joins 3 := ⟨⟨(br_W0_in (i := 651) (by decide +kernel) (by decide +kernel)), mwX5_joins.1.1, mwX5_joins.1.2⟩, mwX5_joins.2⟩
theorem mwX5_mean : (Cond.initialized mX5_mean.1.cls ∈ br_W0 ∧ Cond.code mX5_mean.1 mX5_mean.2.1 mX5_mean.2.2.1 mX5_mean.2.2.2 ∈ br_W0) ∧ (Cond.instanceMethod mX5_mean.1 ∈ br_W0 ∧ Cond.selects mX5_mean.1.cls mX5_mean.1 mX5_mean.1 ∈ br_W0) ∧ (mX5_mean.1.cls ≠ "java/lang/invoke/MethodHandle" ∧ mX5_mean.1.cls ≠ "java/lang/invoke/VarHandle" ∧ (parseMethodDescriptor mX5_mean.1.desc).map (fun d => d.parameters.length) = some 1) ∧ mX5_mean.2.2.1 ≤ 10 := ⟨⟨(br_W0_in (i := 43) (by decide +kernel) (by decide +kernel)), (br_W0_in (i := 658) (by decide +kernel) (by decide +kernel))⟩, ⟨(br_W0_in (i := 656) (by decide +kernel) (by decide +kernel)), (br_W0_in (i := 657) (by decide +kernel) (by decide +kernel))⟩, ⟨by decide +kernel, by decide +kernel, by decide +kernel⟩, by decide⟩
theorem vcL_63 : br_vc RL 63 mX5_mean 1 := ⟨⟨(br_W0_in (i := 655) (by decide +kernel) (by decide +kernel)), mwX5_mean.1.1, mwX5_mean.1.2⟩, mwX5_mean.2⟩
theorem mwX5_meanOf : (Cond.initialized mX5_meanOf.1.cls ∈ br_W0 ∧ Cond.code mX5_meanOf.1 mX5_meanOf.2.1 mX5_meanOf.2.2.1 mX5_meanOf.2.2.2 ∈ br_W0) ∧ (Cond.instanceMethod mX5_meanOf.1 ∈ br_W0 ∧ Cond.selects mX5_meanOf.1.cls mX5_meanOf.1 mX5_meanOf.1 ∈ br_W0) ∧ (mX5_meanOf.1.cls ≠ "java/lang/invoke/MethodHandle" ∧ mX5_meanOf.1.cls ≠ "java/lang/invoke/VarHandle" ∧ (parseMethodDescriptor mX5_meanOf.1.desc).map (fun d => d.parameters.length) = some 3) ∧ mX5_meanOf.2.2.1 ≤ 10 := ⟨⟨(br_W0_in (i := 43) (by decide +kernel) (by decide +kernel)), (br_W0_in (i := 662) (by decide +kernel) (by decide +kernel))⟩, ⟨(br_W0_in (i := 661) (by decide +kernel) (by decide +kernel)), (br_W0_in (i := 23) (by decide +kernel) (by decide +kernel))⟩, ⟨by decide +kernel, by decide +kernel, by decide +kernel⟩, by decide⟩
theorem vcX5_138 : br_vc RX5 138 mX5_meanOf 3 := ⟨⟨(br_W0_in (i := 659) (by decide +kernel) (by decide +kernel)), mwX5_meanOf.1.1, mwX5_meanOf.1.2⟩, mwX5_meanOf.2⟩
theorem mwX5_meanUp : (Cond.initialized mX5_meanUp.1.cls ∈ br_W0 ∧ Cond.code mX5_meanUp.1 mX5_meanUp.2.1 mX5_meanUp.2.2.1 mX5_meanUp.2.2.2 ∈ br_W0) ∧ (Cond.instanceMethod mX5_meanUp.1 ∈ br_W0 ∧ Cond.selects mX5_meanUp.1.cls mX5_meanUp.1 mX5_meanUp.1 ∈ br_W0) ∧ (mX5_meanUp.1.cls ≠ "java/lang/invoke/MethodHandle" ∧ mX5_meanUp.1.cls ≠ "java/lang/invoke/VarHandle" ∧ (parseMethodDescriptor mX5_meanUp.1.desc).map (fun d => d.parameters.length) = some 2) ∧ mX5_meanUp.2.2.1 ≤ 10 := ⟨⟨(br_W0_in (i := 43) (by decide +kernel) (by decide +kernel)), (br_W0_in (i := 666) (by decide +kernel) (by decide +kernel))⟩, ⟨(br_W0_in (i := 665) (by decide +kernel) (by decide +kernel)), (br_W0_in (i := 24) (by decide +kernel) (by decide +kernel))⟩, ⟨by decide +kernel, by decide +kernel, by decide +kernel⟩, by decide⟩
theorem vcX5_128 : br_vc RX5 128 mX5_meanUp 2 := ⟨⟨(br_W0_in (i := 663) (by decide +kernel) (by decide +kernel)), mwX5_meanUp.1.1, mwX5_meanUp.1.2⟩, mwX5_meanUp.2⟩
theorem mwX5_waysOf : (Cond.initialized mX5_waysOf.1.cls ∈ br_W0 ∧ Cond.code mX5_waysOf.1 mX5_waysOf.2.1 mX5_waysOf.2.2.1 mX5_waysOf.2.2.2 ∈ br_W0) ∧ (Cond.instanceMethod mX5_waysOf.1 ∈ br_W0 ∧ Cond.selects mX5_waysOf.1.cls mX5_waysOf.1 mX5_waysOf.1 ∈ br_W0) ∧ (mX5_waysOf.1.cls ≠ "java/lang/invoke/MethodHandle" ∧ mX5_waysOf.1.cls ≠ "java/lang/invoke/VarHandle" ∧ (parseMethodDescriptor mX5_waysOf.1.desc).map (fun d => d.parameters.length) = some 3) ∧ mX5_waysOf.2.2.1 ≤ 10 := ⟨⟨(br_W0_in (i := 43) (by decide +kernel) (by decide +kernel)), (br_W0_in (i := 670) (by decide +kernel) (by decide +kernel))⟩, ⟨(br_W0_in (i := 669) (by decide +kernel) (by decide +kernel)), (br_W0_in (i := 25) (by decide +kernel) (by decide +kernel))⟩, ⟨by decide +kernel, by decide +kernel, by decide +kernel⟩, by decide⟩
theorem vcX5_125 : br_vc RX5 125 mX5_waysOf 3 := ⟨⟨(br_W0_in (i := 667) (by decide +kernel) (by decide +kernel)), mwX5_waysOf.1.1, mwX5_waysOf.1.2⟩, mwX5_waysOf.2⟩
theorem mwX5_powerOf : (Cond.initialized mX5_powerOf.1.cls ∈ br_W0 ∧ Cond.code mX5_powerOf.1 mX5_powerOf.2.1 mX5_powerOf.2.2.1 mX5_powerOf.2.2.2 ∈ br_W0) ∧ Cond.static mX5_powerOf.1 ∈ br_W0 ∧ (mX5_powerOf.1.cls ≠ "java/lang/invoke/MethodHandle" ∧ mX5_powerOf.1.cls ≠ "java/lang/invoke/VarHandle" ∧ (parseMethodDescriptor mX5_powerOf.1.desc).map (fun d => d.parameters.length) = some 1) ∧ mX5_powerOf.2.2.1 ≤ 10 := ⟨⟨(br_W0_in (i := 43) (by decide +kernel) (by decide +kernel)), (br_W0_in (i := 673) (by decide +kernel) (by decide +kernel))⟩, (br_W0_in (i := 672) (by decide +kernel) (by decide +kernel)), ⟨by decide +kernel, by decide +kernel, by decide +kernel⟩, by decide⟩
theorem scX5_132 : br_sc RX5 132 mX5_powerOf 1 := ⟨⟨Or.inl (br_W0_in (i := 671) (by decide +kernel) (by decide +kernel)), mwX5_powerOf.1.1, mwX5_powerOf.1.2⟩, mwX5_powerOf.2⟩
theorem mwX5_common : (Cond.initialized mX5_common.1.cls ∈ br_W0 ∧ Cond.code mX5_common.1 mX5_common.2.1 mX5_common.2.2.1 mX5_common.2.2.2 ∈ br_W0) ∧ Cond.static mX5_common.1 ∈ br_W0 ∧ (mX5_common.1.cls ≠ "java/lang/invoke/MethodHandle" ∧ mX5_common.1.cls ≠ "java/lang/invoke/VarHandle" ∧ (parseMethodDescriptor mX5_common.1.desc).map (fun d => d.parameters.length) = some 2) ∧ mX5_common.2.2.1 ≤ 10 := ⟨⟨(br_W0_in (i := 43) (by decide +kernel) (by decide +kernel)), (br_W0_in (i := 676) (by decide +kernel) (by decide +kernel))⟩, (br_W0_in (i := 675) (by decide +kernel) (by decide +kernel)), ⟨by decide +kernel, by decide +kernel, by decide +kernel⟩, by decide⟩
theorem scX5_135 : br_sc RX5 135 mX5_common 2 := ⟨⟨Or.inl (br_W0_in (i := 674) (by decide +kernel) (by decide +kernel)), mwX5_common.1.1, mwX5_common.1.2⟩, mwX5_common.2⟩
theorem mwX5_odds : (Cond.initialized mX5_odds.1.cls ∈ br_W0 ∧ Cond.code mX5_odds.1 mX5_odds.2.1 mX5_odds.2.2.1 mX5_odds.2.2.2 ∈ br_W0) ∧ (Cond.instanceMethod mX5_odds.1 ∈ br_W0 ∧ Cond.selects mX5_odds.1.cls mX5_odds.1 mX5_odds.1 ∈ br_W0) ∧ (mX5_odds.1.cls ≠ "java/lang/invoke/MethodHandle" ∧ mX5_odds.1.cls ≠ "java/lang/invoke/VarHandle" ∧ (parseMethodDescriptor mX5_odds.1.desc).map (fun d => d.parameters.length) = some 2) ∧ mX5_odds.2.2.1 ≤ 10 := ⟨⟨(br_W0_in (i := 43) (by decide +kernel) (by decide +kernel)), (br_W0_in (i := 680) (by decide +kernel) (by decide +kernel))⟩, ⟨(br_W0_in (i := 678) (by decide +kernel) (by decide +kernel)), (br_W0_in (i := 679) (by decide +kernel) (by decide +kernel))⟩, ⟨by decide +kernel, by decide +kernel, by decide +kernel⟩, by decide⟩
theorem vcL_67 : br_vc RL 67 mX5_odds 2 := ⟨⟨(br_W0_in (i := 677) (by decide +kernel) (by decide +kernel)), mwX5_odds.1.1, mwX5_odds.1.2⟩, mwX5_odds.2⟩
theorem mwX5_oddsOf : (Cond.initialized mX5_oddsOf.1.cls ∈ br_W0 ∧ Cond.code mX5_oddsOf.1 mX5_oddsOf.2.1 mX5_oddsOf.2.2.1 mX5_oddsOf.2.2.2 ∈ br_W0) ∧ (Cond.instanceMethod mX5_oddsOf.1 ∈ br_W0 ∧ Cond.selects mX5_oddsOf.1.cls mX5_oddsOf.1 mX5_oddsOf.1 ∈ br_W0) ∧ (mX5_oddsOf.1.cls ≠ "java/lang/invoke/MethodHandle" ∧ mX5_oddsOf.1.cls ≠ "java/lang/invoke/VarHandle" ∧ (parseMethodDescriptor mX5_oddsOf.1.desc).map (fun d => d.parameters.length) = some 2) ∧ mX5_oddsOf.2.2.1 ≤ 10 := ⟨⟨(br_W0_in (i := 43) (by decide +kernel) (by decide +kernel)), (br_W0_in (i := 686) (by decide +kernel) (by decide +kernel))⟩, ⟨(br_W0_in (i := 685) (by decide +kernel) (by decide +kernel)), (br_W0_in (i := 26) (by decide +kernel) (by decide +kernel))⟩, ⟨by decide +kernel, by decide +kernel, by decide +kernel⟩, by decide⟩
theorem vcX5_148 : br_vc RX5 148 mX5_oddsOf 2 := ⟨⟨(br_W0_in (i := 683) (by decide +kernel) (by decide +kernel)), mwX5_oddsOf.1.1, mwX5_oddsOf.1.2⟩, mwX5_oddsOf.2⟩
theorem mwX5_oddsUp : (Cond.initialized mX5_oddsUp.1.cls ∈ br_W0 ∧ Cond.code mX5_oddsUp.1 mX5_oddsUp.2.1 mX5_oddsUp.2.2.1 mX5_oddsUp.2.2.2 ∈ br_W0) ∧ (Cond.instanceMethod mX5_oddsUp.1 ∈ br_W0 ∧ Cond.selects mX5_oddsUp.1.cls mX5_oddsUp.1 mX5_oddsUp.1 ∈ br_W0) ∧ (mX5_oddsUp.1.cls ≠ "java/lang/invoke/MethodHandle" ∧ mX5_oddsUp.1.cls ≠ "java/lang/invoke/VarHandle" ∧ (parseMethodDescriptor mX5_oddsUp.1.desc).map (fun d => d.parameters.length) = some 3) ∧ mX5_oddsUp.2.2.1 ≤ 10 := ⟨⟨(br_W0_in (i := 43) (by decide +kernel) (by decide +kernel)), (br_W0_in (i := 690) (by decide +kernel) (by decide +kernel))⟩, ⟨(br_W0_in (i := 689) (by decide +kernel) (by decide +kernel)), (br_W0_in (i := 27) (by decide +kernel) (by decide +kernel))⟩, ⟨by decide +kernel, by decide +kernel, by decide +kernel⟩, by decide⟩
theorem vcX5_141 : br_vc RX5 141 mX5_oddsUp 3 := ⟨⟨(br_W0_in (i := 687) (by decide +kernel) (by decide +kernel)), mwX5_oddsUp.1.1, mwX5_oddsUp.1.2⟩, mwX5_oddsUp.2⟩
theorem mwX5_best : (Cond.initialized mX5_best.1.cls ∈ br_W0 ∧ Cond.code mX5_best.1 mX5_best.2.1 mX5_best.2.2.1 mX5_best.2.2.2 ∈ br_W0) ∧ (Cond.instanceMethod mX5_best.1 ∈ br_W0 ∧ Cond.selects mX5_best.1.cls mX5_best.1 mX5_best.1 ∈ br_W0) ∧ (mX5_best.1.cls ≠ "java/lang/invoke/MethodHandle" ∧ mX5_best.1.cls ≠ "java/lang/invoke/VarHandle" ∧ (parseMethodDescriptor mX5_best.1.desc).map (fun d => d.parameters.length) = some 2) ∧ mX5_best.2.2.1 ≤ 10 := ⟨⟨(br_W0_in (i := 43) (by decide +kernel) (by decide +kernel)), (br_W0_in (i := 694) (by decide +kernel) (by decide +kernel))⟩, ⟨(br_W0_in (i := 692) (by decide +kernel) (by decide +kernel)), (br_W0_in (i := 693) (by decide +kernel) (by decide +kernel))⟩, ⟨by decide +kernel, by decide +kernel, by decide +kernel⟩, by decide⟩
theorem vcL_71 : br_vc RL 71 mX5_best 2 := ⟨⟨(br_W0_in (i := 691) (by decide +kernel) (by decide +kernel)), mwX5_best.1.1, mwX5_best.1.2⟩, mwX5_best.2⟩
theorem mwX5_bestOf : (Cond.initialized mX5_bestOf.1.cls ∈ br_W0 ∧ Cond.code mX5_bestOf.1 mX5_bestOf.2.1 mX5_bestOf.2.2.1 mX5_bestOf.2.2.2 ∈ br_W0) ∧ (Cond.instanceMethod mX5_bestOf.1 ∈ br_W0 ∧ Cond.selects mX5_bestOf.1.cls mX5_bestOf.1 mX5_bestOf.1 ∈ br_W0) ∧ (mX5_bestOf.1.cls ≠ "java/lang/invoke/MethodHandle" ∧ mX5_bestOf.1.cls ≠ "java/lang/invoke/VarHandle" ∧ (parseMethodDescriptor mX5_bestOf.1.desc).map (fun d => d.parameters.length) = some 2) ∧ mX5_bestOf.2.2.1 ≤ 10 := ⟨⟨(br_W0_in (i := 43) (by decide +kernel) (by decide +kernel)), (br_W0_in (i := 701) (by decide +kernel) (by decide +kernel))⟩, ⟨(br_W0_in (i := 700) (by decide +kernel) (by decide +kernel)), (br_W0_in (i := 28) (by decide +kernel) (by decide +kernel))⟩, ⟨by decide +kernel, by decide +kernel, by decide +kernel⟩, by decide⟩
theorem vcX5_167 : br_vc RX5 167 mX5_bestOf 2 := ⟨⟨(br_W0_in (i := 698) (by decide +kernel) (by decide +kernel)), mwX5_bestOf.1.1, mwX5_bestOf.1.2⟩, mwX5_bestOf.2⟩
theorem mwX5_layRow : (Cond.initialized mX5_layRow.1.cls ∈ br_W0 ∧ Cond.code mX5_layRow.1 mX5_layRow.2.1 mX5_layRow.2.2.1 mX5_layRow.2.2.2 ∈ br_W0) ∧ (Cond.instanceMethod mX5_layRow.1 ∈ br_W0 ∧ Cond.selects mX5_layRow.1.cls mX5_layRow.1 mX5_layRow.1 ∈ br_W0) ∧ (mX5_layRow.1.cls ≠ "java/lang/invoke/MethodHandle" ∧ mX5_layRow.1.cls ≠ "java/lang/invoke/VarHandle" ∧ (parseMethodDescriptor mX5_layRow.1.desc).map (fun d => d.parameters.length) = some 2) ∧ mX5_layRow.2.2.1 ≤ 10 := ⟨⟨(br_W0_in (i := 43) (by decide +kernel) (by decide +kernel)), (br_W0_in (i := 705) (by decide +kernel) (by decide +kernel))⟩, ⟨(br_W0_in (i := 704) (by decide +kernel) (by decide +kernel)), (br_W0_in (i := 29) (by decide +kernel) (by decide +kernel))⟩, ⟨by decide +kernel, by decide +kernel, by decide +kernel⟩, by decide⟩
theorem vcX5_151 : br_vc RX5 151 mX5_layRow 2 := ⟨⟨(br_W0_in (i := 702) (by decide +kernel) (by decide +kernel)), mwX5_layRow.1.1, mwX5_layRow.1.2⟩, mwX5_layRow.2⟩
theorem mwX5_copy : (Cond.initialized mX5_copy.1.cls ∈ br_W0 ∧ Cond.code mX5_copy.1 mX5_copy.2.1 mX5_copy.2.2.1 mX5_copy.2.2.2 ∈ br_W0) ∧ Cond.static mX5_copy.1 ∈ br_W0 ∧ (mX5_copy.1.cls ≠ "java/lang/invoke/MethodHandle" ∧ mX5_copy.1.cls ≠ "java/lang/invoke/VarHandle" ∧ (parseMethodDescriptor mX5_copy.1.desc).map (fun d => d.parameters.length) = some 2) ∧ mX5_copy.2.2.1 ≤ 10 := ⟨⟨(br_W0_in (i := 43) (by decide +kernel) (by decide +kernel)), (br_W0_in (i := 708) (by decide +kernel) (by decide +kernel))⟩, (br_W0_in (i := 707) (by decide +kernel) (by decide +kernel)), ⟨by decide +kernel, by decide +kernel, by decide +kernel⟩, by decide⟩
theorem scX5_154 : br_sc RX5 154 mX5_copy 2 := ⟨⟨Or.inl (br_W0_in (i := 706) (by decide +kernel) (by decide +kernel)), mwX5_copy.1.1, mwX5_copy.1.2⟩, mwX5_copy.2⟩
theorem mwX5_more : (Cond.initialized mX5_more.1.cls ∈ br_W0 ∧ Cond.code mX5_more.1 mX5_more.2.1 mX5_more.2.2.1 mX5_more.2.2.2 ∈ br_W0) ∧ (Cond.instanceMethod mX5_more.1 ∈ br_W0 ∧ Cond.selects mX5_more.1.cls mX5_more.1 mX5_more.1 ∈ br_W0) ∧ (mX5_more.1.cls ≠ "java/lang/invoke/MethodHandle" ∧ mX5_more.1.cls ≠ "java/lang/invoke/VarHandle" ∧ (parseMethodDescriptor mX5_more.1.desc).map (fun d => d.parameters.length) = some 1) ∧ mX5_more.2.2.1 ≤ 10 := ⟨⟨(br_W0_in (i := 43) (by decide +kernel) (by decide +kernel)), (br_W0_in (i := 712) (by decide +kernel) (by decide +kernel))⟩, ⟨(br_W0_in (i := 710) (by decide +kernel) (by decide +kernel)), (br_W0_in (i := 711) (by decide +kernel) (by decide +kernel))⟩, ⟨by decide +kernel, by decide +kernel, by decide +kernel⟩, by decide⟩
theorem vcL_75 : br_vc RL 75 mX5_more 1 := ⟨⟨(br_W0_in (i := 709) (by decide +kernel) (by decide +kernel)), mwX5_more.1.1, mwX5_more.1.2⟩, mwX5_more.2⟩
theorem mwX5_moreOf : (Cond.initialized mX5_moreOf.1.cls ∈ br_W0 ∧ Cond.code mX5_moreOf.1 mX5_moreOf.2.1 mX5_moreOf.2.2.1 mX5_moreOf.2.2.2 ∈ br_W0) ∧ (Cond.instanceMethod mX5_moreOf.1 ∈ br_W0 ∧ Cond.selects mX5_moreOf.1.cls mX5_moreOf.1 mX5_moreOf.1 ∈ br_W0) ∧ (mX5_moreOf.1.cls ≠ "java/lang/invoke/MethodHandle" ∧ mX5_moreOf.1.cls ≠ "java/lang/invoke/VarHandle" ∧ (parseMethodDescriptor mX5_moreOf.1.desc).map (fun d => d.parameters.length) = some 1) ∧ mX5_moreOf.2.2.1 ≤ 10 := ⟨⟨(br_W0_in (i := 43) (by decide +kernel) (by decide +kernel)), (br_W0_in (i := 716) (by decide +kernel) (by decide +kernel))⟩, ⟨(br_W0_in (i := 715) (by decide +kernel) (by decide +kernel)), (br_W0_in (i := 30) (by decide +kernel) (by decide +kernel))⟩, ⟨by decide +kernel, by decide +kernel, by decide +kernel⟩, by decide⟩
theorem vcX5_170 : br_vc RX5 170 mX5_moreOf 1 := ⟨⟨(br_W0_in (i := 713) (by decide +kernel) (by decide +kernel)), mwX5_moreOf.1.1, mwX5_moreOf.1.2⟩, mwX5_moreOf.2⟩
theorem mwX5_tryIt : (Cond.initialized mX5_tryIt.1.cls ∈ br_W0 ∧ Cond.code mX5_tryIt.1 mX5_tryIt.2.1 mX5_tryIt.2.2.1 mX5_tryIt.2.2.2 ∈ br_W0) ∧ (Cond.instanceMethod mX5_tryIt.1 ∈ br_W0 ∧ Cond.selects mX5_tryIt.1.cls mX5_tryIt.1 mX5_tryIt.1 ∈ br_W0) ∧ (mX5_tryIt.1.cls ≠ "java/lang/invoke/MethodHandle" ∧ mX5_tryIt.1.cls ≠ "java/lang/invoke/VarHandle" ∧ (parseMethodDescriptor mX5_tryIt.1.desc).map (fun d => d.parameters.length) = some 3) ∧ mX5_tryIt.2.2.1 ≤ 10 := ⟨⟨(br_W0_in (i := 43) (by decide +kernel) (by decide +kernel)), (br_W0_in (i := 720) (by decide +kernel) (by decide +kernel))⟩, ⟨(br_W0_in (i := 718) (by decide +kernel) (by decide +kernel)), (br_W0_in (i := 719) (by decide +kernel) (by decide +kernel))⟩, ⟨by decide +kernel, by decide +kernel, by decide +kernel⟩, by decide⟩
theorem vcL_80 : br_vc RL 80 mX5_tryIt 3 := ⟨⟨(br_W0_in (i := 717) (by decide +kernel) (by decide +kernel)), mwX5_tryIt.1.1, mwX5_tryIt.1.2⟩, mwX5_tryIt.2⟩
theorem mwX5_forget : (Cond.initialized mX5_forget.1.cls ∈ br_W0 ∧ Cond.code mX5_forget.1 mX5_forget.2.1 mX5_forget.2.2.1 mX5_forget.2.2.2 ∈ br_W0) ∧ (Cond.instanceMethod mX5_forget.1 ∈ br_W0 ∧ Cond.selects mX5_forget.1.cls mX5_forget.1 mX5_forget.1 ∈ br_W0) ∧ (mX5_forget.1.cls ≠ "java/lang/invoke/MethodHandle" ∧ mX5_forget.1.cls ≠ "java/lang/invoke/VarHandle" ∧ (parseMethodDescriptor mX5_forget.1.desc).map (fun d => d.parameters.length) = some 0) ∧ mX5_forget.2.2.1 ≤ 10 := ⟨⟨(br_W0_in (i := 43) (by decide +kernel) (by decide +kernel)), (br_W0_in (i := 724) (by decide +kernel) (by decide +kernel))⟩, ⟨(br_W0_in (i := 722) (by decide +kernel) (by decide +kernel)), (br_W0_in (i := 723) (by decide +kernel) (by decide +kernel))⟩, ⟨by decide +kernel, by decide +kernel, by decide +kernel⟩, by decide⟩
theorem vcL_84 : br_vc RL 84 mX5_forget 0 := ⟨⟨(br_W0_in (i := 721) (by decide +kernel) (by decide +kernel)), mwX5_forget.1.1, mwX5_forget.1.2⟩, mwX5_forget.2⟩
theorem mwX5_meets : (Cond.initialized mX5_meets.1.cls ∈ br_W0 ∧ Cond.code mX5_meets.1 mX5_meets.2.1 mX5_meets.2.2.1 mX5_meets.2.2.2 ∈ br_W0) ∧ (Cond.instanceMethod mX5_meets.1 ∈ br_W0 ∧ Cond.selects mX5_meets.1.cls mX5_meets.1 mX5_meets.1 ∈ br_W0) ∧ (mX5_meets.1.cls ≠ "java/lang/invoke/MethodHandle" ∧ mX5_meets.1.cls ≠ "java/lang/invoke/VarHandle" ∧ (parseMethodDescriptor mX5_meets.1.desc).map (fun d => d.parameters.length) = some 3) ∧ mX5_meets.2.2.1 ≤ 10 := ⟨⟨(br_W0_in (i := 43) (by decide +kernel) (by decide +kernel)), (br_W0_in (i := 728) (by decide +kernel) (by decide +kernel))⟩, ⟨(br_W0_in (i := 726) (by decide +kernel) (by decide +kernel)), (br_W0_in (i := 727) (by decide +kernel) (by decide +kernel))⟩, ⟨by decide +kernel, by decide +kernel, by decide +kernel⟩, by decide⟩
theorem vcL_89 : br_vc RL 89 mX5_meets 3 := ⟨⟨(br_W0_in (i := 725) (by decide +kernel) (by decide +kernel)), mwX5_meets.1.1, mwX5_meets.1.2⟩, mwX5_meets.2⟩
theorem mwX5_draw : (Cond.initialized mX5_draw.1.cls ∈ br_W0 ∧ Cond.code mX5_draw.1 mX5_draw.2.1 mX5_draw.2.2.1 mX5_draw.2.2.2 ∈ br_W0) ∧ (Cond.instanceMethod mX5_draw.1 ∈ br_W0 ∧ Cond.selects mX5_draw.1.cls mX5_draw.1 mX5_draw.1 ∈ br_W0) ∧ (mX5_draw.1.cls ≠ "java/lang/invoke/MethodHandle" ∧ mX5_draw.1.cls ≠ "java/lang/invoke/VarHandle" ∧ (parseMethodDescriptor mX5_draw.1.desc).map (fun d => d.parameters.length) = some 1) ∧ mX5_draw.2.2.1 ≤ 10 := ⟨⟨(br_W0_in (i := 43) (by decide +kernel) (by decide +kernel)), (br_W0_in (i := 734) (by decide +kernel) (by decide +kernel))⟩, ⟨(br_W0_in (i := 733) (by decide +kernel) (by decide +kernel)), (br_W0_in (i := 31) (by decide +kernel) (by decide +kernel))⟩, ⟨by decide +kernel, by decide +kernel, by decide +kernel⟩, by decide⟩
theorem vcX5_191 : br_vc RX5 191 mX5_draw 1 := ⟨⟨(br_W0_in (i := 731) (by decide +kernel) (by decide +kernel)), mwX5_draw.1.1, mwX5_draw.1.2⟩, mwX5_draw.2⟩
theorem mwX5_image : (Cond.initialized mX5_image.1.cls ∈ br_W0 ∧ Cond.code mX5_image.1 mX5_image.2.1 mX5_image.2.2.1 mX5_image.2.2.2 ∈ br_W0) ∧ (Cond.instanceMethod mX5_image.1 ∈ br_W0 ∧ Cond.selects mX5_image.1.cls mX5_image.1 mX5_image.1 ∈ br_W0) ∧ (mX5_image.1.cls ≠ "java/lang/invoke/MethodHandle" ∧ mX5_image.1.cls ≠ "java/lang/invoke/VarHandle" ∧ (parseMethodDescriptor mX5_image.1.desc).map (fun d => d.parameters.length) = some 0) ∧ mX5_image.2.2.1 ≤ 10 := ⟨⟨(br_W0_in (i := 43) (by decide +kernel) (by decide +kernel)), (br_W0_in (i := 742) (by decide +kernel) (by decide +kernel))⟩, ⟨(br_W0_in (i := 740) (by decide +kernel) (by decide +kernel)), (br_W0_in (i := 741) (by decide +kernel) (by decide +kernel))⟩, ⟨by decide +kernel, by decide +kernel, by decide +kernel⟩, by decide⟩
theorem vcL_93 : br_vc RL 93 mX5_image 0 := ⟨⟨(br_W0_in (i := 739) (by decide +kernel) (by decide +kernel)), mwX5_image.1.1, mwX5_image.1.2⟩, mwX5_image.2⟩
theorem mwX5_restore : (Cond.initialized mX5_restore.1.cls ∈ br_W0 ∧ Cond.code mX5_restore.1 mX5_restore.2.1 mX5_restore.2.2.1 mX5_restore.2.2.2 ∈ br_W0) ∧ (Cond.instanceMethod mX5_restore.1 ∈ br_W0 ∧ Cond.selects mX5_restore.1.cls mX5_restore.1 mX5_restore.1 ∈ br_W0) ∧ (mX5_restore.1.cls ≠ "java/lang/invoke/MethodHandle" ∧ mX5_restore.1.cls ≠ "java/lang/invoke/VarHandle" ∧ (parseMethodDescriptor mX5_restore.1.desc).map (fun d => d.parameters.length) = some 0) ∧ mX5_restore.2.2.1 ≤ 10 := ⟨⟨(br_W0_in (i := 43) (by decide +kernel) (by decide +kernel)), (br_W0_in (i := 746) (by decide +kernel) (by decide +kernel))⟩, ⟨(br_W0_in (i := 744) (by decide +kernel) (by decide +kernel)), (br_W0_in (i := 745) (by decide +kernel) (by decide +kernel))⟩, ⟨by decide +kernel, by decide +kernel, by decide +kernel⟩, by decide⟩
theorem vcL_97 : br_vc RL 97 mX5_restore 0 := ⟨⟨(br_W0_in (i := 743) (by decide +kernel) (by decide +kernel)), mwX5_restore.1.1, mwX5_restore.1.2⟩, mwX5_restore.2⟩
theorem mwX5_count : (Cond.initialized mX5_count.1.cls ∈ br_W0 ∧ Cond.code mX5_count.1 mX5_count.2.1 mX5_count.2.2.1 mX5_count.2.2.2 ∈ br_W0) ∧ (Cond.instanceMethod mX5_count.1 ∈ br_W0 ∧ Cond.selects mX5_count.1.cls mX5_count.1 mX5_count.1 ∈ br_W0) ∧ (mX5_count.1.cls ≠ "java/lang/invoke/MethodHandle" ∧ mX5_count.1.cls ≠ "java/lang/invoke/VarHandle" ∧ (parseMethodDescriptor mX5_count.1.desc).map (fun d => d.parameters.length) = some 1) ∧ mX5_count.2.2.1 ≤ 10 := ⟨⟨(br_W0_in (i := 43) (by decide +kernel) (by decide +kernel)), (br_W0_in (i := 750) (by decide +kernel) (by decide +kernel))⟩, ⟨(br_W0_in (i := 748) (by decide +kernel) (by decide +kernel)), (br_W0_in (i := 749) (by decide +kernel) (by decide +kernel))⟩, ⟨by decide +kernel, by decide +kernel, by decide +kernel⟩, by decide⟩
theorem vcL_101 : br_vc RL 101 mX5_count 1 := ⟨⟨(br_W0_in (i := 747) (by decide +kernel) (by decide +kernel)), mwX5_count.1.1, mwX5_count.1.2⟩, mwX5_count.2⟩
theorem mwX5_countOf : (Cond.initialized mX5_countOf.1.cls ∈ br_W0 ∧ Cond.code mX5_countOf.1 mX5_countOf.2.1 mX5_countOf.2.2.1 mX5_countOf.2.2.2 ∈ br_W0) ∧ (Cond.instanceMethod mX5_countOf.1 ∈ br_W0 ∧ Cond.selects mX5_countOf.1.cls mX5_countOf.1 mX5_countOf.1 ∈ br_W0) ∧ (mX5_countOf.1.cls ≠ "java/lang/invoke/MethodHandle" ∧ mX5_countOf.1.cls ≠ "java/lang/invoke/VarHandle" ∧ (parseMethodDescriptor mX5_countOf.1.desc).map (fun d => d.parameters.length) = some 1) ∧ mX5_countOf.2.2.1 ≤ 10 := ⟨⟨(br_W0_in (i := 43) (by decide +kernel) (by decide +kernel)), (br_W0_in (i := 754) (by decide +kernel) (by decide +kernel))⟩, ⟨(br_W0_in (i := 753) (by decide +kernel) (by decide +kernel)), (br_W0_in (i := 32) (by decide +kernel) (by decide +kernel))⟩, ⟨by decide +kernel, by decide +kernel, by decide +kernel⟩, by decide⟩
theorem vcX5_212 : br_vc RX5 212 mX5_countOf 1 := ⟨⟨(br_W0_in (i := 751) (by decide +kernel) (by decide +kernel)), mwX5_countOf.1.1, mwX5_countOf.1.2⟩, mwX5_countOf.2⟩
theorem mwX5_flightsIn : (Cond.initialized mX5_flightsIn.1.cls ∈ br_W0 ∧ Cond.code mX5_flightsIn.1 mX5_flightsIn.2.1 mX5_flightsIn.2.2.1 mX5_flightsIn.2.2.2 ∈ br_W0) ∧ (Cond.instanceMethod mX5_flightsIn.1 ∈ br_W0 ∧ Cond.selects mX5_flightsIn.1.cls mX5_flightsIn.1 mX5_flightsIn.1 ∈ br_W0) ∧ (mX5_flightsIn.1.cls ≠ "java/lang/invoke/MethodHandle" ∧ mX5_flightsIn.1.cls ≠ "java/lang/invoke/VarHandle" ∧ (parseMethodDescriptor mX5_flightsIn.1.desc).map (fun d => d.parameters.length) = some 0) ∧ mX5_flightsIn.2.2.1 ≤ 10 := ⟨⟨(br_W0_in (i := 43) (by decide +kernel) (by decide +kernel)), (br_W0_in (i := 758) (by decide +kernel) (by decide +kernel))⟩, ⟨(br_W0_in (i := 757) (by decide +kernel) (by decide +kernel)), (br_W0_in (i := 33) (by decide +kernel) (by decide +kernel))⟩, ⟨by decide +kernel, by decide +kernel, by decide +kernel⟩, by decide⟩
theorem vcX5_203 : br_vc RX5 203 mX5_flightsIn 0 := ⟨⟨(br_W0_in (i := 755) (by decide +kernel) (by decide +kernel)), mwX5_flightsIn.1.1, mwX5_flightsIn.1.2⟩, mwX5_flightsIn.2⟩
theorem mwX5_turnsIn : (Cond.initialized mX5_turnsIn.1.cls ∈ br_W0 ∧ Cond.code mX5_turnsIn.1 mX5_turnsIn.2.1 mX5_turnsIn.2.2.1 mX5_turnsIn.2.2.2 ∈ br_W0) ∧ (Cond.instanceMethod mX5_turnsIn.1 ∈ br_W0 ∧ Cond.selects mX5_turnsIn.1.cls mX5_turnsIn.1 mX5_turnsIn.1 ∈ br_W0) ∧ (mX5_turnsIn.1.cls ≠ "java/lang/invoke/MethodHandle" ∧ mX5_turnsIn.1.cls ≠ "java/lang/invoke/VarHandle" ∧ (parseMethodDescriptor mX5_turnsIn.1.desc).map (fun d => d.parameters.length) = some 0) ∧ mX5_turnsIn.2.2.1 ≤ 10 := ⟨⟨(br_W0_in (i := 43) (by decide +kernel) (by decide +kernel)), (br_W0_in (i := 762) (by decide +kernel) (by decide +kernel))⟩, ⟨(br_W0_in (i := 761) (by decide +kernel) (by decide +kernel)), (br_W0_in (i := 34) (by decide +kernel) (by decide +kernel))⟩, ⟨by decide +kernel, by decide +kernel, by decide +kernel⟩, by decide⟩
theorem vcX5_206 : br_vc RX5 206 mX5_turnsIn 0 := ⟨⟨(br_W0_in (i := 759) (by decide +kernel) (by decide +kernel)), mwX5_turnsIn.1.1, mwX5_turnsIn.1.2⟩, mwX5_turnsIn.2⟩
theorem mwX5_joinsIn : (Cond.initialized mX5_joinsIn.1.cls ∈ br_W0 ∧ Cond.code mX5_joinsIn.1 mX5_joinsIn.2.1 mX5_joinsIn.2.2.1 mX5_joinsIn.2.2.2 ∈ br_W0) ∧ (Cond.instanceMethod mX5_joinsIn.1 ∈ br_W0 ∧ Cond.selects mX5_joinsIn.1.cls mX5_joinsIn.1 mX5_joinsIn.1 ∈ br_W0) ∧ (mX5_joinsIn.1.cls ≠ "java/lang/invoke/MethodHandle" ∧ mX5_joinsIn.1.cls ≠ "java/lang/invoke/VarHandle" ∧ (parseMethodDescriptor mX5_joinsIn.1.desc).map (fun d => d.parameters.length) = some 0) ∧ mX5_joinsIn.2.2.1 ≤ 10 := ⟨⟨(br_W0_in (i := 43) (by decide +kernel) (by decide +kernel)), (br_W0_in (i := 766) (by decide +kernel) (by decide +kernel))⟩, ⟨(br_W0_in (i := 765) (by decide +kernel) (by decide +kernel)), (br_W0_in (i := 35) (by decide +kernel) (by decide +kernel))⟩, ⟨by decide +kernel, by decide +kernel, by decide +kernel⟩, by decide⟩
theorem vcX5_209 : br_vc RX5 209 mX5_joinsIn 0 := ⟨⟨(br_W0_in (i := 763) (by decide +kernel) (by decide +kernel)), mwX5_joinsIn.1.1, mwX5_joinsIn.1.2⟩, mwX5_joinsIn.2⟩
theorem mwX5_digest : (Cond.initialized mX5_digest.1.cls ∈ br_W0 ∧ Cond.code mX5_digest.1 mX5_digest.2.1 mX5_digest.2.2.1 mX5_digest.2.2.2 ∈ br_W0) ∧ (Cond.instanceMethod mX5_digest.1 ∈ br_W0 ∧ Cond.selects mX5_digest.1.cls mX5_digest.1 mX5_digest.1 ∈ br_W0) ∧ (mX5_digest.1.cls ≠ "java/lang/invoke/MethodHandle" ∧ mX5_digest.1.cls ≠ "java/lang/invoke/VarHandle" ∧ (parseMethodDescriptor mX5_digest.1.desc).map (fun d => d.parameters.length) = some 0) ∧ mX5_digest.2.2.1 ≤ 10 := ⟨⟨(br_W0_in (i := 43) (by decide +kernel) (by decide +kernel)), (br_W0_in (i := 770) (by decide +kernel) (by decide +kernel))⟩, ⟨(br_W0_in (i := 768) (by decide +kernel) (by decide +kernel)), (br_W0_in (i := 769) (by decide +kernel) (by decide +kernel))⟩, ⟨by decide +kernel, by decide +kernel, by decide +kernel⟩, by decide⟩
theorem vcL_106 : br_vc RL 106 mX5_digest 0 := ⟨⟨(br_W0_in (i := 767) (by decide +kernel) (by decide +kernel)), mwX5_digest.1.1, mwX5_digest.1.2⟩, mwX5_digest.2⟩
theorem mwX5_say : (Cond.initialized mX5_say.1.cls ∈ br_W0 ∧ Cond.code mX5_say.1 mX5_say.2.1 mX5_say.2.2.1 mX5_say.2.2.2 ∈ br_W0) ∧ (Cond.instanceMethod mX5_say.1 ∈ br_W0 ∧ Cond.selects mX5_say.1.cls mX5_say.1 mX5_say.1 ∈ br_W0) ∧ (mX5_say.1.cls ≠ "java/lang/invoke/MethodHandle" ∧ mX5_say.1.cls ≠ "java/lang/invoke/VarHandle" ∧ (parseMethodDescriptor mX5_say.1.desc).map (fun d => d.parameters.length) = some 1) ∧ mX5_say.2.2.1 ≤ 10 := ⟨⟨(br_W0_in (i := 43) (by decide +kernel) (by decide +kernel)), (br_W0_in (i := 775) (by decide +kernel) (by decide +kernel))⟩, ⟨(br_W0_in (i := 774) (by decide +kernel) (by decide +kernel)), (br_W0_in (i := 36) (by decide +kernel) (by decide +kernel))⟩, ⟨by decide +kernel, by decide +kernel, by decide +kernel⟩, by decide⟩
theorem vcX5_223 : br_vc RX5 223 mX5_say 1 := ⟨⟨(br_W0_in (i := 772) (by decide +kernel) (by decide +kernel)), mwX5_say.1.1, mwX5_say.1.2⟩, mwX5_say.2⟩
theorem klX4_218 : Cond.constantLong RX4 218 (1103515245) ∈ br_W0 := (br_W0_in (i := 426) (by decide +kernel) (by decide +kernel))
theorem klX4_220 : Cond.constantLong RX4 220 (12345) ∈ br_W0 := (br_W0_in (i := 427) (by decide +kernel) (by decide +kernel))
theorem klX4_222 : Cond.constantLong RX4 222 (2147483648) ∈ br_W0 := (br_W0_in (i := 428) (by decide +kernel) (by decide +kernel))
theorem kiX4_224 : Cond.constant RX4 224 (65536) ∈ br_W0 := (br_W0_in (i := 432) (by decide +kernel) (by decide +kernel))
theorem klX4_191 : Cond.constantLong RX4 191 (1033) ∈ br_W0 := (br_W0_in (i := 458) (by decide +kernel) (by decide +kernel))
theorem klX4_216 : Cond.constantLong RX4 216 (31) ∈ br_W0 := (br_W0_in (i := 463) (by decide +kernel) (by decide +kernel))
theorem klX5_38 : Cond.constantLong RX5 38 (126) ∈ br_W0 := (br_W0_in (i := 543) (by decide +kernel) (by decide +kernel))
theorem klX5_51 : Cond.constantLong RX5 51 (49) ∈ br_W0 := (br_W0_in (i := 565) (by decide +kernel) (by decide +kernel))
theorem klX5_53 : Cond.constantLong RX5 53 (57) ∈ br_W0 := (br_W0_in (i := 566) (by decide +kernel) (by decide +kernel))
theorem klX5_102 : Cond.constantLong RX5 102 (4) ∈ br_W0 := (br_W0_in (i := 610) (by decide +kernel) (by decide +kernel))
theorem klX5_144 : Cond.constantLong RX5 144 (-100) ∈ br_W0 := (br_W0_in (i := 681) (by decide +kernel) (by decide +kernel))
theorem klX5_146 : Cond.constantLong RX5 146 (100) ∈ br_W0 := (br_W0_in (i := 682) (by decide +kernel) (by decide +kernel))
theorem klX5_158 : Cond.constantLong RX5 158 (3) ∈ br_W0 := (br_W0_in (i := 695) (by decide +kernel) (by decide +kernel))
theorem klX5_160 : Cond.constantLong RX5 160 (10) ∈ br_W0 := (br_W0_in (i := 696) (by decide +kernel) (by decide +kernel))
theorem klX5_162 : Cond.constantLong RX5 162 (12) ∈ br_W0 := (br_W0_in (i := 697) (by decide +kernel) (by decide +kernel))
theorem klX5_187 : Cond.constantLong RX5 187 (60) ∈ br_W0 := (br_W0_in (i := 729) (by decide +kernel) (by decide +kernel))
theorem klX5_189 : Cond.constantLong RX5 189 (2) ∈ br_W0 := (br_W0_in (i := 730) (by decide +kernel) (by decide +kernel))
theorem klX5_177 : Cond.constantLong RX5 177 (1103515245) ∈ br_W0 := (br_W0_in (i := 735) (by decide +kernel) (by decide +kernel))
theorem klX5_182 : Cond.constantLong RX5 182 (12345) ∈ br_W0 := (br_W0_in (i := 736) (by decide +kernel) (by decide +kernel))
theorem klX5_184 : Cond.constantLong RX5 184 (2147483647) ∈ br_W0 := (br_W0_in (i := 737) (by decide +kernel) (by decide +kernel))
theorem kiX5_186 : Cond.constant RX5 186 (65536) ∈ br_W0 := (br_W0_in (i := 738) (by decide +kernel) (by decide +kernel))
theorem klX5_221 : Cond.constantLong RX5 221 (1033) ∈ br_W0 := (br_W0_in (i := 771) (by decide +kernel) (by decide +kernel))
theorem klX5_215 : Cond.constantLong RX5 215 (31) ∈ br_W0 := (br_W0_in (i := 776) (by decide +kernel) (by decide +kernel))
end
section
theorem dX0_init_0 : decode cX0_init 0 = .ok (.aload_n 0, 1) := by decide +kernel
theorem dX0_init_1 : decode cX0_init 1 = .ok (.invokespecial 3, 3) := by decide +kernel
theorem dX0_init_4 : decode cX0_init 4 = .ok (.aload_n 0, 1) := by decide +kernel
theorem dX0_init_5 : decode cX0_init 5 = .ok (.bipush 7, 2) := by decide +kernel
theorem dX0_init_7 : decode cX0_init 7 = .ok (.newarray .int, 2) := by decide +kernel
theorem dX0_init_9 : decode cX0_init 9 = .ok (.putfield 9, 3) := by decide +kernel
theorem dX0_init_12 : decode cX0_init 12 = .ok (.aload_n 0, 1) := by decide +kernel
theorem dX0_init_13 : decode cX0_init 13 = .ok (.bipush 7, 2) := by decide +kernel
theorem dX0_init_15 : decode cX0_init 15 = .ok (.newarray .int, 2) := by decide +kernel
theorem dX0_init_17 : decode cX0_init 17 = .ok (.putfield 15, 3) := by decide +kernel
theorem dX0_init_20 : decode cX0_init 20 = .ok (.aload_n 0, 1) := by decide +kernel
theorem dX0_init_21 : decode cX0_init 21 = .ok (.bipush 7, 2) := by decide +kernel
theorem dX0_init_23 : decode cX0_init 23 = .ok (.newarray .int, 2) := by decide +kernel
theorem dX0_init_25 : decode cX0_init 25 = .ok (.putfield 18, 3) := by decide +kernel
theorem dX0_init_28 : decode cX0_init 28 = .ok (.aload_n 0, 1) := by decide +kernel
theorem dX0_init_29 : decode cX0_init 29 = .ok (.iconst 0, 1) := by decide +kernel
theorem dX0_init_30 : decode cX0_init 30 = .ok (.putfield 21, 3) := by decide +kernel
theorem dX0_init_33 : decode cX0_init 33 = .ok (.return_, 1) := by decide +kernel
theorem dX0_read_0 : decode cX0_read 0 = .ok (.aload_n 0, 1) := by decide +kernel
theorem dX0_read_1 : decode cX0_read 1 = .ok (.iconst 0, 1) := by decide +kernel
theorem dX0_read_2 : decode cX0_read 2 = .ok (.putfield 21, 3) := by decide +kernel
theorem dX0_read_5 : decode cX0_read 5 = .ok (.iconst 0, 1) := by decide +kernel
theorem dX0_read_6 : decode cX0_read 6 = .ok (.istore_n 2, 1) := by decide +kernel
theorem dX0_read_7 : decode cX0_read 7 = .ok (.iload_n 2, 1) := by decide +kernel
theorem dX0_read_8 : decode cX0_read 8 = .ok (.aload_n 1, 1) := by decide +kernel
theorem dX0_read_9 : decode cX0_read 9 = .ok (.getfield 25, 3) := by decide +kernel
theorem dX0_read_12 : decode cX0_read 12 = .ok (.if_icmp .ge 83, 3) := by decide +kernel
theorem dX0_read_15 : decode cX0_read 15 = .ok (.aload_n 0, 1) := by decide +kernel
theorem dX0_read_16 : decode cX0_read 16 = .ok (.getfield 21, 3) := by decide +kernel
theorem dX0_read_19 : decode cX0_read 19 = .ok (.bipush 7, 2) := by decide +kernel
theorem dX0_read_21 : decode cX0_read 21 = .ok (.if_icmp .ge 74, 3) := by decide +kernel
theorem dX0_read_24 : decode cX0_read 24 = .ok (.aload_n 0, 1) := by decide +kernel
theorem dX0_read_25 : decode cX0_read 25 = .ok (.getfield 9, 3) := by decide +kernel
theorem dX0_read_28 : decode cX0_read 28 = .ok (.aload_n 0, 1) := by decide +kernel
theorem dX0_read_29 : decode cX0_read 29 = .ok (.getfield 21, 3) := by decide +kernel
theorem dX0_read_32 : decode cX0_read 32 = .ok (.aload_n 1, 1) := by decide +kernel
theorem dX0_read_33 : decode cX0_read 33 = .ok (.iload_n 2, 1) := by decide +kernel
theorem dX0_read_34 : decode cX0_read 34 = .ok (.invokevirtual 30, 3) := by decide +kernel
theorem dX0_read_37 : decode cX0_read 37 = .ok (.invokestatic 34, 3) := by decide +kernel
theorem dX0_read_40 : decode cX0_read 40 = .ok (.iastore, 1) := by decide +kernel
theorem dX0_read_41 : decode cX0_read 41 = .ok (.aload_n 0, 1) := by decide +kernel
theorem dX0_read_42 : decode cX0_read 42 = .ok (.getfield 15, 3) := by decide +kernel
theorem dX0_read_45 : decode cX0_read 45 = .ok (.aload_n 0, 1) := by decide +kernel
theorem dX0_read_46 : decode cX0_read 46 = .ok (.getfield 21, 3) := by decide +kernel
theorem dX0_read_49 : decode cX0_read 49 = .ok (.aload_n 1, 1) := by decide +kernel
theorem dX0_read_50 : decode cX0_read 50 = .ok (.iload_n 2, 1) := by decide +kernel
theorem dX0_read_51 : decode cX0_read 51 = .ok (.iconst 1, 1) := by decide +kernel
theorem dX0_read_52 : decode cX0_read 52 = .ok (.iadd, 1) := by decide +kernel
theorem dX0_read_53 : decode cX0_read 53 = .ok (.invokevirtual 30, 3) := by decide +kernel
theorem dX0_read_56 : decode cX0_read 56 = .ok (.bipush 48, 2) := by decide +kernel
theorem dX0_read_58 : decode cX0_read 58 = .ok (.isub, 1) := by decide +kernel
theorem dX0_read_59 : decode cX0_read 59 = .ok (.iastore, 1) := by decide +kernel
theorem dX0_read_60 : decode cX0_read 60 = .ok (.aload_n 0, 1) := by decide +kernel
theorem dX0_read_61 : decode cX0_read 61 = .ok (.getfield 18, 3) := by decide +kernel
theorem dX0_read_64 : decode cX0_read 64 = .ok (.aload_n 0, 1) := by decide +kernel
theorem dX0_read_65 : decode cX0_read 65 = .ok (.getfield 21, 3) := by decide +kernel
theorem dX0_read_68 : decode cX0_read 68 = .ok (.aload_n 1, 1) := by decide +kernel
theorem dX0_read_69 : decode cX0_read 69 = .ok (.iload_n 2, 1) := by decide +kernel
theorem dX0_read_70 : decode cX0_read 70 = .ok (.iconst 2, 1) := by decide +kernel
theorem dX0_read_71 : decode cX0_read 71 = .ok (.iadd, 1) := by decide +kernel
theorem dX0_read_72 : decode cX0_read 72 = .ok (.invokevirtual 30, 3) := by decide +kernel
theorem dX0_read_75 : decode cX0_read 75 = .ok (.bipush 48, 2) := by decide +kernel
theorem dX0_read_77 : decode cX0_read 77 = .ok (.isub, 1) := by decide +kernel
theorem dX0_read_78 : decode cX0_read 78 = .ok (.iastore, 1) := by decide +kernel
theorem dX0_read_79 : decode cX0_read 79 = .ok (.aload_n 0, 1) := by decide +kernel
theorem dX0_read_80 : decode cX0_read 80 = .ok (.dup, 1) := by decide +kernel
theorem dX0_read_81 : decode cX0_read 81 = .ok (.getfield 21, 3) := by decide +kernel
theorem dX0_read_84 : decode cX0_read 84 = .ok (.iconst 1, 1) := by decide +kernel
theorem dX0_read_85 : decode cX0_read 85 = .ok (.iadd, 1) := by decide +kernel
theorem dX0_read_86 : decode cX0_read 86 = .ok (.putfield 21, 3) := by decide +kernel
theorem dX0_read_89 : decode cX0_read 89 = .ok (.iinc 2 4, 3) := by decide +kernel
theorem dX0_read_92 : decode cX0_read 92 = .ok (.goto (-85), 3) := by decide +kernel
theorem dX0_read_95 : decode cX0_read 95 = .ok (.return_, 1) := by decide +kernel
theorem dX0_has_0 : decode cX0_has 0 = .ok (.iload_n 1, 1) := by decide +kernel
theorem dX0_has_1 : decode cX0_has 1 = .ok (.ifCond .lt 15, 3) := by decide +kernel
theorem dX0_has_4 : decode cX0_has 4 = .ok (.iload_n 1, 1) := by decide +kernel
theorem dX0_has_5 : decode cX0_has 5 = .ok (.aload_n 0, 1) := by decide +kernel
theorem dX0_has_6 : decode cX0_has 6 = .ok (.getfield 21, 3) := by decide +kernel
theorem dX0_has_9 : decode cX0_has 9 = .ok (.if_icmp .ge 7, 3) := by decide +kernel
theorem dX0_has_12 : decode cX0_has 12 = .ok (.iconst 1, 1) := by decide +kernel
theorem dX0_has_13 : decode cX0_has 13 = .ok (.goto 4, 3) := by decide +kernel
theorem dX0_has_16 : decode cX0_has 16 = .ok (.iconst 0, 1) := by decide +kernel
theorem dX0_has_17 : decode cX0_has 17 = .ok (.ireturn, 1) := by decide +kernel
theorem dX0_kindOf_0 : decode cX0_kindOf 0 = .ok (.aload_n 0, 1) := by decide +kernel
theorem dX0_kindOf_1 : decode cX0_kindOf 1 = .ok (.iload_n 1, 1) := by decide +kernel
theorem dX0_kindOf_2 : decode cX0_kindOf 2 = .ok (.invokevirtual 37, 3) := by decide +kernel
theorem dX0_kindOf_5 : decode cX0_kindOf 5 = .ok (.ifCond .eq 12, 3) := by decide +kernel
theorem dX0_kindOf_8 : decode cX0_kindOf 8 = .ok (.aload_n 0, 1) := by decide +kernel
theorem dX0_kindOf_9 : decode cX0_kindOf 9 = .ok (.getfield 9, 3) := by decide +kernel
theorem dX0_kindOf_12 : decode cX0_kindOf 12 = .ok (.iload_n 1, 1) := by decide +kernel
theorem dX0_kindOf_13 : decode cX0_kindOf 13 = .ok (.iaload, 1) := by decide +kernel
theorem dX0_kindOf_14 : decode cX0_kindOf 14 = .ok (.goto 4, 3) := by decide +kernel
theorem dX0_kindOf_17 : decode cX0_kindOf 17 = .ok (.iconst (-1), 1) := by decide +kernel
theorem dX0_kindOf_18 : decode cX0_kindOf 18 = .ok (.ireturn, 1) := by decide +kernel
theorem dX0_worthOf_0 : decode cX0_worthOf 0 = .ok (.aload_n 0, 1) := by decide +kernel
theorem dX0_worthOf_1 : decode cX0_worthOf 1 = .ok (.iload_n 1, 1) := by decide +kernel
theorem dX0_worthOf_2 : decode cX0_worthOf 2 = .ok (.invokevirtual 37, 3) := by decide +kernel
theorem dX0_worthOf_5 : decode cX0_worthOf 5 = .ok (.ifCond .eq 12, 3) := by decide +kernel
theorem dX0_worthOf_8 : decode cX0_worthOf 8 = .ok (.aload_n 0, 1) := by decide +kernel
theorem dX0_worthOf_9 : decode cX0_worthOf 9 = .ok (.getfield 15, 3) := by decide +kernel
theorem dX0_worthOf_12 : decode cX0_worthOf 12 = .ok (.iload_n 1, 1) := by decide +kernel
theorem dX0_worthOf_13 : decode cX0_worthOf 13 = .ok (.iaload, 1) := by decide +kernel
theorem dX0_worthOf_14 : decode cX0_worthOf 14 = .ok (.goto 4, 3) := by decide +kernel
theorem dX0_worthOf_17 : decode cX0_worthOf 17 = .ok (.iconst 0, 1) := by decide +kernel
theorem dX0_worthOf_18 : decode cX0_worthOf 18 = .ok (.ireturn, 1) := by decide +kernel
theorem dX0_sureOf_0 : decode cX0_sureOf 0 = .ok (.aload_n 0, 1) := by decide +kernel
theorem dX0_sureOf_1 : decode cX0_sureOf 1 = .ok (.iload_n 1, 1) := by decide +kernel
theorem dX0_sureOf_2 : decode cX0_sureOf 2 = .ok (.invokevirtual 37, 3) := by decide +kernel
theorem dX0_sureOf_5 : decode cX0_sureOf 5 = .ok (.ifCond .eq 12, 3) := by decide +kernel
theorem dX0_sureOf_8 : decode cX0_sureOf 8 = .ok (.aload_n 0, 1) := by decide +kernel
theorem dX0_sureOf_9 : decode cX0_sureOf 9 = .ok (.getfield 18, 3) := by decide +kernel
theorem dX0_sureOf_12 : decode cX0_sureOf 12 = .ok (.iload_n 1, 1) := by decide +kernel
theorem dX0_sureOf_13 : decode cX0_sureOf 13 = .ok (.iaload, 1) := by decide +kernel
theorem dX0_sureOf_14 : decode cX0_sureOf 14 = .ok (.goto 4, 3) := by decide +kernel
theorem dX0_sureOf_17 : decode cX0_sureOf 17 = .ok (.iconst 0, 1) := by decide +kernel
theorem dX0_sureOf_18 : decode cX0_sureOf 18 = .ok (.ireturn, 1) := by decide +kernel
theorem dX0_isA_0 : decode cX0_isA 0 = .ok (.aload_n 0, 1) := by decide +kernel
theorem dX0_isA_1 : decode cX0_isA 1 = .ok (.iload_n 1, 1) := by decide +kernel
theorem dX0_isA_2 : decode cX0_isA 2 = .ok (.invokevirtual 37, 3) := by decide +kernel
theorem dX0_isA_5 : decode cX0_isA 5 = .ok (.ifCond .ne 5, 3) := by decide +kernel
theorem dX0_isA_8 : decode cX0_isA 8 = .ok (.iconst 0, 1) := by decide +kernel
theorem dX0_isA_9 : decode cX0_isA 9 = .ok (.ireturn, 1) := by decide +kernel
theorem dX0_isA_10 : decode cX0_isA 10 = .ok (.aload_n 0, 1) := by decide +kernel
theorem dX0_isA_11 : decode cX0_isA 11 = .ok (.getfield 9, 3) := by decide +kernel
theorem dX0_isA_14 : decode cX0_isA 14 = .ok (.iload_n 1, 1) := by decide +kernel
theorem dX0_isA_15 : decode cX0_isA 15 = .ok (.iaload, 1) := by decide +kernel
theorem dX0_isA_16 : decode cX0_isA 16 = .ok (.istore_n 3, 1) := by decide +kernel
theorem dX0_isA_17 : decode cX0_isA 17 = .ok (.iload_n 2, 1) := by decide +kernel
theorem dX0_isA_18 : decode cX0_isA 18 = .ok (.ifCond .eq 18, 3) := by decide +kernel
theorem dX0_isA_21 : decode cX0_isA 21 = .ok (.iload_n 2, 1) := by decide +kernel
theorem dX0_isA_22 : decode cX0_isA 22 = .ok (.iload_n 3, 1) := by decide +kernel
theorem dX0_isA_23 : decode cX0_isA 23 = .ok (.if_icmp .eq 13, 3) := by decide +kernel
theorem dX0_isA_26 : decode cX0_isA 26 = .ok (.iload_n 2, 1) := by decide +kernel
theorem dX0_isA_27 : decode cX0_isA 27 = .ok (.iconst 1, 1) := by decide +kernel
theorem dX0_isA_28 : decode cX0_isA 28 = .ok (.if_icmp .ne 12, 3) := by decide +kernel
theorem dX0_isA_31 : decode cX0_isA 31 = .ok (.iload_n 3, 1) := by decide +kernel
theorem dX0_isA_32 : decode cX0_isA 32 = .ok (.iconst 4, 1) := by decide +kernel
theorem dX0_isA_33 : decode cX0_isA 33 = .ok (.if_icmp .ne 7, 3) := by decide +kernel
theorem dX0_isA_36 : decode cX0_isA 36 = .ok (.iconst 1, 1) := by decide +kernel
theorem dX0_isA_37 : decode cX0_isA 37 = .ok (.goto 4, 3) := by decide +kernel
theorem dX0_isA_40 : decode cX0_isA 40 = .ok (.iconst 0, 1) := by decide +kernel
theorem dX0_isA_41 : decode cX0_isA 41 = .ok (.ireturn, 1) := by decide +kernel
theorem dX1_init_0 : decode cX1_init 0 = .ok (.aload_n 0, 1) := by decide +kernel
theorem dX1_init_1 : decode cX1_init 1 = .ok (.invokespecial 3, 3) := by decide +kernel
theorem dX1_init_4 : decode cX1_init 4 = .ok (.aload_n 0, 1) := by decide +kernel
theorem dX1_init_5 : decode cX1_init 5 = .ok (.bipush 30, 2) := by decide +kernel
theorem dX1_init_7 : decode cX1_init 7 = .ok (.newarray .int, 2) := by decide +kernel
theorem dX1_init_9 : decode cX1_init 9 = .ok (.putfield 9, 3) := by decide +kernel
theorem dX1_init_12 : decode cX1_init 12 = .ok (.aload_n 0, 1) := by decide +kernel
theorem dX1_init_13 : decode cX1_init 13 = .ok (.iconst 0, 1) := by decide +kernel
theorem dX1_init_14 : decode cX1_init 14 = .ok (.putfield 15, 3) := by decide +kernel
theorem dX1_init_17 : decode cX1_init 17 = .ok (.return_, 1) := by decide +kernel
theorem dX1_add_0 : decode cX1_add 0 = .ok (.aload_n 0, 1) := by decide +kernel
theorem dX1_add_1 : decode cX1_add 1 = .ok (.getfield 15, 3) := by decide +kernel
theorem dX1_add_4 : decode cX1_add 4 = .ok (.bipush 30, 2) := by decide +kernel
theorem dX1_add_6 : decode cX1_add 6 = .ok (.if_icmp .ge 23, 3) := by decide +kernel
theorem dX1_add_9 : decode cX1_add 9 = .ok (.aload_n 0, 1) := by decide +kernel
theorem dX1_add_10 : decode cX1_add 10 = .ok (.getfield 9, 3) := by decide +kernel
theorem dX1_add_13 : decode cX1_add 13 = .ok (.aload_n 0, 1) := by decide +kernel
theorem dX1_add_14 : decode cX1_add 14 = .ok (.getfield 15, 3) := by decide +kernel
theorem dX1_add_17 : decode cX1_add 17 = .ok (.iload_n 1, 1) := by decide +kernel
theorem dX1_add_18 : decode cX1_add 18 = .ok (.iastore, 1) := by decide +kernel
theorem dX1_add_19 : decode cX1_add 19 = .ok (.aload_n 0, 1) := by decide +kernel
theorem dX1_add_20 : decode cX1_add 20 = .ok (.dup, 1) := by decide +kernel
theorem dX1_add_21 : decode cX1_add 21 = .ok (.getfield 15, 3) := by decide +kernel
theorem dX1_add_24 : decode cX1_add 24 = .ok (.iconst 1, 1) := by decide +kernel
theorem dX1_add_25 : decode cX1_add 25 = .ok (.iadd, 1) := by decide +kernel
theorem dX1_add_26 : decode cX1_add 26 = .ok (.putfield 15, 3) := by decide +kernel
theorem dX1_add_29 : decode cX1_add 29 = .ok (.return_, 1) := by decide +kernel
theorem dX1_codeAt_0 : decode cX1_codeAt 0 = .ok (.iload_n 1, 1) := by decide +kernel
theorem dX1_codeAt_1 : decode cX1_codeAt 1 = .ok (.ifCond .lt 20, 3) := by decide +kernel
theorem dX1_codeAt_4 : decode cX1_codeAt 4 = .ok (.iload_n 1, 1) := by decide +kernel
theorem dX1_codeAt_5 : decode cX1_codeAt 5 = .ok (.aload_n 0, 1) := by decide +kernel
theorem dX1_codeAt_6 : decode cX1_codeAt 6 = .ok (.getfield 15, 3) := by decide +kernel
theorem dX1_codeAt_9 : decode cX1_codeAt 9 = .ok (.if_icmp .ge 12, 3) := by decide +kernel
theorem dX1_codeAt_12 : decode cX1_codeAt 12 = .ok (.aload_n 0, 1) := by decide +kernel
theorem dX1_codeAt_13 : decode cX1_codeAt 13 = .ok (.getfield 9, 3) := by decide +kernel
theorem dX1_codeAt_16 : decode cX1_codeAt 16 = .ok (.iload_n 1, 1) := by decide +kernel
theorem dX1_codeAt_17 : decode cX1_codeAt 17 = .ok (.iaload, 1) := by decide +kernel
theorem dX1_codeAt_18 : decode cX1_codeAt 18 = .ok (.goto 4, 3) := by decide +kernel
theorem dX1_codeAt_21 : decode cX1_codeAt 21 = .ok (.iconst (-1), 1) := by decide +kernel
theorem dX1_codeAt_22 : decode cX1_codeAt 22 = .ok (.ireturn, 1) := by decide +kernel
theorem dX1_firstFault_0 : decode cX1_firstFault 0 = .ok (.iconst 0, 1) := by decide +kernel
theorem dX1_firstFault_1 : decode cX1_firstFault 1 = .ok (.istore_n 1, 1) := by decide +kernel
theorem dX1_firstFault_2 : decode cX1_firstFault 2 = .ok (.iload_n 1, 1) := by decide +kernel
theorem dX1_firstFault_3 : decode cX1_firstFault 3 = .ok (.aload_n 0, 1) := by decide +kernel
theorem dX1_firstFault_4 : decode cX1_firstFault 4 = .ok (.getfield 15, 3) := by decide +kernel
theorem dX1_firstFault_7 : decode cX1_firstFault 7 = .ok (.if_icmp .ge 24, 3) := by decide +kernel
theorem dX1_firstFault_10 : decode cX1_firstFault 10 = .ok (.iload_n 1, 1) := by decide +kernel
theorem dX1_firstFault_11 : decode cX1_firstFault 11 = .ok (.aload_n 0, 1) := by decide +kernel
theorem dX1_firstFault_12 : decode cX1_firstFault 12 = .ok (.getfield 9, 3) := by decide +kernel
theorem dX1_firstFault_15 : decode cX1_firstFault 15 = .ok (.iload_n 1, 1) := by decide +kernel
theorem dX1_firstFault_16 : decode cX1_firstFault 16 = .ok (.iaload, 1) := by decide +kernel
theorem dX1_firstFault_17 : decode cX1_firstFault 17 = .ok (.invokestatic 19, 3) := by decide +kernel
theorem dX1_firstFault_20 : decode cX1_firstFault 20 = .ok (.ifCond .ne 5, 3) := by decide +kernel
theorem dX1_firstFault_23 : decode cX1_firstFault 23 = .ok (.iload_n 1, 1) := by decide +kernel
theorem dX1_firstFault_24 : decode cX1_firstFault 24 = .ok (.ireturn, 1) := by decide +kernel
theorem dX1_firstFault_25 : decode cX1_firstFault 25 = .ok (.iinc 1 1, 3) := by decide +kernel
theorem dX1_firstFault_28 : decode cX1_firstFault 28 = .ok (.goto (-26), 3) := by decide +kernel
theorem dX1_firstFault_31 : decode cX1_firstFault 31 = .ok (.aload_n 0, 1) := by decide +kernel
theorem dX1_firstFault_32 : decode cX1_firstFault 32 = .ok (.getfield 15, 3) := by decide +kernel
theorem dX1_firstFault_35 : decode cX1_firstFault 35 = .ok (.ireturn, 1) := by decide +kernel
theorem dX1_tellsGym_0 : decode cX1_tellsGym 0 = .ok (.aload_n 0, 1) := by decide +kernel
theorem dX1_tellsGym_1 : decode cX1_tellsGym 1 = .ok (.getfield 15, 3) := by decide +kernel
theorem dX1_tellsGym_4 : decode cX1_tellsGym 4 = .ok (.iconst 4, 1) := by decide +kernel
theorem dX1_tellsGym_5 : decode cX1_tellsGym 5 = .ok (.irem, 1) := by decide +kernel
theorem dX1_tellsGym_6 : decode cX1_tellsGym 6 = .ok (.iconst 3, 1) := by decide +kernel
theorem dX1_tellsGym_7 : decode cX1_tellsGym 7 = .ok (.if_icmp .ne 7, 3) := by decide +kernel
theorem dX1_tellsGym_10 : decode cX1_tellsGym 10 = .ok (.iconst 1, 1) := by decide +kernel
theorem dX1_tellsGym_11 : decode cX1_tellsGym 11 = .ok (.goto 4, 3) := by decide +kernel
theorem dX1_tellsGym_14 : decode cX1_tellsGym 14 = .ok (.iconst 0, 1) := by decide +kernel
theorem dX1_tellsGym_15 : decode cX1_tellsGym 15 = .ok (.istore_n 1, 1) := by decide +kernel
theorem dX1_tellsGym_16 : decode cX1_tellsGym 16 = .ok (.aload_n 0, 1) := by decide +kernel
theorem dX1_tellsGym_17 : decode cX1_tellsGym 17 = .ok (.getfield 15, 3) := by decide +kernel
theorem dX1_tellsGym_20 : decode cX1_tellsGym 20 = .ok (.bipush 7, 2) := by decide +kernel
theorem dX1_tellsGym_22 : decode cX1_tellsGym 22 = .ok (.if_icmp .lt 22, 3) := by decide +kernel
theorem dX1_tellsGym_25 : decode cX1_tellsGym 25 = .ok (.iload_n 1, 1) := by decide +kernel
theorem dX1_tellsGym_26 : decode cX1_tellsGym 26 = .ok (.ifCond .eq 18, 3) := by decide +kernel
theorem dX1_tellsGym_29 : decode cX1_tellsGym 29 = .ok (.aload_n 0, 1) := by decide +kernel
theorem dX1_tellsGym_30 : decode cX1_tellsGym 30 = .ok (.invokevirtual 23, 3) := by decide +kernel
theorem dX1_tellsGym_33 : decode cX1_tellsGym 33 = .ok (.aload_n 0, 1) := by decide +kernel
theorem dX1_tellsGym_34 : decode cX1_tellsGym 34 = .ok (.getfield 15, 3) := by decide +kernel
theorem dX1_tellsGym_37 : decode cX1_tellsGym 37 = .ok (.if_icmp .ne 7, 3) := by decide +kernel
theorem dX1_tellsGym_40 : decode cX1_tellsGym 40 = .ok (.iconst 1, 1) := by decide +kernel
theorem dX1_tellsGym_41 : decode cX1_tellsGym 41 = .ok (.goto 4, 3) := by decide +kernel
theorem dX1_tellsGym_44 : decode cX1_tellsGym 44 = .ok (.iconst 0, 1) := by decide +kernel
theorem dX1_tellsGym_45 : decode cX1_tellsGym 45 = .ok (.ireturn, 1) := by decide +kernel
theorem dX1_fits_0 : decode cX1_fits 0 = .ok (.iload_n 0, 1) := by decide +kernel
theorem dX1_fits_1 : decode cX1_fits 1 = .ok (.bipush 27, 2) := by decide +kernel
theorem dX1_fits_3 : decode cX1_fits 3 = .ok (.if_icmp .lt 5, 3) := by decide +kernel
theorem dX1_fits_6 : decode cX1_fits 6 = .ok (.iconst 0, 1) := by decide +kernel
theorem dX1_fits_7 : decode cX1_fits 7 = .ok (.ireturn, 1) := by decide +kernel
theorem dX1_fits_8 : decode cX1_fits 8 = .ok (.iload_n 0, 1) := by decide +kernel
theorem dX1_fits_9 : decode cX1_fits 9 = .ok (.iconst 4, 1) := by decide +kernel
theorem dX1_fits_10 : decode cX1_fits 10 = .ok (.irem, 1) := by decide +kernel
theorem dX1_fits_11 : decode cX1_fits 11 = .ok (.istore_n 2, 1) := by decide +kernel
theorem dX1_fits_12 : decode cX1_fits 12 = .ok (.iload_n 2, 1) := by decide +kernel
theorem dX1_fits_13 : decode cX1_fits 13 = .ok (.ifCond .ne 17, 3) := by decide +kernel
theorem dX1_fits_16 : decode cX1_fits 16 = .ok (.iload_n 1, 1) := by decide +kernel
theorem dX1_fits_17 : decode cX1_fits 17 = .ok (.invokestatic 27, 3) := by decide +kernel
theorem dX1_fits_20 : decode cX1_fits 20 = .ok (.iconst (-1), 1) := by decide +kernel
theorem dX1_fits_21 : decode cX1_fits 21 = .ok (.if_icmp .eq 7, 3) := by decide +kernel
theorem dX1_fits_24 : decode cX1_fits 24 = .ok (.iconst 1, 1) := by decide +kernel
theorem dX1_fits_25 : decode cX1_fits 25 = .ok (.goto 4, 3) := by decide +kernel
theorem dX1_fits_28 : decode cX1_fits 28 = .ok (.iconst 0, 1) := by decide +kernel
theorem dX1_fits_29 : decode cX1_fits 29 = .ok (.ireturn, 1) := by decide +kernel
theorem dX1_fits_30 : decode cX1_fits 30 = .ok (.iload_n 2, 1) := by decide +kernel
theorem dX1_fits_31 : decode cX1_fits 31 = .ok (.iconst 3, 1) := by decide +kernel
theorem dX1_fits_32 : decode cX1_fits 32 = .ok (.if_icmp .ne 15, 3) := by decide +kernel
theorem dX1_fits_35 : decode cX1_fits 35 = .ok (.iload_n 1, 1) := by decide +kernel
theorem dX1_fits_36 : decode cX1_fits 36 = .ok (.bipush 44, 2) := by decide +kernel
theorem dX1_fits_38 : decode cX1_fits 38 = .ok (.if_icmp .ne 7, 3) := by decide +kernel
theorem dX1_fits_41 : decode cX1_fits 41 = .ok (.iconst 1, 1) := by decide +kernel
theorem dX1_fits_42 : decode cX1_fits 42 = .ok (.goto 4, 3) := by decide +kernel
theorem dX1_fits_45 : decode cX1_fits 45 = .ok (.iconst 0, 1) := by decide +kernel
theorem dX1_fits_46 : decode cX1_fits 46 = .ok (.ireturn, 1) := by decide +kernel
theorem dX1_fits_47 : decode cX1_fits 47 = .ok (.iload_n 1, 1) := by decide +kernel
theorem dX1_fits_48 : decode cX1_fits 48 = .ok (.bipush 49, 2) := by decide +kernel
theorem dX1_fits_50 : decode cX1_fits 50 = .ok (.if_icmp .lt 13, 3) := by decide +kernel
theorem dX1_fits_53 : decode cX1_fits 53 = .ok (.iload_n 1, 1) := by decide +kernel
theorem dX1_fits_54 : decode cX1_fits 54 = .ok (.bipush 57, 2) := by decide +kernel
theorem dX1_fits_56 : decode cX1_fits 56 = .ok (.if_icmp .gt 7, 3) := by decide +kernel
theorem dX1_fits_59 : decode cX1_fits 59 = .ok (.iconst 1, 1) := by decide +kernel
theorem dX1_fits_60 : decode cX1_fits 60 = .ok (.goto 4, 3) := by decide +kernel
theorem dX1_fits_63 : decode cX1_fits 63 = .ok (.iconst 0, 1) := by decide +kernel
theorem dX1_fits_64 : decode cX1_fits 64 = .ok (.ireturn, 1) := by decide +kernel
theorem dX1_kindByLetter_0 : decode cX1_kindByLetter 0 = .ok (.iload_n 0, 1) := by decide +kernel
theorem dX1_kindByLetter_1 : decode cX1_kindByLetter 1 = .ok (.tableswitch 85 102 116 #[77, 85, 81, 85, 85, 85, 85, 85, 85, 85, 75, 85, 83, 85, 79], 75) := by decide +kernel
theorem dX1_kindByLetter_76 : decode cX1_kindByLetter 76 = .ok (.iconst 0, 1) := by decide +kernel
theorem dX1_kindByLetter_77 : decode cX1_kindByLetter 77 = .ok (.ireturn, 1) := by decide +kernel
theorem dX1_kindByLetter_78 : decode cX1_kindByLetter 78 = .ok (.iconst 1, 1) := by decide +kernel
theorem dX1_kindByLetter_79 : decode cX1_kindByLetter 79 = .ok (.ireturn, 1) := by decide +kernel
theorem dX1_kindByLetter_80 : decode cX1_kindByLetter 80 = .ok (.iconst 2, 1) := by decide +kernel
theorem dX1_kindByLetter_81 : decode cX1_kindByLetter 81 = .ok (.ireturn, 1) := by decide +kernel
theorem dX1_kindByLetter_82 : decode cX1_kindByLetter 82 = .ok (.iconst 3, 1) := by decide +kernel
theorem dX1_kindByLetter_83 : decode cX1_kindByLetter 83 = .ok (.ireturn, 1) := by decide +kernel
theorem dX1_kindByLetter_84 : decode cX1_kindByLetter 84 = .ok (.iconst 4, 1) := by decide +kernel
theorem dX1_kindByLetter_85 : decode cX1_kindByLetter 85 = .ok (.ireturn, 1) := by decide +kernel
theorem dX1_kindByLetter_86 : decode cX1_kindByLetter 86 = .ok (.iconst (-1), 1) := by decide +kernel
theorem dX1_kindByLetter_87 : decode cX1_kindByLetter 87 = .ok (.ireturn, 1) := by decide +kernel
theorem dX2_init_0 : decode cX2_init 0 = .ok (.aload_n 0, 1) := by decide +kernel
theorem dX2_init_1 : decode cX2_init 1 = .ok (.invokespecial 3, 3) := by decide +kernel
theorem dX2_init_4 : decode cX2_init 4 = .ok (.aload_n 0, 1) := by decide +kernel
theorem dX2_init_5 : decode cX2_init 5 = .ok (.iconst 5, 1) := by decide +kernel
theorem dX2_init_6 : decode cX2_init 6 = .ok (.newarray .int, 2) := by decide +kernel
theorem dX2_init_8 : decode cX2_init 8 = .ok (.putfield 9, 3) := by decide +kernel
theorem dX2_init_11 : decode cX2_init 11 = .ok (.aload_n 0, 1) := by decide +kernel
theorem dX2_init_12 : decode cX2_init 12 = .ok (.iconst 0, 1) := by decide +kernel
theorem dX2_init_13 : decode cX2_init 13 = .ok (.putfield 15, 3) := by decide +kernel
theorem dX2_init_16 : decode cX2_init 16 = .ok (.aload_n 0, 1) := by decide +kernel
theorem dX2_init_17 : decode cX2_init 17 = .ok (.aload_n 1, 1) := by decide +kernel
theorem dX2_init_18 : decode cX2_init 18 = .ok (.putfield 19, 3) := by decide +kernel
theorem dX2_init_21 : decode cX2_init 21 = .ok (.return_, 1) := by decide +kernel
theorem dX2_reaches_0 : decode cX2_reaches 0 = .ok (.iload_n 1, 1) := by decide +kernel
theorem dX2_reaches_1 : decode cX2_reaches 1 = .ok (.ifCond .lt 15, 3) := by decide +kernel
theorem dX2_reaches_4 : decode cX2_reaches 4 = .ok (.iload_n 1, 1) := by decide +kernel
theorem dX2_reaches_5 : decode cX2_reaches 5 = .ok (.aload_n 0, 1) := by decide +kernel
theorem dX2_reaches_6 : decode cX2_reaches 6 = .ok (.getfield 15, 3) := by decide +kernel
theorem dX2_reaches_9 : decode cX2_reaches 9 = .ok (.if_icmp .ge 7, 3) := by decide +kernel
theorem dX2_reaches_12 : decode cX2_reaches 12 = .ok (.iconst 1, 1) := by decide +kernel
theorem dX2_reaches_13 : decode cX2_reaches 13 = .ok (.goto 4, 3) := by decide +kernel
theorem dX2_reaches_16 : decode cX2_reaches 16 = .ok (.iconst 0, 1) := by decide +kernel
theorem dX2_reaches_17 : decode cX2_reaches 17 = .ok (.ireturn, 1) := by decide +kernel
theorem dX2_pieceAt_0 : decode cX2_pieceAt 0 = .ok (.aload_n 0, 1) := by decide +kernel
theorem dX2_pieceAt_1 : decode cX2_pieceAt 1 = .ok (.iload_n 1, 1) := by decide +kernel
theorem dX2_pieceAt_2 : decode cX2_pieceAt 2 = .ok (.invokevirtual 23, 3) := by decide +kernel
theorem dX2_pieceAt_5 : decode cX2_pieceAt 5 = .ok (.ifCond .eq 12, 3) := by decide +kernel
theorem dX2_pieceAt_8 : decode cX2_pieceAt 8 = .ok (.aload_n 0, 1) := by decide +kernel
theorem dX2_pieceAt_9 : decode cX2_pieceAt 9 = .ok (.getfield 9, 3) := by decide +kernel
theorem dX2_pieceAt_12 : decode cX2_pieceAt 12 = .ok (.iload_n 1, 1) := by decide +kernel
theorem dX2_pieceAt_13 : decode cX2_pieceAt 13 = .ok (.iaload, 1) := by decide +kernel
theorem dX2_pieceAt_14 : decode cX2_pieceAt 14 = .ok (.goto 4, 3) := by decide +kernel
theorem dX2_pieceAt_17 : decode cX2_pieceAt 17 = .ok (.iconst (-1), 1) := by decide +kernel
theorem dX2_pieceAt_18 : decode cX2_pieceAt 18 = .ok (.ireturn, 1) := by decide +kernel
theorem dX2_placeOf_0 : decode cX2_placeOf 0 = .ok (.iconst 0, 1) := by decide +kernel
theorem dX2_placeOf_1 : decode cX2_placeOf 1 = .ok (.istore_n 2, 1) := by decide +kernel
theorem dX2_placeOf_2 : decode cX2_placeOf 2 = .ok (.iload_n 2, 1) := by decide +kernel
theorem dX2_placeOf_3 : decode cX2_placeOf 3 = .ok (.aload_n 0, 1) := by decide +kernel
theorem dX2_placeOf_4 : decode cX2_placeOf 4 = .ok (.getfield 15, 3) := by decide +kernel
theorem dX2_placeOf_7 : decode cX2_placeOf 7 = .ok (.if_icmp .ge 21, 3) := by decide +kernel
theorem dX2_placeOf_10 : decode cX2_placeOf 10 = .ok (.aload_n 0, 1) := by decide +kernel
theorem dX2_placeOf_11 : decode cX2_placeOf 11 = .ok (.getfield 9, 3) := by decide +kernel
theorem dX2_placeOf_14 : decode cX2_placeOf 14 = .ok (.iload_n 2, 1) := by decide +kernel
theorem dX2_placeOf_15 : decode cX2_placeOf 15 = .ok (.iaload, 1) := by decide +kernel
theorem dX2_placeOf_16 : decode cX2_placeOf 16 = .ok (.iload_n 1, 1) := by decide +kernel
theorem dX2_placeOf_17 : decode cX2_placeOf 17 = .ok (.if_icmp .ne 5, 3) := by decide +kernel
theorem dX2_placeOf_20 : decode cX2_placeOf 20 = .ok (.iload_n 2, 1) := by decide +kernel
theorem dX2_placeOf_21 : decode cX2_placeOf 21 = .ok (.ireturn, 1) := by decide +kernel
theorem dX2_placeOf_22 : decode cX2_placeOf 22 = .ok (.iinc 2 1, 3) := by decide +kernel
theorem dX2_placeOf_25 : decode cX2_placeOf 25 = .ok (.goto (-23), 3) := by decide +kernel
theorem dX2_placeOf_28 : decode cX2_placeOf 28 = .ok (.iconst (-1), 1) := by decide +kernel
theorem dX2_placeOf_29 : decode cX2_placeOf 29 = .ok (.ireturn, 1) := by decide +kernel
theorem dX2_holds_0 : decode cX2_holds 0 = .ok (.aload_n 0, 1) := by decide +kernel
theorem dX2_holds_1 : decode cX2_holds 1 = .ok (.iload_n 1, 1) := by decide +kernel
theorem dX2_holds_2 : decode cX2_holds 2 = .ok (.invokevirtual 27, 3) := by decide +kernel
theorem dX2_holds_5 : decode cX2_holds 5 = .ok (.iconst (-1), 1) := by decide +kernel
theorem dX2_holds_6 : decode cX2_holds 6 = .ok (.if_icmp .eq 7, 3) := by decide +kernel
theorem dX2_holds_9 : decode cX2_holds 9 = .ok (.iconst 1, 1) := by decide +kernel
theorem dX2_holds_10 : decode cX2_holds 10 = .ok (.goto 4, 3) := by decide +kernel
theorem dX2_holds_13 : decode cX2_holds 13 = .ok (.iconst 0, 1) := by decide +kernel
theorem dX2_holds_14 : decode cX2_holds 14 = .ok (.ireturn, 1) := by decide +kernel
theorem dX2_append_0 : decode cX2_append 0 = .ok (.aload_n 0, 1) := by decide +kernel
theorem dX2_append_1 : decode cX2_append 1 = .ok (.getfield 15, 3) := by decide +kernel
theorem dX2_append_4 : decode cX2_append 4 = .ok (.iconst 5, 1) := by decide +kernel
theorem dX2_append_5 : decode cX2_append 5 = .ok (.if_icmp .ge 23, 3) := by decide +kernel
theorem dX2_append_8 : decode cX2_append 8 = .ok (.aload_n 0, 1) := by decide +kernel
theorem dX2_append_9 : decode cX2_append 9 = .ok (.getfield 9, 3) := by decide +kernel
theorem dX2_append_12 : decode cX2_append 12 = .ok (.aload_n 0, 1) := by decide +kernel
theorem dX2_append_13 : decode cX2_append 13 = .ok (.getfield 15, 3) := by decide +kernel
theorem dX2_append_16 : decode cX2_append 16 = .ok (.iload_n 1, 1) := by decide +kernel
theorem dX2_append_17 : decode cX2_append 17 = .ok (.iastore, 1) := by decide +kernel
theorem dX2_append_18 : decode cX2_append 18 = .ok (.aload_n 0, 1) := by decide +kernel
theorem dX2_append_19 : decode cX2_append 19 = .ok (.dup, 1) := by decide +kernel
theorem dX2_append_20 : decode cX2_append 20 = .ok (.getfield 15, 3) := by decide +kernel
theorem dX2_append_23 : decode cX2_append 23 = .ok (.iconst 1, 1) := by decide +kernel
theorem dX2_append_24 : decode cX2_append 24 = .ok (.iadd, 1) := by decide +kernel
theorem dX2_append_25 : decode cX2_append 25 = .ok (.putfield 15, 3) := by decide +kernel
theorem dX2_append_28 : decode cX2_append 28 = .ok (.return_, 1) := by decide +kernel
theorem dX2_removeAt_0 : decode cX2_removeAt 0 = .ok (.aload_n 0, 1) := by decide +kernel
theorem dX2_removeAt_1 : decode cX2_removeAt 1 = .ok (.iload_n 1, 1) := by decide +kernel
theorem dX2_removeAt_2 : decode cX2_removeAt 2 = .ok (.invokevirtual 23, 3) := by decide +kernel
theorem dX2_removeAt_5 : decode cX2_removeAt 5 = .ok (.ifCond .ne 5, 3) := by decide +kernel
theorem dX2_removeAt_8 : decode cX2_removeAt 8 = .ok (.iconst (-1), 1) := by decide +kernel
theorem dX2_removeAt_9 : decode cX2_removeAt 9 = .ok (.ireturn, 1) := by decide +kernel
theorem dX2_removeAt_10 : decode cX2_removeAt 10 = .ok (.aload_n 0, 1) := by decide +kernel
theorem dX2_removeAt_11 : decode cX2_removeAt 11 = .ok (.getfield 9, 3) := by decide +kernel
theorem dX2_removeAt_14 : decode cX2_removeAt 14 = .ok (.iload_n 1, 1) := by decide +kernel
theorem dX2_removeAt_15 : decode cX2_removeAt 15 = .ok (.iaload, 1) := by decide +kernel
theorem dX2_removeAt_16 : decode cX2_removeAt 16 = .ok (.istore_n 2, 1) := by decide +kernel
theorem dX2_removeAt_17 : decode cX2_removeAt 17 = .ok (.iload_n 1, 1) := by decide +kernel
theorem dX2_removeAt_18 : decode cX2_removeAt 18 = .ok (.iconst 1, 1) := by decide +kernel
theorem dX2_removeAt_19 : decode cX2_removeAt 19 = .ok (.iadd, 1) := by decide +kernel
theorem dX2_removeAt_20 : decode cX2_removeAt 20 = .ok (.istore_n 3, 1) := by decide +kernel
theorem dX2_removeAt_21 : decode cX2_removeAt 21 = .ok (.iload_n 3, 1) := by decide +kernel
theorem dX2_removeAt_22 : decode cX2_removeAt 22 = .ok (.aload_n 0, 1) := by decide +kernel
theorem dX2_removeAt_23 : decode cX2_removeAt 23 = .ok (.getfield 15, 3) := by decide +kernel
theorem dX2_removeAt_26 : decode cX2_removeAt 26 = .ok (.if_icmp .ge 23, 3) := by decide +kernel
theorem dX2_removeAt_29 : decode cX2_removeAt 29 = .ok (.aload_n 0, 1) := by decide +kernel
theorem dX2_removeAt_30 : decode cX2_removeAt 30 = .ok (.getfield 9, 3) := by decide +kernel
theorem dX2_removeAt_33 : decode cX2_removeAt 33 = .ok (.iload_n 3, 1) := by decide +kernel
theorem dX2_removeAt_34 : decode cX2_removeAt 34 = .ok (.iconst 1, 1) := by decide +kernel
theorem dX2_removeAt_35 : decode cX2_removeAt 35 = .ok (.isub, 1) := by decide +kernel
theorem dX2_removeAt_36 : decode cX2_removeAt 36 = .ok (.aload_n 0, 1) := by decide +kernel
theorem dX2_removeAt_37 : decode cX2_removeAt 37 = .ok (.getfield 9, 3) := by decide +kernel
theorem dX2_removeAt_40 : decode cX2_removeAt 40 = .ok (.iload_n 3, 1) := by decide +kernel
theorem dX2_removeAt_41 : decode cX2_removeAt 41 = .ok (.iaload, 1) := by decide +kernel
theorem dX2_removeAt_42 : decode cX2_removeAt 42 = .ok (.iastore, 1) := by decide +kernel
theorem dX2_removeAt_43 : decode cX2_removeAt 43 = .ok (.iinc 3 1, 3) := by decide +kernel
theorem dX2_removeAt_46 : decode cX2_removeAt 46 = .ok (.goto (-25), 3) := by decide +kernel
theorem dX2_removeAt_49 : decode cX2_removeAt 49 = .ok (.aload_n 0, 1) := by decide +kernel
theorem dX2_removeAt_50 : decode cX2_removeAt 50 = .ok (.dup, 1) := by decide +kernel
theorem dX2_removeAt_51 : decode cX2_removeAt 51 = .ok (.getfield 15, 3) := by decide +kernel
theorem dX2_removeAt_54 : decode cX2_removeAt 54 = .ok (.iconst 1, 1) := by decide +kernel
theorem dX2_removeAt_55 : decode cX2_removeAt 55 = .ok (.isub, 1) := by decide +kernel
theorem dX2_removeAt_56 : decode cX2_removeAt 56 = .ok (.putfield 15, 3) := by decide +kernel
theorem dX2_removeAt_59 : decode cX2_removeAt 59 = .ok (.iload_n 2, 1) := by decide +kernel
theorem dX2_removeAt_60 : decode cX2_removeAt 60 = .ok (.ireturn, 1) := by decide +kernel
theorem dX2_exchange_0 : decode cX2_exchange 0 = .ok (.aload_n 0, 1) := by decide +kernel
theorem dX2_exchange_1 : decode cX2_exchange 1 = .ok (.iload_n 1, 1) := by decide +kernel
theorem dX2_exchange_2 : decode cX2_exchange 2 = .ok (.invokevirtual 23, 3) := by decide +kernel
theorem dX2_exchange_5 : decode cX2_exchange 5 = .ok (.ifCond .eq 37, 3) := by decide +kernel
theorem dX2_exchange_8 : decode cX2_exchange 8 = .ok (.aload_n 0, 1) := by decide +kernel
theorem dX2_exchange_9 : decode cX2_exchange 9 = .ok (.iload_n 2, 1) := by decide +kernel
theorem dX2_exchange_10 : decode cX2_exchange 10 = .ok (.invokevirtual 23, 3) := by decide +kernel
theorem dX2_exchange_13 : decode cX2_exchange 13 = .ok (.ifCond .eq 29, 3) := by decide +kernel
theorem dX2_exchange_16 : decode cX2_exchange 16 = .ok (.aload_n 0, 1) := by decide +kernel
theorem dX2_exchange_17 : decode cX2_exchange 17 = .ok (.getfield 9, 3) := by decide +kernel
theorem dX2_exchange_20 : decode cX2_exchange 20 = .ok (.iload_n 1, 1) := by decide +kernel
theorem dX2_exchange_21 : decode cX2_exchange 21 = .ok (.iaload, 1) := by decide +kernel
theorem dX2_exchange_22 : decode cX2_exchange 22 = .ok (.istore_n 3, 1) := by decide +kernel
theorem dX2_exchange_23 : decode cX2_exchange 23 = .ok (.aload_n 0, 1) := by decide +kernel
theorem dX2_exchange_24 : decode cX2_exchange 24 = .ok (.getfield 9, 3) := by decide +kernel
theorem dX2_exchange_27 : decode cX2_exchange 27 = .ok (.iload_n 1, 1) := by decide +kernel
theorem dX2_exchange_28 : decode cX2_exchange 28 = .ok (.aload_n 0, 1) := by decide +kernel
theorem dX2_exchange_29 : decode cX2_exchange 29 = .ok (.getfield 9, 3) := by decide +kernel
theorem dX2_exchange_32 : decode cX2_exchange 32 = .ok (.iload_n 2, 1) := by decide +kernel
theorem dX2_exchange_33 : decode cX2_exchange 33 = .ok (.iaload, 1) := by decide +kernel
theorem dX2_exchange_34 : decode cX2_exchange 34 = .ok (.iastore, 1) := by decide +kernel
theorem dX2_exchange_35 : decode cX2_exchange 35 = .ok (.aload_n 0, 1) := by decide +kernel
theorem dX2_exchange_36 : decode cX2_exchange 36 = .ok (.getfield 9, 3) := by decide +kernel
theorem dX2_exchange_39 : decode cX2_exchange 39 = .ok (.iload_n 2, 1) := by decide +kernel
theorem dX2_exchange_40 : decode cX2_exchange 40 = .ok (.iload_n 3, 1) := by decide +kernel
theorem dX2_exchange_41 : decode cX2_exchange 41 = .ok (.iastore, 1) := by decide +kernel
theorem dX2_exchange_42 : decode cX2_exchange 42 = .ok (.return_, 1) := by decide +kernel
theorem dX2_copyFrom_0 : decode cX2_copyFrom 0 = .ok (.aload_n 0, 1) := by decide +kernel
theorem dX2_copyFrom_1 : decode cX2_copyFrom 1 = .ok (.aload_n 1, 1) := by decide +kernel
theorem dX2_copyFrom_2 : decode cX2_copyFrom 2 = .ok (.getfield 15, 3) := by decide +kernel
theorem dX2_copyFrom_5 : decode cX2_copyFrom 5 = .ok (.putfield 15, 3) := by decide +kernel
theorem dX2_copyFrom_8 : decode cX2_copyFrom 8 = .ok (.iconst 0, 1) := by decide +kernel
theorem dX2_copyFrom_9 : decode cX2_copyFrom 9 = .ok (.istore_n 2, 1) := by decide +kernel
theorem dX2_copyFrom_10 : decode cX2_copyFrom 10 = .ok (.iload_n 2, 1) := by decide +kernel
theorem dX2_copyFrom_11 : decode cX2_copyFrom 11 = .ok (.aload_n 0, 1) := by decide +kernel
theorem dX2_copyFrom_12 : decode cX2_copyFrom 12 = .ok (.getfield 15, 3) := by decide +kernel
theorem dX2_copyFrom_15 : decode cX2_copyFrom 15 = .ok (.if_icmp .ge 21, 3) := by decide +kernel
theorem dX2_copyFrom_18 : decode cX2_copyFrom 18 = .ok (.aload_n 0, 1) := by decide +kernel
theorem dX2_copyFrom_19 : decode cX2_copyFrom 19 = .ok (.getfield 9, 3) := by decide +kernel
theorem dX2_copyFrom_22 : decode cX2_copyFrom 22 = .ok (.iload_n 2, 1) := by decide +kernel
theorem dX2_copyFrom_23 : decode cX2_copyFrom 23 = .ok (.aload_n 1, 1) := by decide +kernel
theorem dX2_copyFrom_24 : decode cX2_copyFrom 24 = .ok (.getfield 9, 3) := by decide +kernel
theorem dX2_copyFrom_27 : decode cX2_copyFrom 27 = .ok (.iload_n 2, 1) := by decide +kernel
theorem dX2_copyFrom_28 : decode cX2_copyFrom 28 = .ok (.iaload, 1) := by decide +kernel
theorem dX2_copyFrom_29 : decode cX2_copyFrom 29 = .ok (.iastore, 1) := by decide +kernel
theorem dX2_copyFrom_30 : decode cX2_copyFrom 30 = .ok (.iinc 2 1, 3) := by decide +kernel
theorem dX2_copyFrom_33 : decode cX2_copyFrom 33 = .ok (.goto (-23), 3) := by decide +kernel
theorem dX2_copyFrom_36 : decode cX2_copyFrom 36 = .ok (.return_, 1) := by decide +kernel
theorem dX2_howMany_0 : decode cX2_howMany 0 = .ok (.iconst 0, 1) := by decide +kernel
theorem dX2_howMany_1 : decode cX2_howMany 1 = .ok (.istore_n 2, 1) := by decide +kernel
theorem dX2_howMany_2 : decode cX2_howMany 2 = .ok (.iconst 0, 1) := by decide +kernel
theorem dX2_howMany_3 : decode cX2_howMany 3 = .ok (.istore_n 3, 1) := by decide +kernel
theorem dX2_howMany_4 : decode cX2_howMany 4 = .ok (.iload_n 3, 1) := by decide +kernel
theorem dX2_howMany_5 : decode cX2_howMany 5 = .ok (.aload_n 0, 1) := by decide +kernel
theorem dX2_howMany_6 : decode cX2_howMany 6 = .ok (.getfield 15, 3) := by decide +kernel
theorem dX2_howMany_9 : decode cX2_howMany 9 = .ok (.if_icmp .ge 34, 3) := by decide +kernel
theorem dX2_howMany_12 : decode cX2_howMany 12 = .ok (.iload_n 2, 1) := by decide +kernel
theorem dX2_howMany_13 : decode cX2_howMany 13 = .ok (.aload_n 0, 1) := by decide +kernel
theorem dX2_howMany_14 : decode cX2_howMany 14 = .ok (.getfield 19, 3) := by decide +kernel
theorem dX2_howMany_17 : decode cX2_howMany 17 = .ok (.aload_n 0, 1) := by decide +kernel
theorem dX2_howMany_18 : decode cX2_howMany 18 = .ok (.getfield 9, 3) := by decide +kernel
theorem dX2_howMany_21 : decode cX2_howMany 21 = .ok (.iload_n 3, 1) := by decide +kernel
theorem dX2_howMany_22 : decode cX2_howMany 22 = .ok (.iaload, 1) := by decide +kernel
theorem dX2_howMany_23 : decode cX2_howMany 23 = .ok (.iload_n 1, 1) := by decide +kernel
theorem dX2_howMany_24 : decode cX2_howMany 24 = .ok (.invokevirtual 31, 3) := by decide +kernel
theorem dX2_howMany_27 : decode cX2_howMany 27 = .ok (.ifCond .eq 7, 3) := by decide +kernel
theorem dX2_howMany_30 : decode cX2_howMany 30 = .ok (.iconst 1, 1) := by decide +kernel
theorem dX2_howMany_31 : decode cX2_howMany 31 = .ok (.goto 4, 3) := by decide +kernel
theorem dX2_howMany_34 : decode cX2_howMany 34 = .ok (.iconst 0, 1) := by decide +kernel
theorem dX2_howMany_35 : decode cX2_howMany 35 = .ok (.iadd, 1) := by decide +kernel
theorem dX2_howMany_36 : decode cX2_howMany 36 = .ok (.istore_n 2, 1) := by decide +kernel
theorem dX2_howMany_37 : decode cX2_howMany 37 = .ok (.iinc 3 1, 3) := by decide +kernel
theorem dX2_howMany_40 : decode cX2_howMany 40 = .ok (.goto (-36), 3) := by decide +kernel
theorem dX2_howMany_43 : decode cX2_howMany 43 = .ok (.iload_n 2, 1) := by decide +kernel
theorem dX2_howMany_44 : decode cX2_howMany 44 = .ok (.ireturn, 1) := by decide +kernel
theorem dX2_joins_0 : decode cX2_joins 0 = .ok (.iconst 0, 1) := by decide +kernel
theorem dX2_joins_1 : decode cX2_joins 1 = .ok (.istore_n 1, 1) := by decide +kernel
theorem dX2_joins_2 : decode cX2_joins 2 = .ok (.iconst 0, 1) := by decide +kernel
theorem dX2_joins_3 : decode cX2_joins 3 = .ok (.istore_n 2, 1) := by decide +kernel
theorem dX2_joins_4 : decode cX2_joins 4 = .ok (.iload_n 2, 1) := by decide +kernel
theorem dX2_joins_5 : decode cX2_joins 5 = .ok (.aload_n 0, 1) := by decide +kernel
theorem dX2_joins_6 : decode cX2_joins 6 = .ok (.getfield 15, 3) := by decide +kernel
theorem dX2_joins_9 : decode cX2_joins 9 = .ok (.if_icmp .ge 25, 3) := by decide +kernel
theorem dX2_joins_12 : decode cX2_joins 12 = .ok (.iload_n 1, 1) := by decide +kernel
theorem dX2_joins_13 : decode cX2_joins 13 = .ok (.aload_n 0, 1) := by decide +kernel
theorem dX2_joins_14 : decode cX2_joins 14 = .ok (.iload_n 2, 1) := by decide +kernel
theorem dX2_joins_15 : decode cX2_joins 15 = .ok (.invokevirtual 37, 3) := by decide +kernel
theorem dX2_joins_18 : decode cX2_joins 18 = .ok (.ifCond .le 7, 3) := by decide +kernel
theorem dX2_joins_21 : decode cX2_joins 21 = .ok (.iconst 1, 1) := by decide +kernel
theorem dX2_joins_22 : decode cX2_joins 22 = .ok (.goto 4, 3) := by decide +kernel
theorem dX2_joins_25 : decode cX2_joins 25 = .ok (.iconst 0, 1) := by decide +kernel
theorem dX2_joins_26 : decode cX2_joins 26 = .ok (.iadd, 1) := by decide +kernel
theorem dX2_joins_27 : decode cX2_joins 27 = .ok (.istore_n 1, 1) := by decide +kernel
theorem dX2_joins_28 : decode cX2_joins 28 = .ok (.iinc 2 1, 3) := by decide +kernel
theorem dX2_joins_31 : decode cX2_joins 31 = .ok (.goto (-27), 3) := by decide +kernel
theorem dX2_joins_34 : decode cX2_joins 34 = .ok (.iload_n 1, 1) := by decide +kernel
theorem dX2_joins_35 : decode cX2_joins 35 = .ok (.ireturn, 1) := by decide +kernel
theorem dX2_joinWorth_0 : decode cX2_joinWorth 0 = .ok (.aload_n 0, 1) := by decide +kernel
theorem dX2_joinWorth_1 : decode cX2_joinWorth 1 = .ok (.iload_n 1, 1) := by decide +kernel
theorem dX2_joinWorth_2 : decode cX2_joinWorth 2 = .ok (.invokevirtual 40, 3) := by decide +kernel
theorem dX2_joinWorth_5 : decode cX2_joinWorth 5 = .ok (.istore_n 2, 1) := by decide +kernel
theorem dX2_joinWorth_6 : decode cX2_joinWorth 6 = .ok (.aload_n 0, 1) := by decide +kernel
theorem dX2_joinWorth_7 : decode cX2_joinWorth 7 = .ok (.iload_n 1, 1) := by decide +kernel
theorem dX2_joinWorth_8 : decode cX2_joinWorth 8 = .ok (.iconst 1, 1) := by decide +kernel
theorem dX2_joinWorth_9 : decode cX2_joinWorth 9 = .ok (.iadd, 1) := by decide +kernel
theorem dX2_joinWorth_10 : decode cX2_joinWorth 10 = .ok (.invokevirtual 40, 3) := by decide +kernel
theorem dX2_joinWorth_13 : decode cX2_joinWorth 13 = .ok (.istore_n 3, 1) := by decide +kernel
theorem dX2_joinWorth_14 : decode cX2_joinWorth 14 = .ok (.aload_n 0, 1) := by decide +kernel
theorem dX2_joinWorth_15 : decode cX2_joinWorth 15 = .ok (.getfield 19, 3) := by decide +kernel
theorem dX2_joinWorth_18 : decode cX2_joinWorth 18 = .ok (.iload_n 2, 1) := by decide +kernel
theorem dX2_joinWorth_19 : decode cX2_joinWorth 19 = .ok (.iconst 1, 1) := by decide +kernel
theorem dX2_joinWorth_20 : decode cX2_joinWorth 20 = .ok (.invokevirtual 31, 3) := by decide +kernel
theorem dX2_joinWorth_23 : decode cX2_joinWorth 23 = .ok (.ifCond .eq 27, 3) := by decide +kernel
theorem dX2_joinWorth_26 : decode cX2_joinWorth 26 = .ok (.aload_n 0, 1) := by decide +kernel
theorem dX2_joinWorth_27 : decode cX2_joinWorth 27 = .ok (.getfield 19, 3) := by decide +kernel
theorem dX2_joinWorth_30 : decode cX2_joinWorth 30 = .ok (.iload_n 3, 1) := by decide +kernel
theorem dX2_joinWorth_31 : decode cX2_joinWorth 31 = .ok (.iconst 1, 1) := by decide +kernel
theorem dX2_joinWorth_32 : decode cX2_joinWorth 32 = .ok (.invokevirtual 31, 3) := by decide +kernel
theorem dX2_joinWorth_35 : decode cX2_joinWorth 35 = .ok (.ifCond .ne 17, 3) := by decide +kernel
theorem dX2_joinWorth_38 : decode cX2_joinWorth 38 = .ok (.aload_n 0, 1) := by decide +kernel
theorem dX2_joinWorth_39 : decode cX2_joinWorth 39 = .ok (.getfield 19, 3) := by decide +kernel
theorem dX2_joinWorth_42 : decode cX2_joinWorth 42 = .ok (.iload_n 3, 1) := by decide +kernel
theorem dX2_joinWorth_43 : decode cX2_joinWorth 43 = .ok (.iconst 2, 1) := by decide +kernel
theorem dX2_joinWorth_44 : decode cX2_joinWorth 44 = .ok (.invokevirtual 31, 3) := by decide +kernel
theorem dX2_joinWorth_47 : decode cX2_joinWorth 47 = .ok (.ifCond .ne 5, 3) := by decide +kernel
theorem dX2_joinWorth_50 : decode cX2_joinWorth 50 = .ok (.iconst 0, 1) := by decide +kernel
theorem dX2_joinWorth_51 : decode cX2_joinWorth 51 = .ok (.ireturn, 1) := by decide +kernel
theorem dX2_joinWorth_52 : decode cX2_joinWorth 52 = .ok (.aload_n 0, 1) := by decide +kernel
theorem dX2_joinWorth_53 : decode cX2_joinWorth 53 = .ok (.getfield 19, 3) := by decide +kernel
theorem dX2_joinWorth_56 : decode cX2_joinWorth 56 = .ok (.iload_n 2, 1) := by decide +kernel
theorem dX2_joinWorth_57 : decode cX2_joinWorth 57 = .ok (.iconst 4, 1) := by decide +kernel
theorem dX2_joinWorth_58 : decode cX2_joinWorth 58 = .ok (.invokevirtual 31, 3) := by decide +kernel
theorem dX2_joinWorth_61 : decode cX2_joinWorth 61 = .ok (.ifCond .eq 7, 3) := by decide +kernel
theorem dX2_joinWorth_64 : decode cX2_joinWorth 64 = .ok (.iconst 3, 1) := by decide +kernel
theorem dX2_joinWorth_65 : decode cX2_joinWorth 65 = .ok (.goto 4, 3) := by decide +kernel
theorem dX2_joinWorth_68 : decode cX2_joinWorth 68 = .ok (.iconst 2, 1) := by decide +kernel
theorem dX2_joinWorth_69 : decode cX2_joinWorth 69 = .ok (.ireturn, 1) := by decide +kernel
theorem dX2_lackingPenalty_0 : decode cX2_lackingPenalty 0 = .ok (.aload_n 0, 1) := by decide +kernel
theorem dX2_lackingPenalty_1 : decode cX2_lackingPenalty 1 = .ok (.iconst 1, 1) := by decide +kernel
theorem dX2_lackingPenalty_2 : decode cX2_lackingPenalty 2 = .ok (.invokevirtual 43, 3) := by decide +kernel
theorem dX2_lackingPenalty_5 : decode cX2_lackingPenalty 5 = .ok (.ifCond .ne 7, 3) := by decide +kernel
theorem dX2_lackingPenalty_8 : decode cX2_lackingPenalty 8 = .ok (.iconst 5, 1) := by decide +kernel
theorem dX2_lackingPenalty_9 : decode cX2_lackingPenalty 9 = .ok (.goto 4, 3) := by decide +kernel
theorem dX2_lackingPenalty_12 : decode cX2_lackingPenalty 12 = .ok (.iconst 0, 1) := by decide +kernel
theorem dX2_lackingPenalty_13 : decode cX2_lackingPenalty 13 = .ok (.aload_n 0, 1) := by decide +kernel
theorem dX2_lackingPenalty_14 : decode cX2_lackingPenalty 14 = .ok (.iconst 2, 1) := by decide +kernel
theorem dX2_lackingPenalty_15 : decode cX2_lackingPenalty 15 = .ok (.invokevirtual 43, 3) := by decide +kernel
theorem dX2_lackingPenalty_18 : decode cX2_lackingPenalty 18 = .ok (.ifCond .ne 7, 3) := by decide +kernel
theorem dX2_lackingPenalty_21 : decode cX2_lackingPenalty 21 = .ok (.iconst 5, 1) := by decide +kernel
theorem dX2_lackingPenalty_22 : decode cX2_lackingPenalty 22 = .ok (.goto 4, 3) := by decide +kernel
theorem dX2_lackingPenalty_25 : decode cX2_lackingPenalty 25 = .ok (.iconst 0, 1) := by decide +kernel
theorem dX2_lackingPenalty_26 : decode cX2_lackingPenalty 26 = .ok (.iadd, 1) := by decide +kernel
theorem dX2_lackingPenalty_27 : decode cX2_lackingPenalty 27 = .ok (.ireturn, 1) := by decide +kernel
theorem dX2_chanceAt_0 : decode cX2_chanceAt 0 = .ok (.aload_n 0, 1) := by decide +kernel
theorem dX2_chanceAt_1 : decode cX2_chanceAt 1 = .ok (.iload_n 1, 1) := by decide +kernel
theorem dX2_chanceAt_2 : decode cX2_chanceAt 2 = .ok (.invokevirtual 40, 3) := by decide +kernel
theorem dX2_chanceAt_5 : decode cX2_chanceAt 5 = .ok (.istore_n 2, 1) := by decide +kernel
theorem dX2_chanceAt_6 : decode cX2_chanceAt 6 = .ok (.aload_n 0, 1) := by decide +kernel
theorem dX2_chanceAt_7 : decode cX2_chanceAt 7 = .ok (.getfield 19, 3) := by decide +kernel
theorem dX2_chanceAt_10 : decode cX2_chanceAt 10 = .ok (.iload_n 2, 1) := by decide +kernel
theorem dX2_chanceAt_11 : decode cX2_chanceAt 11 = .ok (.invokevirtual 46, 3) := by decide +kernel
theorem dX2_chanceAt_14 : decode cX2_chanceAt 14 = .ok (.aload_n 0, 1) := by decide +kernel
theorem dX2_chanceAt_15 : decode cX2_chanceAt 15 = .ok (.getfield 19, 3) := by decide +kernel
theorem dX2_chanceAt_18 : decode cX2_chanceAt 18 = .ok (.iload_n 2, 1) := by decide +kernel
theorem dX2_chanceAt_19 : decode cX2_chanceAt 19 = .ok (.invokevirtual 49, 3) := by decide +kernel
theorem dX2_chanceAt_22 : decode cX2_chanceAt 22 = .ok (.iload_n 1, 1) := by decide +kernel
theorem dX2_chanceAt_23 : decode cX2_chanceAt 23 = .ok (.invokestatic 52, 3) := by decide +kernel
theorem dX2_chanceAt_26 : decode cX2_chanceAt 26 = .ok (.ireturn, 1) := by decide +kernel
theorem dX2_points_0 : decode cX2_points 0 = .ok (.aload_n 0, 1) := by decide +kernel
theorem dX2_points_1 : decode cX2_points 1 = .ok (.iload_n 1, 1) := by decide +kernel
theorem dX2_points_2 : decode cX2_points 2 = .ok (.invokevirtual 56, 3) := by decide +kernel
theorem dX2_points_5 : decode cX2_points 5 = .ok (.aload_n 0, 1) := by decide +kernel
theorem dX2_points_6 : decode cX2_points 6 = .ok (.invokevirtual 59, 3) := by decide +kernel
theorem dX2_points_9 : decode cX2_points 9 = .ok (.isub, 1) := by decide +kernel
theorem dX2_points_10 : decode cX2_points 10 = .ok (.ireturn, 1) := by decide +kernel
theorem dX2_gained_0 : decode cX2_gained 0 = .ok (.iconst 0, 1) := by decide +kernel
theorem dX2_gained_1 : decode cX2_gained 1 = .ok (.istore_n 2, 1) := by decide +kernel
theorem dX2_gained_2 : decode cX2_gained 2 = .ok (.iconst 0, 1) := by decide +kernel
theorem dX2_gained_3 : decode cX2_gained 3 = .ok (.istore_n 3, 1) := by decide +kernel
theorem dX2_gained_4 : decode cX2_gained 4 = .ok (.iload_n 3, 1) := by decide +kernel
theorem dX2_gained_5 : decode cX2_gained 5 = .ok (.aload_n 0, 1) := by decide +kernel
theorem dX2_gained_6 : decode cX2_gained 6 = .ok (.getfield 15, 3) := by decide +kernel
theorem dX2_gained_9 : decode cX2_gained 9 = .ok (.if_icmp .ge 55, 3) := by decide +kernel
theorem dX2_gained_12 : decode cX2_gained 12 = .ok (.iload_n 1, 1) := by decide +kernel
theorem dX2_gained_13 : decode cX2_gained 13 = .ok (.iload_n 3, 1) := by decide +kernel
theorem dX2_gained_14 : decode cX2_gained 14 = .ok (.ishr, 1) := by decide +kernel
theorem dX2_gained_15 : decode cX2_gained 15 = .ok (.iconst 1, 1) := by decide +kernel
theorem dX2_gained_16 : decode cX2_gained 16 = .ok (.iand, 1) := by decide +kernel
theorem dX2_gained_17 : decode cX2_gained 17 = .ok (.ifCond .eq 9, 3) := by decide +kernel
theorem dX2_gained_20 : decode cX2_gained 20 = .ok (.iinc 2 (-10), 3) := by decide +kernel
theorem dX2_gained_23 : decode cX2_gained 23 = .ok (.goto 19, 3) := by decide +kernel
theorem dX2_gained_26 : decode cX2_gained 26 = .ok (.iload_n 2, 1) := by decide +kernel
theorem dX2_gained_27 : decode cX2_gained 27 = .ok (.aload_n 0, 1) := by decide +kernel
theorem dX2_gained_28 : decode cX2_gained 28 = .ok (.getfield 19, 3) := by decide +kernel
theorem dX2_gained_31 : decode cX2_gained 31 = .ok (.aload_n 0, 1) := by decide +kernel
theorem dX2_gained_32 : decode cX2_gained 32 = .ok (.getfield 9, 3) := by decide +kernel
theorem dX2_gained_35 : decode cX2_gained 35 = .ok (.iload_n 3, 1) := by decide +kernel
theorem dX2_gained_36 : decode cX2_gained 36 = .ok (.iaload, 1) := by decide +kernel
theorem dX2_gained_37 : decode cX2_gained 37 = .ok (.invokevirtual 63, 3) := by decide +kernel
theorem dX2_gained_40 : decode cX2_gained 40 = .ok (.iadd, 1) := by decide +kernel
theorem dX2_gained_41 : decode cX2_gained 41 = .ok (.istore_n 2, 1) := by decide +kernel
theorem dX2_gained_42 : decode cX2_gained 42 = .ok (.iload_n 1, 1) := by decide +kernel
theorem dX2_gained_43 : decode cX2_gained 43 = .ok (.iload_n 3, 1) := by decide +kernel
theorem dX2_gained_44 : decode cX2_gained 44 = .ok (.ishr, 1) := by decide +kernel
theorem dX2_gained_45 : decode cX2_gained 45 = .ok (.iconst 3, 1) := by decide +kernel
theorem dX2_gained_46 : decode cX2_gained 46 = .ok (.iand, 1) := by decide +kernel
theorem dX2_gained_47 : decode cX2_gained 47 = .ok (.ifCond .ne 11, 3) := by decide +kernel
theorem dX2_gained_50 : decode cX2_gained 50 = .ok (.iload_n 2, 1) := by decide +kernel
theorem dX2_gained_51 : decode cX2_gained 51 = .ok (.aload_n 0, 1) := by decide +kernel
theorem dX2_gained_52 : decode cX2_gained 52 = .ok (.iload_n 3, 1) := by decide +kernel
theorem dX2_gained_53 : decode cX2_gained 53 = .ok (.invokevirtual 37, 3) := by decide +kernel
theorem dX2_gained_56 : decode cX2_gained 56 = .ok (.iadd, 1) := by decide +kernel
theorem dX2_gained_57 : decode cX2_gained 57 = .ok (.istore_n 2, 1) := by decide +kernel
theorem dX2_gained_58 : decode cX2_gained 58 = .ok (.iinc 3 1, 3) := by decide +kernel
theorem dX2_gained_61 : decode cX2_gained 61 = .ok (.goto (-57), 3) := by decide +kernel
theorem dX2_gained_64 : decode cX2_gained 64 = .ok (.iload_n 2, 1) := by decide +kernel
theorem dX2_gained_65 : decode cX2_gained 65 = .ok (.ireturn, 1) := by decide +kernel
theorem dX2_meanInHundredths_0 : decode cX2_meanInHundredths 0 = .ok (.bipush 100, 2) := by decide +kernel
theorem dX2_meanInHundredths_2 : decode cX2_meanInHundredths 2 = .ok (.sipush 200, 3) := by decide +kernel
theorem dX2_meanInHundredths_5 : decode cX2_meanInHundredths 5 = .ok (.aload_n 0, 1) := by decide +kernel
theorem dX2_meanInHundredths_6 : decode cX2_meanInHundredths 6 = .ok (.invokevirtual 59, 3) := by decide +kernel
theorem dX2_meanInHundredths_9 : decode cX2_meanInHundredths 9 = .ok (.isub, 1) := by decide +kernel
theorem dX2_meanInHundredths_10 : decode cX2_meanInHundredths 10 = .ok (.imul, 1) := by decide +kernel
theorem dX2_meanInHundredths_11 : decode cX2_meanInHundredths 11 = .ok (.istore_n 1, 1) := by decide +kernel
theorem dX2_meanInHundredths_12 : decode cX2_meanInHundredths 12 = .ok (.iconst 0, 1) := by decide +kernel
theorem dX2_meanInHundredths_13 : decode cX2_meanInHundredths 13 = .ok (.istore_n 2, 1) := by decide +kernel
theorem dX2_meanInHundredths_14 : decode cX2_meanInHundredths 14 = .ok (.iload_n 2, 1) := by decide +kernel
theorem dX2_meanInHundredths_15 : decode cX2_meanInHundredths 15 = .ok (.aload_n 0, 1) := by decide +kernel
theorem dX2_meanInHundredths_16 : decode cX2_meanInHundredths 16 = .ok (.getfield 15, 3) := by decide +kernel
theorem dX2_meanInHundredths_19 : decode cX2_meanInHundredths 19 = .ok (.if_icmp .ge 62, 3) := by decide +kernel
theorem dX2_meanInHundredths_22 : decode cX2_meanInHundredths 22 = .ok (.aload_n 0, 1) := by decide +kernel
theorem dX2_meanInHundredths_23 : decode cX2_meanInHundredths 23 = .ok (.iload_n 2, 1) := by decide +kernel
theorem dX2_meanInHundredths_24 : decode cX2_meanInHundredths 24 = .ok (.invokevirtual 66, 3) := by decide +kernel
theorem dX2_meanInHundredths_27 : decode cX2_meanInHundredths 27 = .ok (.istore_n 3, 1) := by decide +kernel
theorem dX2_meanInHundredths_28 : decode cX2_meanInHundredths 28 = .ok (.iload_n 1, 1) := by decide +kernel
theorem dX2_meanInHundredths_29 : decode cX2_meanInHundredths 29 = .ok (.bipush 10, 2) := by decide +kernel
theorem dX2_meanInHundredths_31 : decode cX2_meanInHundredths 31 = .ok (.iload_n 3, 1) := by decide +kernel
theorem dX2_meanInHundredths_32 : decode cX2_meanInHundredths 32 = .ok (.aload_n 0, 1) := by decide +kernel
theorem dX2_meanInHundredths_33 : decode cX2_meanInHundredths 33 = .ok (.getfield 19, 3) := by decide +kernel
theorem dX2_meanInHundredths_36 : decode cX2_meanInHundredths 36 = .ok (.aload_n 0, 1) := by decide +kernel
theorem dX2_meanInHundredths_37 : decode cX2_meanInHundredths 37 = .ok (.getfield 9, 3) := by decide +kernel
theorem dX2_meanInHundredths_40 : decode cX2_meanInHundredths 40 = .ok (.iload_n 2, 1) := by decide +kernel
theorem dX2_meanInHundredths_41 : decode cX2_meanInHundredths 41 = .ok (.iaload, 1) := by decide +kernel
theorem dX2_meanInHundredths_42 : decode cX2_meanInHundredths 42 = .ok (.invokevirtual 63, 3) := by decide +kernel
theorem dX2_meanInHundredths_45 : decode cX2_meanInHundredths 45 = .ok (.imul, 1) := by decide +kernel
theorem dX2_meanInHundredths_46 : decode cX2_meanInHundredths 46 = .ok (.bipush 10, 2) := by decide +kernel
theorem dX2_meanInHundredths_48 : decode cX2_meanInHundredths 48 = .ok (.bipush 10, 2) := by decide +kernel
theorem dX2_meanInHundredths_50 : decode cX2_meanInHundredths 50 = .ok (.iload_n 3, 1) := by decide +kernel
theorem dX2_meanInHundredths_51 : decode cX2_meanInHundredths 51 = .ok (.isub, 1) := by decide +kernel
theorem dX2_meanInHundredths_52 : decode cX2_meanInHundredths 52 = .ok (.imul, 1) := by decide +kernel
theorem dX2_meanInHundredths_53 : decode cX2_meanInHundredths 53 = .ok (.isub, 1) := by decide +kernel
theorem dX2_meanInHundredths_54 : decode cX2_meanInHundredths 54 = .ok (.imul, 1) := by decide +kernel
theorem dX2_meanInHundredths_55 : decode cX2_meanInHundredths 55 = .ok (.iadd, 1) := by decide +kernel
theorem dX2_meanInHundredths_56 : decode cX2_meanInHundredths 56 = .ok (.istore_n 1, 1) := by decide +kernel
theorem dX2_meanInHundredths_57 : decode cX2_meanInHundredths 57 = .ok (.iload_n 1, 1) := by decide +kernel
theorem dX2_meanInHundredths_58 : decode cX2_meanInHundredths 58 = .ok (.iload_n 3, 1) := by decide +kernel
theorem dX2_meanInHundredths_59 : decode cX2_meanInHundredths 59 = .ok (.aload_n 0, 1) := by decide +kernel
theorem dX2_meanInHundredths_60 : decode cX2_meanInHundredths 60 = .ok (.iload_n 2, 1) := by decide +kernel
theorem dX2_meanInHundredths_61 : decode cX2_meanInHundredths 61 = .ok (.iconst 1, 1) := by decide +kernel
theorem dX2_meanInHundredths_62 : decode cX2_meanInHundredths 62 = .ok (.iadd, 1) := by decide +kernel
theorem dX2_meanInHundredths_63 : decode cX2_meanInHundredths 63 = .ok (.invokevirtual 66, 3) := by decide +kernel
theorem dX2_meanInHundredths_66 : decode cX2_meanInHundredths 66 = .ok (.imul, 1) := by decide +kernel
theorem dX2_meanInHundredths_67 : decode cX2_meanInHundredths 67 = .ok (.aload_n 0, 1) := by decide +kernel
theorem dX2_meanInHundredths_68 : decode cX2_meanInHundredths 68 = .ok (.iload_n 2, 1) := by decide +kernel
theorem dX2_meanInHundredths_69 : decode cX2_meanInHundredths 69 = .ok (.invokevirtual 37, 3) := by decide +kernel
theorem dX2_meanInHundredths_72 : decode cX2_meanInHundredths 72 = .ok (.imul, 1) := by decide +kernel
theorem dX2_meanInHundredths_73 : decode cX2_meanInHundredths 73 = .ok (.iadd, 1) := by decide +kernel
theorem dX2_meanInHundredths_74 : decode cX2_meanInHundredths 74 = .ok (.istore_n 1, 1) := by decide +kernel
theorem dX2_meanInHundredths_75 : decode cX2_meanInHundredths 75 = .ok (.iinc 2 1, 3) := by decide +kernel
theorem dX2_meanInHundredths_78 : decode cX2_meanInHundredths 78 = .ok (.goto (-64), 3) := by decide +kernel
theorem dX2_meanInHundredths_81 : decode cX2_meanInHundredths 81 = .ok (.iload_n 1, 1) := by decide +kernel
theorem dX2_meanInHundredths_82 : decode cX2_meanInHundredths 82 = .ok (.ireturn, 1) := by decide +kernel
theorem dX2_allParts_0 : decode cX2_allParts 0 = .ok (.iconst 1, 1) := by decide +kernel
theorem dX2_allParts_1 : decode cX2_allParts 1 = .ok (.istore_n 1, 1) := by decide +kernel
theorem dX2_allParts_2 : decode cX2_allParts 2 = .ok (.iconst 0, 1) := by decide +kernel
theorem dX2_allParts_3 : decode cX2_allParts 3 = .ok (.istore_n 2, 1) := by decide +kernel
theorem dX2_allParts_4 : decode cX2_allParts 4 = .ok (.iload_n 2, 1) := by decide +kernel
theorem dX2_allParts_5 : decode cX2_allParts 5 = .ok (.aload_n 0, 1) := by decide +kernel
theorem dX2_allParts_6 : decode cX2_allParts 6 = .ok (.getfield 15, 3) := by decide +kernel
theorem dX2_allParts_9 : decode cX2_allParts 9 = .ok (.if_icmp .ge 14, 3) := by decide +kernel
theorem dX2_allParts_12 : decode cX2_allParts 12 = .ok (.iload_n 1, 1) := by decide +kernel
theorem dX2_allParts_13 : decode cX2_allParts 13 = .ok (.bipush 10, 2) := by decide +kernel
theorem dX2_allParts_15 : decode cX2_allParts 15 = .ok (.imul, 1) := by decide +kernel
theorem dX2_allParts_16 : decode cX2_allParts 16 = .ok (.istore_n 1, 1) := by decide +kernel
theorem dX2_allParts_17 : decode cX2_allParts 17 = .ok (.iinc 2 1, 3) := by decide +kernel
theorem dX2_allParts_20 : decode cX2_allParts 20 = .ok (.goto (-16), 3) := by decide +kernel
theorem dX2_allParts_23 : decode cX2_allParts 23 = .ok (.iload_n 1, 1) := by decide +kernel
theorem dX2_allParts_24 : decode cX2_allParts 24 = .ok (.ireturn, 1) := by decide +kernel
theorem dX2_partsWith_0 : decode cX2_partsWith 0 = .ok (.iconst 0, 1) := by decide +kernel
theorem dX2_partsWith_1 : decode cX2_partsWith 1 = .ok (.istore_n 2, 1) := by decide +kernel
theorem dX2_partsWith_2 : decode cX2_partsWith 2 = .ok (.iload_n 1, 1) := by decide +kernel
theorem dX2_partsWith_3 : decode cX2_partsWith 3 = .ok (.aload_n 0, 1) := by decide +kernel
theorem dX2_partsWith_4 : decode cX2_partsWith 4 = .ok (.invokevirtual 59, 3) := by decide +kernel
theorem dX2_partsWith_7 : decode cX2_partsWith 7 = .ok (.iadd, 1) := by decide +kernel
theorem dX2_partsWith_8 : decode cX2_partsWith 8 = .ok (.istore_n 3, 1) := by decide +kernel
theorem dX2_partsWith_9 : decode cX2_partsWith 9 = .ok (.iconst 0, 1) := by decide +kernel
theorem dX2_partsWith_10 : decode cX2_partsWith 10 = .ok (.istore 4, 2) := by decide +kernel
theorem dX2_partsWith_12 : decode cX2_partsWith 12 = .ok (.iload 4, 2) := by decide +kernel
theorem dX2_partsWith_14 : decode cX2_partsWith 14 = .ok (.iconst 1, 1) := by decide +kernel
theorem dX2_partsWith_15 : decode cX2_partsWith 15 = .ok (.aload_n 0, 1) := by decide +kernel
theorem dX2_partsWith_16 : decode cX2_partsWith 16 = .ok (.getfield 15, 3) := by decide +kernel
theorem dX2_partsWith_19 : decode cX2_partsWith 19 = .ok (.ishl, 1) := by decide +kernel
theorem dX2_partsWith_20 : decode cX2_partsWith 20 = .ok (.if_icmp .ge 28, 3) := by decide +kernel
theorem dX2_partsWith_23 : decode cX2_partsWith 23 = .ok (.aload_n 0, 1) := by decide +kernel
theorem dX2_partsWith_24 : decode cX2_partsWith 24 = .ok (.iload 4, 2) := by decide +kernel
theorem dX2_partsWith_26 : decode cX2_partsWith 26 = .ok (.invokevirtual 56, 3) := by decide +kernel
theorem dX2_partsWith_29 : decode cX2_partsWith 29 = .ok (.iload_n 3, 1) := by decide +kernel
theorem dX2_partsWith_30 : decode cX2_partsWith 30 = .ok (.if_icmp .lt 12, 3) := by decide +kernel
theorem dX2_partsWith_33 : decode cX2_partsWith 33 = .ok (.iload_n 2, 1) := by decide +kernel
theorem dX2_partsWith_34 : decode cX2_partsWith 34 = .ok (.aload_n 0, 1) := by decide +kernel
theorem dX2_partsWith_35 : decode cX2_partsWith 35 = .ok (.iload 4, 2) := by decide +kernel
theorem dX2_partsWith_37 : decode cX2_partsWith 37 = .ok (.invokevirtual 69, 3) := by decide +kernel
theorem dX2_partsWith_40 : decode cX2_partsWith 40 = .ok (.iadd, 1) := by decide +kernel
theorem dX2_partsWith_41 : decode cX2_partsWith 41 = .ok (.istore_n 2, 1) := by decide +kernel
theorem dX2_partsWith_42 : decode cX2_partsWith 42 = .ok (.iinc 4 1, 3) := by decide +kernel
theorem dX2_partsWith_45 : decode cX2_partsWith 45 = .ok (.goto (-33), 3) := by decide +kernel
theorem dX2_partsWith_48 : decode cX2_partsWith 48 = .ok (.iload_n 2, 1) := by decide +kernel
theorem dX2_partsWith_49 : decode cX2_partsWith 49 = .ok (.ireturn, 1) := by decide +kernel
theorem dX2_partsOf_0 : decode cX2_partsOf 0 = .ok (.iconst 1, 1) := by decide +kernel
theorem dX2_partsOf_1 : decode cX2_partsOf 1 = .ok (.istore_n 2, 1) := by decide +kernel
theorem dX2_partsOf_2 : decode cX2_partsOf 2 = .ok (.iconst 0, 1) := by decide +kernel
theorem dX2_partsOf_3 : decode cX2_partsOf 3 = .ok (.istore_n 3, 1) := by decide +kernel
theorem dX2_partsOf_4 : decode cX2_partsOf 4 = .ok (.iload_n 3, 1) := by decide +kernel
theorem dX2_partsOf_5 : decode cX2_partsOf 5 = .ok (.aload_n 0, 1) := by decide +kernel
theorem dX2_partsOf_6 : decode cX2_partsOf 6 = .ok (.getfield 15, 3) := by decide +kernel
theorem dX2_partsOf_9 : decode cX2_partsOf 9 = .ok (.if_icmp .ge 37, 3) := by decide +kernel
theorem dX2_partsOf_12 : decode cX2_partsOf 12 = .ok (.aload_n 0, 1) := by decide +kernel
theorem dX2_partsOf_13 : decode cX2_partsOf 13 = .ok (.iload_n 3, 1) := by decide +kernel
theorem dX2_partsOf_14 : decode cX2_partsOf 14 = .ok (.invokevirtual 66, 3) := by decide +kernel
theorem dX2_partsOf_17 : decode cX2_partsOf 17 = .ok (.istore 4, 2) := by decide +kernel
theorem dX2_partsOf_19 : decode cX2_partsOf 19 = .ok (.iload_n 2, 1) := by decide +kernel
theorem dX2_partsOf_20 : decode cX2_partsOf 20 = .ok (.iload_n 1, 1) := by decide +kernel
theorem dX2_partsOf_21 : decode cX2_partsOf 21 = .ok (.iload_n 3, 1) := by decide +kernel
theorem dX2_partsOf_22 : decode cX2_partsOf 22 = .ok (.ishr, 1) := by decide +kernel
theorem dX2_partsOf_23 : decode cX2_partsOf 23 = .ok (.iconst 1, 1) := by decide +kernel
theorem dX2_partsOf_24 : decode cX2_partsOf 24 = .ok (.iand, 1) := by decide +kernel
theorem dX2_partsOf_25 : decode cX2_partsOf 25 = .ok (.ifCond .eq 11, 3) := by decide +kernel
theorem dX2_partsOf_28 : decode cX2_partsOf 28 = .ok (.bipush 10, 2) := by decide +kernel
theorem dX2_partsOf_30 : decode cX2_partsOf 30 = .ok (.iload 4, 2) := by decide +kernel
theorem dX2_partsOf_32 : decode cX2_partsOf 32 = .ok (.isub, 1) := by decide +kernel
theorem dX2_partsOf_33 : decode cX2_partsOf 33 = .ok (.goto 5, 3) := by decide +kernel
theorem dX2_partsOf_36 : decode cX2_partsOf 36 = .ok (.iload 4, 2) := by decide +kernel
theorem dX2_partsOf_38 : decode cX2_partsOf 38 = .ok (.imul, 1) := by decide +kernel
theorem dX2_partsOf_39 : decode cX2_partsOf 39 = .ok (.istore_n 2, 1) := by decide +kernel
theorem dX2_partsOf_40 : decode cX2_partsOf 40 = .ok (.iinc 3 1, 3) := by decide +kernel
theorem dX2_partsOf_43 : decode cX2_partsOf 43 = .ok (.goto (-39), 3) := by decide +kernel
theorem dX2_partsOf_46 : decode cX2_partsOf 46 = .ok (.iload_n 2, 1) := by decide +kernel
theorem dX2_partsOf_47 : decode cX2_partsOf 47 = .ok (.ireturn, 1) := by decide +kernel
theorem dX3_init_0 : decode cX3_init 0 = .ok (.aload_n 0, 1) := by decide +kernel
theorem dX3_init_1 : decode cX3_init 1 = .ok (.invokespecial 3, 3) := by decide +kernel
theorem dX3_init_4 : decode cX3_init 4 = .ok (.aload_n 0, 1) := by decide +kernel
theorem dX3_init_5 : decode cX3_init 5 = .ok (.bipush 8, 2) := by decide +kernel
theorem dX3_init_7 : decode cX3_init 7 = .ok (.newarray .int, 2) := by decide +kernel
theorem dX3_init_9 : decode cX3_init 9 = .ok (.putfield 9, 3) := by decide +kernel
theorem dX3_init_12 : decode cX3_init 12 = .ok (.aload_n 0, 1) := by decide +kernel
theorem dX3_init_13 : decode cX3_init 13 = .ok (.bipush 8, 2) := by decide +kernel
theorem dX3_init_15 : decode cX3_init 15 = .ok (.newarray .int, 2) := by decide +kernel
theorem dX3_init_17 : decode cX3_init 17 = .ok (.putfield 15, 3) := by decide +kernel
theorem dX3_init_20 : decode cX3_init 20 = .ok (.aload_n 0, 1) := by decide +kernel
theorem dX3_init_21 : decode cX3_init 21 = .ok (.bipush 8, 2) := by decide +kernel
theorem dX3_init_23 : decode cX3_init 23 = .ok (.newarray .boolean, 2) := by decide +kernel
theorem dX3_init_25 : decode cX3_init 25 = .ok (.putfield 18, 3) := by decide +kernel
theorem dX3_init_28 : decode cX3_init 28 = .ok (.aload_n 0, 1) := by decide +kernel
theorem dX3_init_29 : decode cX3_init 29 = .ok (.iconst 0, 1) := by decide +kernel
theorem dX3_init_30 : decode cX3_init 30 = .ok (.putfield 22, 3) := by decide +kernel
theorem dX3_init_33 : decode cX3_init 33 = .ok (.aload_n 0, 1) := by decide +kernel
theorem dX3_init_34 : decode cX3_init 34 = .ok (.aload_n 1, 1) := by decide +kernel
theorem dX3_init_35 : decode cX3_init 35 = .ok (.putfield 26, 3) := by decide +kernel
theorem dX3_init_38 : decode cX3_init 38 = .ok (.return_, 1) := by decide +kernel
theorem dX3_add_0 : decode cX3_add 0 = .ok (.aload_n 0, 1) := by decide +kernel
theorem dX3_add_1 : decode cX3_add 1 = .ok (.getfield 22, 3) := by decide +kernel
theorem dX3_add_4 : decode cX3_add 4 = .ok (.bipush 8, 2) := by decide +kernel
theorem dX3_add_6 : decode cX3_add 6 = .ok (.if_icmp .ge 43, 3) := by decide +kernel
theorem dX3_add_9 : decode cX3_add 9 = .ok (.aload_n 0, 1) := by decide +kernel
theorem dX3_add_10 : decode cX3_add 10 = .ok (.getfield 9, 3) := by decide +kernel
theorem dX3_add_13 : decode cX3_add 13 = .ok (.aload_n 0, 1) := by decide +kernel
theorem dX3_add_14 : decode cX3_add 14 = .ok (.getfield 22, 3) := by decide +kernel
theorem dX3_add_17 : decode cX3_add 17 = .ok (.iload_n 1, 1) := by decide +kernel
theorem dX3_add_18 : decode cX3_add 18 = .ok (.iastore, 1) := by decide +kernel
theorem dX3_add_19 : decode cX3_add 19 = .ok (.aload_n 0, 1) := by decide +kernel
theorem dX3_add_20 : decode cX3_add 20 = .ok (.getfield 15, 3) := by decide +kernel
theorem dX3_add_23 : decode cX3_add 23 = .ok (.aload_n 0, 1) := by decide +kernel
theorem dX3_add_24 : decode cX3_add 24 = .ok (.getfield 22, 3) := by decide +kernel
theorem dX3_add_27 : decode cX3_add 27 = .ok (.iload_n 2, 1) := by decide +kernel
theorem dX3_add_28 : decode cX3_add 28 = .ok (.iastore, 1) := by decide +kernel
theorem dX3_add_29 : decode cX3_add 29 = .ok (.aload_n 0, 1) := by decide +kernel
theorem dX3_add_30 : decode cX3_add 30 = .ok (.getfield 18, 3) := by decide +kernel
theorem dX3_add_33 : decode cX3_add 33 = .ok (.aload_n 0, 1) := by decide +kernel
theorem dX3_add_34 : decode cX3_add 34 = .ok (.getfield 22, 3) := by decide +kernel
theorem dX3_add_37 : decode cX3_add 37 = .ok (.iload_n 3, 1) := by decide +kernel
theorem dX3_add_38 : decode cX3_add 38 = .ok (.bastore, 1) := by decide +kernel
theorem dX3_add_39 : decode cX3_add 39 = .ok (.aload_n 0, 1) := by decide +kernel
theorem dX3_add_40 : decode cX3_add 40 = .ok (.dup, 1) := by decide +kernel
theorem dX3_add_41 : decode cX3_add 41 = .ok (.getfield 22, 3) := by decide +kernel
theorem dX3_add_44 : decode cX3_add 44 = .ok (.iconst 1, 1) := by decide +kernel
theorem dX3_add_45 : decode cX3_add 45 = .ok (.iadd, 1) := by decide +kernel
theorem dX3_add_46 : decode cX3_add 46 = .ok (.putfield 22, 3) := by decide +kernel
theorem dX3_add_49 : decode cX3_add 49 = .ok (.return_, 1) := by decide +kernel
theorem dX3_copyFrom_0 : decode cX3_copyFrom 0 = .ok (.aload_n 0, 1) := by decide +kernel
theorem dX3_copyFrom_1 : decode cX3_copyFrom 1 = .ok (.aload_n 1, 1) := by decide +kernel
theorem dX3_copyFrom_2 : decode cX3_copyFrom 2 = .ok (.getfield 22, 3) := by decide +kernel
theorem dX3_copyFrom_5 : decode cX3_copyFrom 5 = .ok (.putfield 22, 3) := by decide +kernel
theorem dX3_copyFrom_8 : decode cX3_copyFrom 8 = .ok (.iconst 0, 1) := by decide +kernel
theorem dX3_copyFrom_9 : decode cX3_copyFrom 9 = .ok (.istore_n 2, 1) := by decide +kernel
theorem dX3_copyFrom_10 : decode cX3_copyFrom 10 = .ok (.iload_n 2, 1) := by decide +kernel
theorem dX3_copyFrom_11 : decode cX3_copyFrom 11 = .ok (.aload_n 0, 1) := by decide +kernel
theorem dX3_copyFrom_12 : decode cX3_copyFrom 12 = .ok (.getfield 22, 3) := by decide +kernel
theorem dX3_copyFrom_15 : decode cX3_copyFrom 15 = .ok (.if_icmp .ge 45, 3) := by decide +kernel
theorem dX3_copyFrom_18 : decode cX3_copyFrom 18 = .ok (.aload_n 0, 1) := by decide +kernel
theorem dX3_copyFrom_19 : decode cX3_copyFrom 19 = .ok (.getfield 9, 3) := by decide +kernel
theorem dX3_copyFrom_22 : decode cX3_copyFrom 22 = .ok (.iload_n 2, 1) := by decide +kernel
theorem dX3_copyFrom_23 : decode cX3_copyFrom 23 = .ok (.aload_n 1, 1) := by decide +kernel
theorem dX3_copyFrom_24 : decode cX3_copyFrom 24 = .ok (.getfield 9, 3) := by decide +kernel
theorem dX3_copyFrom_27 : decode cX3_copyFrom 27 = .ok (.iload_n 2, 1) := by decide +kernel
theorem dX3_copyFrom_28 : decode cX3_copyFrom 28 = .ok (.iaload, 1) := by decide +kernel
theorem dX3_copyFrom_29 : decode cX3_copyFrom 29 = .ok (.iastore, 1) := by decide +kernel
theorem dX3_copyFrom_30 : decode cX3_copyFrom 30 = .ok (.aload_n 0, 1) := by decide +kernel
theorem dX3_copyFrom_31 : decode cX3_copyFrom 31 = .ok (.getfield 15, 3) := by decide +kernel
theorem dX3_copyFrom_34 : decode cX3_copyFrom 34 = .ok (.iload_n 2, 1) := by decide +kernel
theorem dX3_copyFrom_35 : decode cX3_copyFrom 35 = .ok (.aload_n 1, 1) := by decide +kernel
theorem dX3_copyFrom_36 : decode cX3_copyFrom 36 = .ok (.getfield 15, 3) := by decide +kernel
theorem dX3_copyFrom_39 : decode cX3_copyFrom 39 = .ok (.iload_n 2, 1) := by decide +kernel
theorem dX3_copyFrom_40 : decode cX3_copyFrom 40 = .ok (.iaload, 1) := by decide +kernel
theorem dX3_copyFrom_41 : decode cX3_copyFrom 41 = .ok (.iastore, 1) := by decide +kernel
theorem dX3_copyFrom_42 : decode cX3_copyFrom 42 = .ok (.aload_n 0, 1) := by decide +kernel
theorem dX3_copyFrom_43 : decode cX3_copyFrom 43 = .ok (.getfield 18, 3) := by decide +kernel
theorem dX3_copyFrom_46 : decode cX3_copyFrom 46 = .ok (.iload_n 2, 1) := by decide +kernel
theorem dX3_copyFrom_47 : decode cX3_copyFrom 47 = .ok (.aload_n 1, 1) := by decide +kernel
theorem dX3_copyFrom_48 : decode cX3_copyFrom 48 = .ok (.getfield 18, 3) := by decide +kernel
theorem dX3_copyFrom_51 : decode cX3_copyFrom 51 = .ok (.iload_n 2, 1) := by decide +kernel
theorem dX3_copyFrom_52 : decode cX3_copyFrom 52 = .ok (.baload, 1) := by decide +kernel
theorem dX3_copyFrom_53 : decode cX3_copyFrom 53 = .ok (.bastore, 1) := by decide +kernel
theorem dX3_copyFrom_54 : decode cX3_copyFrom 54 = .ok (.iinc 2 1, 3) := by decide +kernel
theorem dX3_copyFrom_57 : decode cX3_copyFrom 57 = .ok (.goto (-47), 3) := by decide +kernel
theorem dX3_copyFrom_60 : decode cX3_copyFrom 60 = .ok (.return_, 1) := by decide +kernel
theorem dX3_possibleSures_0 : decode cX3_possibleSures 0 = .ok (.iconst 0, 1) := by decide +kernel
theorem dX3_possibleSures_1 : decode cX3_possibleSures 1 = .ok (.istore_n 2, 1) := by decide +kernel
theorem dX3_possibleSures_2 : decode cX3_possibleSures 2 = .ok (.iconst 1, 1) := by decide +kernel
theorem dX3_possibleSures_3 : decode cX3_possibleSures 3 = .ok (.istore_n 3, 1) := by decide +kernel
theorem dX3_possibleSures_4 : decode cX3_possibleSures 4 = .ok (.iload_n 3, 1) := by decide +kernel
theorem dX3_possibleSures_5 : decode cX3_possibleSures 5 = .ok (.bipush 9, 2) := by decide +kernel
theorem dX3_possibleSures_7 : decode cX3_possibleSures 7 = .ok (.if_icmp .gt 30, 3) := by decide +kernel
theorem dX3_possibleSures_10 : decode cX3_possibleSures 10 = .ok (.iload_n 2, 1) := by decide +kernel
theorem dX3_possibleSures_11 : decode cX3_possibleSures 11 = .ok (.aload_n 0, 1) := by decide +kernel
theorem dX3_possibleSures_12 : decode cX3_possibleSures 12 = .ok (.iload_n 1, 1) := by decide +kernel
theorem dX3_possibleSures_13 : decode cX3_possibleSures 13 = .ok (.iload_n 3, 1) := by decide +kernel
theorem dX3_possibleSures_14 : decode cX3_possibleSures 14 = .ok (.invokevirtual 30, 3) := by decide +kernel
theorem dX3_possibleSures_17 : decode cX3_possibleSures 17 = .ok (.ifCond .le 11, 3) := by decide +kernel
theorem dX3_possibleSures_20 : decode cX3_possibleSures 20 = .ok (.iconst 1, 1) := by decide +kernel
theorem dX3_possibleSures_21 : decode cX3_possibleSures 21 = .ok (.iload_n 3, 1) := by decide +kernel
theorem dX3_possibleSures_22 : decode cX3_possibleSures 22 = .ok (.iconst 1, 1) := by decide +kernel
theorem dX3_possibleSures_23 : decode cX3_possibleSures 23 = .ok (.isub, 1) := by decide +kernel
theorem dX3_possibleSures_24 : decode cX3_possibleSures 24 = .ok (.ishl, 1) := by decide +kernel
theorem dX3_possibleSures_25 : decode cX3_possibleSures 25 = .ok (.goto 4, 3) := by decide +kernel
theorem dX3_possibleSures_28 : decode cX3_possibleSures 28 = .ok (.iconst 0, 1) := by decide +kernel
theorem dX3_possibleSures_29 : decode cX3_possibleSures 29 = .ok (.ior, 1) := by decide +kernel
theorem dX3_possibleSures_30 : decode cX3_possibleSures 30 = .ok (.istore_n 2, 1) := by decide +kernel
theorem dX3_possibleSures_31 : decode cX3_possibleSures 31 = .ok (.iinc 3 1, 3) := by decide +kernel
theorem dX3_possibleSures_34 : decode cX3_possibleSures 34 = .ok (.goto (-30), 3) := by decide +kernel
theorem dX3_possibleSures_37 : decode cX3_possibleSures 37 = .ok (.iload_n 2, 1) := by decide +kernel
theorem dX3_possibleSures_38 : decode cX3_possibleSures 38 = .ok (.ireturn, 1) := by decide +kernel
theorem dX3_likeliestSure_0 : decode cX3_likeliestSure 0 = .ok (.iconst (-1), 1) := by decide +kernel
theorem dX3_likeliestSure_1 : decode cX3_likeliestSure 1 = .ok (.istore_n 2, 1) := by decide +kernel
theorem dX3_likeliestSure_2 : decode cX3_likeliestSure 2 = .ok (.iconst 0, 1) := by decide +kernel
theorem dX3_likeliestSure_3 : decode cX3_likeliestSure 3 = .ok (.istore_n 3, 1) := by decide +kernel
theorem dX3_likeliestSure_4 : decode cX3_likeliestSure 4 = .ok (.iconst 1, 1) := by decide +kernel
theorem dX3_likeliestSure_5 : decode cX3_likeliestSure 5 = .ok (.istore 4, 2) := by decide +kernel
theorem dX3_likeliestSure_7 : decode cX3_likeliestSure 7 = .ok (.iload 4, 2) := by decide +kernel
theorem dX3_likeliestSure_9 : decode cX3_likeliestSure 9 = .ok (.bipush 9, 2) := by decide +kernel
theorem dX3_likeliestSure_11 : decode cX3_likeliestSure 11 = .ok (.if_icmp .gt 30, 3) := by decide +kernel
theorem dX3_likeliestSure_14 : decode cX3_likeliestSure 14 = .ok (.aload_n 0, 1) := by decide +kernel
theorem dX3_likeliestSure_15 : decode cX3_likeliestSure 15 = .ok (.iload_n 1, 1) := by decide +kernel
theorem dX3_likeliestSure_16 : decode cX3_likeliestSure 16 = .ok (.iload 4, 2) := by decide +kernel
theorem dX3_likeliestSure_18 : decode cX3_likeliestSure 18 = .ok (.invokevirtual 30, 3) := by decide +kernel
theorem dX3_likeliestSure_21 : decode cX3_likeliestSure 21 = .ok (.istore 5, 2) := by decide +kernel
theorem dX3_likeliestSure_23 : decode cX3_likeliestSure 23 = .ok (.iload 5, 2) := by decide +kernel
theorem dX3_likeliestSure_25 : decode cX3_likeliestSure 25 = .ok (.iload_n 3, 1) := by decide +kernel
theorem dX3_likeliestSure_26 : decode cX3_likeliestSure 26 = .ok (.if_icmp .le 9, 3) := by decide +kernel
theorem dX3_likeliestSure_29 : decode cX3_likeliestSure 29 = .ok (.iload 5, 2) := by decide +kernel
theorem dX3_likeliestSure_31 : decode cX3_likeliestSure 31 = .ok (.istore_n 3, 1) := by decide +kernel
theorem dX3_likeliestSure_32 : decode cX3_likeliestSure 32 = .ok (.iload 4, 2) := by decide +kernel
theorem dX3_likeliestSure_34 : decode cX3_likeliestSure 34 = .ok (.istore_n 2, 1) := by decide +kernel
theorem dX3_likeliestSure_35 : decode cX3_likeliestSure 35 = .ok (.iinc 4 1, 3) := by decide +kernel
theorem dX3_likeliestSure_38 : decode cX3_likeliestSure 38 = .ok (.goto (-31), 3) := by decide +kernel
theorem dX3_likeliestSure_41 : decode cX3_likeliestSure 41 = .ok (.iload_n 2, 1) := by decide +kernel
theorem dX3_likeliestSure_42 : decode cX3_likeliestSure 42 = .ok (.ireturn, 1) := by decide +kernel
theorem dX3_likelihood_0 : decode cX3_likelihood 0 = .ok (.iconst 1, 1) := by decide +kernel
theorem dX3_likelihood_1 : decode cX3_likelihood 1 = .ok (.istore_n 3, 1) := by decide +kernel
theorem dX3_likelihood_2 : decode cX3_likelihood 2 = .ok (.iconst 0, 1) := by decide +kernel
theorem dX3_likelihood_3 : decode cX3_likelihood 3 = .ok (.istore 4, 2) := by decide +kernel
theorem dX3_likelihood_5 : decode cX3_likelihood 5 = .ok (.iload 4, 2) := by decide +kernel
theorem dX3_likelihood_7 : decode cX3_likelihood 7 = .ok (.aload_n 0, 1) := by decide +kernel
theorem dX3_likelihood_8 : decode cX3_likelihood 8 = .ok (.getfield 22, 3) := by decide +kernel
theorem dX3_likelihood_11 : decode cX3_likelihood 11 = .ok (.if_icmp .ge 64, 3) := by decide +kernel
theorem dX3_likelihood_14 : decode cX3_likelihood 14 = .ok (.aload_n 0, 1) := by decide +kernel
theorem dX3_likelihood_15 : decode cX3_likelihood 15 = .ok (.getfield 9, 3) := by decide +kernel
theorem dX3_likelihood_18 : decode cX3_likelihood 18 = .ok (.iload 4, 2) := by decide +kernel
theorem dX3_likelihood_20 : decode cX3_likelihood 20 = .ok (.iaload, 1) := by decide +kernel
theorem dX3_likelihood_21 : decode cX3_likelihood 21 = .ok (.iload_n 1, 1) := by decide +kernel
theorem dX3_likelihood_22 : decode cX3_likelihood 22 = .ok (.if_icmp .ne 47, 3) := by decide +kernel
theorem dX3_likelihood_25 : decode cX3_likelihood 25 = .ok (.aload_n 0, 1) := by decide +kernel
theorem dX3_likelihood_26 : decode cX3_likelihood 26 = .ok (.getfield 26, 3) := by decide +kernel
theorem dX3_likelihood_29 : decode cX3_likelihood 29 = .ok (.iload_n 1, 1) := by decide +kernel
theorem dX3_likelihood_30 : decode cX3_likelihood 30 = .ok (.invokevirtual 34, 3) := by decide +kernel
theorem dX3_likelihood_33 : decode cX3_likelihood 33 = .ok (.iload_n 2, 1) := by decide +kernel
theorem dX3_likelihood_34 : decode cX3_likelihood 34 = .ok (.aload_n 0, 1) := by decide +kernel
theorem dX3_likelihood_35 : decode cX3_likelihood 35 = .ok (.getfield 15, 3) := by decide +kernel
theorem dX3_likelihood_38 : decode cX3_likelihood 38 = .ok (.iload 4, 2) := by decide +kernel
theorem dX3_likelihood_40 : decode cX3_likelihood 40 = .ok (.iaload, 1) := by decide +kernel
theorem dX3_likelihood_41 : decode cX3_likelihood 41 = .ok (.invokestatic 40, 3) := by decide +kernel
theorem dX3_likelihood_44 : decode cX3_likelihood 44 = .ok (.istore 5, 2) := by decide +kernel
theorem dX3_likelihood_46 : decode cX3_likelihood 46 = .ok (.iload_n 3, 1) := by decide +kernel
theorem dX3_likelihood_47 : decode cX3_likelihood 47 = .ok (.aload_n 0, 1) := by decide +kernel
theorem dX3_likelihood_48 : decode cX3_likelihood 48 = .ok (.getfield 18, 3) := by decide +kernel
theorem dX3_likelihood_51 : decode cX3_likelihood 51 = .ok (.iload 4, 2) := by decide +kernel
theorem dX3_likelihood_53 : decode cX3_likelihood 53 = .ok (.baload, 1) := by decide +kernel
theorem dX3_likelihood_54 : decode cX3_likelihood 54 = .ok (.ifCond .eq 8, 3) := by decide +kernel
theorem dX3_likelihood_57 : decode cX3_likelihood 57 = .ok (.iload 5, 2) := by decide +kernel
theorem dX3_likelihood_59 : decode cX3_likelihood 59 = .ok (.goto 8, 3) := by decide +kernel
theorem dX3_likelihood_62 : decode cX3_likelihood 62 = .ok (.bipush 10, 2) := by decide +kernel
theorem dX3_likelihood_64 : decode cX3_likelihood 64 = .ok (.iload 5, 2) := by decide +kernel
theorem dX3_likelihood_66 : decode cX3_likelihood 66 = .ok (.isub, 1) := by decide +kernel
theorem dX3_likelihood_67 : decode cX3_likelihood 67 = .ok (.imul, 1) := by decide +kernel
theorem dX3_likelihood_68 : decode cX3_likelihood 68 = .ok (.istore_n 3, 1) := by decide +kernel
theorem dX3_likelihood_69 : decode cX3_likelihood 69 = .ok (.iinc 4 1, 3) := by decide +kernel
theorem dX3_likelihood_72 : decode cX3_likelihood 72 = .ok (.goto (-67), 3) := by decide +kernel
theorem dX3_likelihood_75 : decode cX3_likelihood 75 = .ok (.iload_n 3, 1) := by decide +kernel
theorem dX3_likelihood_76 : decode cX3_likelihood 76 = .ok (.ireturn, 1) := by decide +kernel
theorem dX4_init_0 : decode cX4_init 0 = .ok (.aload_n 0, 1) := by decide +kernel
theorem dX4_init_1 : decode cX4_init 1 = .ok (.invokespecial 3, 3) := by decide +kernel
theorem dX4_init_4 : decode cX4_init 4 = .ok (.aload_n 0, 1) := by decide +kernel
theorem dX4_init_5 : decode cX4_init 5 = .ok (.new 9, 3) := by decide +kernel
theorem dX4_init_8 : decode cX4_init 8 = .ok (.dup, 1) := by decide +kernel
theorem dX4_init_9 : decode cX4_init 9 = .ok (.invokespecial 11, 3) := by decide +kernel
theorem dX4_init_12 : decode cX4_init 12 = .ok (.putfield 12, 3) := by decide +kernel
theorem dX4_init_15 : decode cX4_init 15 = .ok (.aload_n 0, 1) := by decide +kernel
theorem dX4_init_16 : decode cX4_init 16 = .ok (.new 16, 3) := by decide +kernel
theorem dX4_init_19 : decode cX4_init 19 = .ok (.dup, 1) := by decide +kernel
theorem dX4_init_20 : decode cX4_init 20 = .ok (.invokespecial 18, 3) := by decide +kernel
theorem dX4_init_23 : decode cX4_init 23 = .ok (.putfield 19, 3) := by decide +kernel
theorem dX4_init_26 : decode cX4_init 26 = .ok (.aload_n 0, 1) := by decide +kernel
theorem dX4_init_27 : decode cX4_init 27 = .ok (.new 23, 3) := by decide +kernel
theorem dX4_init_30 : decode cX4_init 30 = .ok (.dup, 1) := by decide +kernel
theorem dX4_init_31 : decode cX4_init 31 = .ok (.aload_n 0, 1) := by decide +kernel
theorem dX4_init_32 : decode cX4_init 32 = .ok (.getfield 19, 3) := by decide +kernel
theorem dX4_init_35 : decode cX4_init 35 = .ok (.invokespecial 25, 3) := by decide +kernel
theorem dX4_init_38 : decode cX4_init 38 = .ok (.putfield 28, 3) := by decide +kernel
theorem dX4_init_41 : decode cX4_init 41 = .ok (.aload_n 0, 1) := by decide +kernel
theorem dX4_init_42 : decode cX4_init 42 = .ok (.new 32, 3) := by decide +kernel
theorem dX4_init_45 : decode cX4_init 45 = .ok (.dup, 1) := by decide +kernel
theorem dX4_init_46 : decode cX4_init 46 = .ok (.aload_n 0, 1) := by decide +kernel
theorem dX4_init_47 : decode cX4_init 47 = .ok (.getfield 19, 3) := by decide +kernel
theorem dX4_init_50 : decode cX4_init 50 = .ok (.invokespecial 34, 3) := by decide +kernel
theorem dX4_init_53 : decode cX4_init 53 = .ok (.putfield 35, 3) := by decide +kernel
theorem dX4_init_56 : decode cX4_init 56 = .ok (.aload_n 0, 1) := by decide +kernel
theorem dX4_init_57 : decode cX4_init 57 = .ok (.iconst 0, 1) := by decide +kernel
theorem dX4_init_58 : decode cX4_init 58 = .ok (.putfield 39, 3) := by decide +kernel
theorem dX4_init_61 : decode cX4_init 61 = .ok (.aload_n 0, 1) := by decide +kernel
theorem dX4_init_62 : decode cX4_init 62 = .ok (.iconst 0, 1) := by decide +kernel
theorem dX4_init_63 : decode cX4_init 63 = .ok (.putfield 43, 3) := by decide +kernel
theorem dX4_init_66 : decode cX4_init 66 = .ok (.aload_n 0, 1) := by decide +kernel
theorem dX4_init_67 : decode cX4_init 67 = .ok (.new 23, 3) := by decide +kernel
theorem dX4_init_70 : decode cX4_init 70 = .ok (.dup, 1) := by decide +kernel
theorem dX4_init_71 : decode cX4_init 71 = .ok (.aload_n 0, 1) := by decide +kernel
theorem dX4_init_72 : decode cX4_init 72 = .ok (.getfield 19, 3) := by decide +kernel
theorem dX4_init_75 : decode cX4_init 75 = .ok (.invokespecial 25, 3) := by decide +kernel
theorem dX4_init_78 : decode cX4_init 78 = .ok (.putfield 47, 3) := by decide +kernel
theorem dX4_init_81 : decode cX4_init 81 = .ok (.aload_n 0, 1) := by decide +kernel
theorem dX4_init_82 : decode cX4_init 82 = .ok (.new 32, 3) := by decide +kernel
theorem dX4_init_85 : decode cX4_init 85 = .ok (.dup, 1) := by decide +kernel
theorem dX4_init_86 : decode cX4_init 86 = .ok (.aload_n 0, 1) := by decide +kernel
theorem dX4_init_87 : decode cX4_init 87 = .ok (.getfield 19, 3) := by decide +kernel
theorem dX4_init_90 : decode cX4_init 90 = .ok (.invokespecial 34, 3) := by decide +kernel
theorem dX4_init_93 : decode cX4_init 93 = .ok (.putfield 50, 3) := by decide +kernel
theorem dX4_init_96 : decode cX4_init 96 = .ok (.aload_n 0, 1) := by decide +kernel
theorem dX4_init_97 : decode cX4_init 97 = .ok (.iconst 0, 1) := by decide +kernel
theorem dX4_init_98 : decode cX4_init 98 = .ok (.putfield 53, 3) := by decide +kernel
theorem dX4_init_101 : decode cX4_init 101 = .ok (.aload_n 0, 1) := by decide +kernel
theorem dX4_init_102 : decode cX4_init 102 = .ok (.new 23, 3) := by decide +kernel
theorem dX4_init_105 : decode cX4_init 105 = .ok (.dup, 1) := by decide +kernel
theorem dX4_init_106 : decode cX4_init 106 = .ok (.aload_n 0, 1) := by decide +kernel
theorem dX4_init_107 : decode cX4_init 107 = .ok (.getfield 19, 3) := by decide +kernel
theorem dX4_init_110 : decode cX4_init 110 = .ok (.invokespecial 25, 3) := by decide +kernel
theorem dX4_init_113 : decode cX4_init 113 = .ok (.putfield 56, 3) := by decide +kernel
theorem dX4_init_116 : decode cX4_init 116 = .ok (.aload_n 0, 1) := by decide +kernel
theorem dX4_init_117 : decode cX4_init 117 = .ok (.new 23, 3) := by decide +kernel
theorem dX4_init_120 : decode cX4_init 120 = .ok (.dup, 1) := by decide +kernel
theorem dX4_init_121 : decode cX4_init 121 = .ok (.aload_n 0, 1) := by decide +kernel
theorem dX4_init_122 : decode cX4_init 122 = .ok (.getfield 19, 3) := by decide +kernel
theorem dX4_init_125 : decode cX4_init 125 = .ok (.invokespecial 25, 3) := by decide +kernel
theorem dX4_init_128 : decode cX4_init 128 = .ok (.putfield 59, 3) := by decide +kernel
theorem dX4_init_131 : decode cX4_init 131 = .ok (.aload_n 0, 1) := by decide +kernel
theorem dX4_init_132 : decode cX4_init 132 = .ok (.iconst 0, 1) := by decide +kernel
theorem dX4_init_133 : decode cX4_init 133 = .ok (.putfield 62, 3) := by decide +kernel
theorem dX4_init_136 : decode cX4_init 136 = .ok (.aload_n 0, 1) := by decide +kernel
theorem dX4_init_137 : decode cX4_init 137 = .ok (.iconst 0, 1) := by decide +kernel
theorem dX4_init_138 : decode cX4_init 138 = .ok (.putfield 65, 3) := by decide +kernel
theorem dX4_init_141 : decode cX4_init 141 = .ok (.return_, 1) := by decide +kernel
theorem dX4_letter_0 : decode cX4_letter 0 = .ok (.iload_n 1, 1) := by decide +kernel
theorem dX4_letter_1 : decode cX4_letter 1 = .ok (.iconst 1, 1) := by decide +kernel
theorem dX4_letter_2 : decode cX4_letter 2 = .ok (.if_icmp .lt 9, 3) := by decide +kernel
theorem dX4_letter_5 : decode cX4_letter 5 = .ok (.iload_n 1, 1) := by decide +kernel
theorem dX4_letter_6 : decode cX4_letter 6 = .ok (.bipush 126, 2) := by decide +kernel
theorem dX4_letter_8 : decode cX4_letter 8 = .ok (.if_icmp .le 6, 3) := by decide +kernel
theorem dX4_letter_11 : decode cX4_letter 11 = .ok (.bipush (-102), 2) := by decide +kernel
theorem dX4_letter_13 : decode cX4_letter 13 = .ok (.ireturn, 1) := by decide +kernel
theorem dX4_letter_14 : decode cX4_letter 14 = .ok (.aload_n 0, 1) := by decide +kernel
theorem dX4_letter_15 : decode cX4_letter 15 = .ok (.getfield 12, 3) := by decide +kernel
theorem dX4_letter_18 : decode cX4_letter 18 = .ok (.getfield 68, 3) := by decide +kernel
theorem dX4_letter_21 : decode cX4_letter 21 = .ok (.bipush 30, 2) := by decide +kernel
theorem dX4_letter_23 : decode cX4_letter 23 = .ok (.if_icmp .lt 6, 3) := by decide +kernel
theorem dX4_letter_26 : decode cX4_letter 26 = .ok (.bipush (-104), 2) := by decide +kernel
theorem dX4_letter_28 : decode cX4_letter 28 = .ok (.ireturn, 1) := by decide +kernel
theorem dX4_letter_29 : decode cX4_letter 29 = .ok (.aload_n 0, 1) := by decide +kernel
theorem dX4_letter_30 : decode cX4_letter 30 = .ok (.getfield 12, 3) := by decide +kernel
theorem dX4_letter_33 : decode cX4_letter 33 = .ok (.iload_n 1, 1) := by decide +kernel
theorem dX4_letter_34 : decode cX4_letter 34 = .ok (.invokevirtual 71, 3) := by decide +kernel
theorem dX4_letter_37 : decode cX4_letter 37 = .ok (.aload_n 0, 1) := by decide +kernel
theorem dX4_letter_38 : decode cX4_letter 38 = .ok (.getfield 12, 3) := by decide +kernel
theorem dX4_letter_41 : decode cX4_letter 41 = .ok (.getfield 68, 3) := by decide +kernel
theorem dX4_letter_44 : decode cX4_letter 44 = .ok (.ireturn, 1) := by decide +kernel
theorem dX4_blank_0 : decode cX4_blank 0 = .ok (.aload_n 0, 1) := by decide +kernel
theorem dX4_blank_1 : decode cX4_blank 1 = .ok (.getfield 12, 3) := by decide +kernel
theorem dX4_blank_4 : decode cX4_blank 4 = .ok (.getfield 68, 3) := by decide +kernel
theorem dX4_blank_7 : decode cX4_blank 7 = .ok (.istore_n 1, 1) := by decide +kernel
theorem dX4_blank_8 : decode cX4_blank 8 = .ok (.aload_n 0, 1) := by decide +kernel
theorem dX4_blank_9 : decode cX4_blank 9 = .ok (.getfield 12, 3) := by decide +kernel
theorem dX4_blank_12 : decode cX4_blank 12 = .ok (.iconst 0, 1) := by decide +kernel
theorem dX4_blank_13 : decode cX4_blank 13 = .ok (.putfield 68, 3) := by decide +kernel
theorem dX4_blank_16 : decode cX4_blank 16 = .ok (.iload_n 1, 1) := by decide +kernel
theorem dX4_blank_17 : decode cX4_blank 17 = .ok (.ireturn, 1) := by decide +kernel
theorem dX4_fault_0 : decode cX4_fault 0 = .ok (.aload_n 0, 1) := by decide +kernel
theorem dX4_fault_1 : decode cX4_fault 1 = .ok (.getfield 12, 3) := by decide +kernel
theorem dX4_fault_4 : decode cX4_fault 4 = .ok (.invokevirtual 75, 3) := by decide +kernel
theorem dX4_fault_7 : decode cX4_fault 7 = .ok (.ireturn, 1) := by decide +kernel
theorem dX4_gym_0 : decode cX4_gym 0 = .ok (.aload_n 0, 1) := by decide +kernel
theorem dX4_gym_1 : decode cX4_gym 1 = .ok (.getfield 12, 3) := by decide +kernel
theorem dX4_gym_4 : decode cX4_gym 4 = .ok (.invokevirtual 79, 3) := by decide +kernel
theorem dX4_gym_7 : decode cX4_gym 7 = .ok (.ifCond .ne 6, 3) := by decide +kernel
theorem dX4_gym_10 : decode cX4_gym 10 = .ok (.bipush (-103), 2) := by decide +kernel
theorem dX4_gym_12 : decode cX4_gym 12 = .ok (.ireturn, 1) := by decide +kernel
theorem dX4_gym_13 : decode cX4_gym 13 = .ok (.aload_n 0, 1) := by decide +kernel
theorem dX4_gym_14 : decode cX4_gym 14 = .ok (.getfield 19, 3) := by decide +kernel
theorem dX4_gym_17 : decode cX4_gym 17 = .ok (.aload_n 0, 1) := by decide +kernel
theorem dX4_gym_18 : decode cX4_gym 18 = .ok (.getfield 12, 3) := by decide +kernel
theorem dX4_gym_21 : decode cX4_gym 21 = .ok (.invokevirtual 83, 3) := by decide +kernel
theorem dX4_gym_24 : decode cX4_gym 24 = .ok (.aload_n 0, 1) := by decide +kernel
theorem dX4_gym_25 : decode cX4_gym 25 = .ok (.getfield 12, 3) := by decide +kernel
theorem dX4_gym_28 : decode cX4_gym 28 = .ok (.iconst 0, 1) := by decide +kernel
theorem dX4_gym_29 : decode cX4_gym 29 = .ok (.putfield 68, 3) := by decide +kernel
theorem dX4_gym_32 : decode cX4_gym 32 = .ok (.aload_n 0, 1) := by decide +kernel
theorem dX4_gym_33 : decode cX4_gym 33 = .ok (.getfield 28, 3) := by decide +kernel
theorem dX4_gym_36 : decode cX4_gym 36 = .ok (.iconst 0, 1) := by decide +kernel
theorem dX4_gym_37 : decode cX4_gym 37 = .ok (.putfield 87, 3) := by decide +kernel
theorem dX4_gym_40 : decode cX4_gym 40 = .ok (.aload_n 0, 1) := by decide +kernel
theorem dX4_gym_41 : decode cX4_gym 41 = .ok (.getfield 35, 3) := by decide +kernel
theorem dX4_gym_44 : decode cX4_gym 44 = .ok (.iconst 0, 1) := by decide +kernel
theorem dX4_gym_45 : decode cX4_gym 45 = .ok (.putfield 90, 3) := by decide +kernel
theorem dX4_gym_48 : decode cX4_gym 48 = .ok (.aload_n 0, 1) := by decide +kernel
theorem dX4_gym_49 : decode cX4_gym 49 = .ok (.iconst 0, 1) := by decide +kernel
theorem dX4_gym_50 : decode cX4_gym 50 = .ok (.putfield 39, 3) := by decide +kernel
theorem dX4_gym_53 : decode cX4_gym 53 = .ok (.aload_n 0, 1) := by decide +kernel
theorem dX4_gym_54 : decode cX4_gym 54 = .ok (.iconst 0, 1) := by decide +kernel
theorem dX4_gym_55 : decode cX4_gym 55 = .ok (.putfield 43, 3) := by decide +kernel
theorem dX4_gym_58 : decode cX4_gym 58 = .ok (.aload_n 0, 1) := by decide +kernel
theorem dX4_gym_59 : decode cX4_gym 59 = .ok (.dup, 1) := by decide +kernel
theorem dX4_gym_60 : decode cX4_gym 60 = .ok (.getfield 62, 3) := by decide +kernel
theorem dX4_gym_63 : decode cX4_gym 63 = .ok (.iconst 1, 1) := by decide +kernel
theorem dX4_gym_64 : decode cX4_gym 64 = .ok (.iadd, 1) := by decide +kernel
theorem dX4_gym_65 : decode cX4_gym 65 = .ok (.putfield 62, 3) := by decide +kernel
theorem dX4_gym_68 : decode cX4_gym 68 = .ok (.aload_n 0, 1) := by decide +kernel
theorem dX4_gym_69 : decode cX4_gym 69 = .ok (.getfield 19, 3) := by decide +kernel
theorem dX4_gym_72 : decode cX4_gym 72 = .ok (.getfield 91, 3) := by decide +kernel
theorem dX4_gym_75 : decode cX4_gym 75 = .ok (.ireturn, 1) := by decide +kernel
theorem dX4_piece_0 : decode cX4_piece 0 = .ok (.aload_n 0, 1) := by decide +kernel
theorem dX4_piece_1 : decode cX4_piece 1 = .ok (.getfield 19, 3) := by decide +kernel
theorem dX4_piece_4 : decode cX4_piece 4 = .ok (.iload_n 1, 1) := by decide +kernel
theorem dX4_piece_5 : decode cX4_piece 5 = .ok (.invokevirtual 92, 3) := by decide +kernel
theorem dX4_piece_8 : decode cX4_piece 8 = .ok (.ifCond .ne 6, 3) := by decide +kernel
theorem dX4_piece_11 : decode cX4_piece 11 = .ok (.bipush (-101), 2) := by decide +kernel
theorem dX4_piece_13 : decode cX4_piece 13 = .ok (.ireturn, 1) := by decide +kernel
theorem dX4_piece_14 : decode cX4_piece 14 = .ok (.iload_n 2, 1) := by decide +kernel
theorem dX4_piece_15 : decode cX4_piece 15 = .ok (.tableswitch 126 0 6 #[41, 50, 59, 68, 77, 108, 117], 41) := by decide +kernel
theorem dX4_piece_56 : decode cX4_piece 56 = .ok (.aload_n 0, 1) := by decide +kernel
theorem dX4_piece_57 : decode cX4_piece 57 = .ok (.getfield 19, 3) := by decide +kernel
theorem dX4_piece_60 : decode cX4_piece 60 = .ok (.iload_n 1, 1) := by decide +kernel
theorem dX4_piece_61 : decode cX4_piece 61 = .ok (.invokevirtual 96, 3) := by decide +kernel
theorem dX4_piece_64 : decode cX4_piece 64 = .ok (.ireturn, 1) := by decide +kernel
theorem dX4_piece_65 : decode cX4_piece 65 = .ok (.aload_n 0, 1) := by decide +kernel
theorem dX4_piece_66 : decode cX4_piece 66 = .ok (.getfield 19, 3) := by decide +kernel
theorem dX4_piece_69 : decode cX4_piece 69 = .ok (.iload_n 1, 1) := by decide +kernel
theorem dX4_piece_70 : decode cX4_piece 70 = .ok (.invokevirtual 100, 3) := by decide +kernel
theorem dX4_piece_73 : decode cX4_piece 73 = .ok (.ireturn, 1) := by decide +kernel
theorem dX4_piece_74 : decode cX4_piece 74 = .ok (.aload_n 0, 1) := by decide +kernel
theorem dX4_piece_75 : decode cX4_piece 75 = .ok (.getfield 19, 3) := by decide +kernel
theorem dX4_piece_78 : decode cX4_piece 78 = .ok (.iload_n 1, 1) := by decide +kernel
theorem dX4_piece_79 : decode cX4_piece 79 = .ok (.invokevirtual 103, 3) := by decide +kernel
theorem dX4_piece_82 : decode cX4_piece 82 = .ok (.ireturn, 1) := by decide +kernel
theorem dX4_piece_83 : decode cX4_piece 83 = .ok (.aload_n 0, 1) := by decide +kernel
theorem dX4_piece_84 : decode cX4_piece 84 = .ok (.getfield 28, 3) := by decide +kernel
theorem dX4_piece_87 : decode cX4_piece 87 = .ok (.iload_n 1, 1) := by decide +kernel
theorem dX4_piece_88 : decode cX4_piece 88 = .ok (.invokevirtual 106, 3) := by decide +kernel
theorem dX4_piece_91 : decode cX4_piece 91 = .ok (.ireturn, 1) := by decide +kernel
theorem dX4_piece_92 : decode cX4_piece 92 = .ok (.aload_n 0, 1) := by decide +kernel
theorem dX4_piece_93 : decode cX4_piece 93 = .ok (.getfield 28, 3) := by decide +kernel
theorem dX4_piece_96 : decode cX4_piece 96 = .ok (.iload_n 1, 1) := by decide +kernel
theorem dX4_piece_97 : decode cX4_piece 97 = .ok (.invokevirtual 109, 3) := by decide +kernel
theorem dX4_piece_100 : decode cX4_piece 100 = .ok (.ifCond .eq 21, 3) := by decide +kernel
theorem dX4_piece_103 : decode cX4_piece 103 = .ok (.aload_n 0, 1) := by decide +kernel
theorem dX4_piece_104 : decode cX4_piece 104 = .ok (.getfield 28, 3) := by decide +kernel
theorem dX4_piece_107 : decode cX4_piece 107 = .ok (.aload_n 0, 1) := by decide +kernel
theorem dX4_piece_108 : decode cX4_piece 108 = .ok (.getfield 28, 3) := by decide +kernel
theorem dX4_piece_111 : decode cX4_piece 111 = .ok (.iload_n 1, 1) := by decide +kernel
theorem dX4_piece_112 : decode cX4_piece 112 = .ok (.invokevirtual 106, 3) := by decide +kernel
theorem dX4_piece_115 : decode cX4_piece 115 = .ok (.invokevirtual 112, 3) := by decide +kernel
theorem dX4_piece_118 : decode cX4_piece 118 = .ok (.goto 4, 3) := by decide +kernel
theorem dX4_piece_121 : decode cX4_piece 121 = .ok (.iconst (-1), 1) := by decide +kernel
theorem dX4_piece_122 : decode cX4_piece 122 = .ok (.ireturn, 1) := by decide +kernel
theorem dX4_piece_123 : decode cX4_piece 123 = .ok (.aload_n 0, 1) := by decide +kernel
theorem dX4_piece_124 : decode cX4_piece 124 = .ok (.getfield 35, 3) := by decide +kernel
theorem dX4_piece_127 : decode cX4_piece 127 = .ok (.iload_n 1, 1) := by decide +kernel
theorem dX4_piece_128 : decode cX4_piece 128 = .ok (.invokevirtual 115, 3) := by decide +kernel
theorem dX4_piece_131 : decode cX4_piece 131 = .ok (.ireturn, 1) := by decide +kernel
theorem dX4_piece_132 : decode cX4_piece 132 = .ok (.aload_n 0, 1) := by decide +kernel
theorem dX4_piece_133 : decode cX4_piece 133 = .ok (.getfield 35, 3) := by decide +kernel
theorem dX4_piece_136 : decode cX4_piece 136 = .ok (.iload_n 1, 1) := by decide +kernel
theorem dX4_piece_137 : decode cX4_piece 137 = .ok (.invokevirtual 118, 3) := by decide +kernel
theorem dX4_piece_140 : decode cX4_piece 140 = .ok (.ireturn, 1) := by decide +kernel
theorem dX4_piece_141 : decode cX4_piece 141 = .ok (.bipush (-102), 2) := by decide +kernel
theorem dX4_piece_143 : decode cX4_piece 143 = .ok (.ireturn, 1) := by decide +kernel
theorem dX4_as_0 : decode cX4_as 0 = .ok (.aload_n 0, 1) := by decide +kernel
theorem dX4_as_1 : decode cX4_as 1 = .ok (.getfield 19, 3) := by decide +kernel
theorem dX4_as_4 : decode cX4_as 4 = .ok (.iload_n 1, 1) := by decide +kernel
theorem dX4_as_5 : decode cX4_as 5 = .ok (.invokevirtual 92, 3) := by decide +kernel
theorem dX4_as_8 : decode cX4_as 8 = .ok (.ifCond .ne 6, 3) := by decide +kernel
theorem dX4_as_11 : decode cX4_as 11 = .ok (.bipush (-101), 2) := by decide +kernel
theorem dX4_as_13 : decode cX4_as 13 = .ok (.ireturn, 1) := by decide +kernel
theorem dX4_as_14 : decode cX4_as 14 = .ok (.iload_n 2, 1) := by decide +kernel
theorem dX4_as_15 : decode cX4_as 15 = .ok (.ifCond .lt 8, 3) := by decide +kernel
theorem dX4_as_18 : decode cX4_as 18 = .ok (.iload_n 2, 1) := by decide +kernel
theorem dX4_as_19 : decode cX4_as 19 = .ok (.iconst 4, 1) := by decide +kernel
theorem dX4_as_20 : decode cX4_as 20 = .ok (.if_icmp .le 6, 3) := by decide +kernel
theorem dX4_as_23 : decode cX4_as 23 = .ok (.bipush (-102), 2) := by decide +kernel
theorem dX4_as_25 : decode cX4_as 25 = .ok (.ireturn, 1) := by decide +kernel
theorem dX4_as_26 : decode cX4_as 26 = .ok (.aload_n 0, 1) := by decide +kernel
theorem dX4_as_27 : decode cX4_as 27 = .ok (.getfield 19, 3) := by decide +kernel
theorem dX4_as_30 : decode cX4_as 30 = .ok (.iload_n 1, 1) := by decide +kernel
theorem dX4_as_31 : decode cX4_as 31 = .ok (.iload_n 2, 1) := by decide +kernel
theorem dX4_as_32 : decode cX4_as 32 = .ok (.invokevirtual 121, 3) := by decide +kernel
theorem dX4_as_35 : decode cX4_as 35 = .ok (.ifCond .eq 7, 3) := by decide +kernel
theorem dX4_as_38 : decode cX4_as 38 = .ok (.iload_n 1, 1) := by decide +kernel
theorem dX4_as_39 : decode cX4_as 39 = .ok (.goto 4, 3) := by decide +kernel
theorem dX4_as_42 : decode cX4_as 42 = .ok (.iconst (-1), 1) := by decide +kernel
theorem dX4_as_43 : decode cX4_as 43 = .ok (.ireturn, 1) := by decide +kernel
theorem dX4_put_0 : decode cX4_put 0 = .ok (.aload_n 0, 1) := by decide +kernel
theorem dX4_put_1 : decode cX4_put 1 = .ok (.getfield 19, 3) := by decide +kernel
theorem dX4_put_4 : decode cX4_put 4 = .ok (.iload_n 1, 1) := by decide +kernel
theorem dX4_put_5 : decode cX4_put 5 = .ok (.invokevirtual 92, 3) := by decide +kernel
theorem dX4_put_8 : decode cX4_put 8 = .ok (.ifCond .ne 6, 3) := by decide +kernel
theorem dX4_put_11 : decode cX4_put 11 = .ok (.bipush (-101), 2) := by decide +kernel
theorem dX4_put_13 : decode cX4_put 13 = .ok (.ireturn, 1) := by decide +kernel
theorem dX4_put_14 : decode cX4_put 14 = .ok (.aload_n 0, 1) := by decide +kernel
theorem dX4_put_15 : decode cX4_put 15 = .ok (.getfield 28, 3) := by decide +kernel
theorem dX4_put_18 : decode cX4_put 18 = .ok (.iload_n 1, 1) := by decide +kernel
theorem dX4_put_19 : decode cX4_put 19 = .ok (.invokevirtual 109, 3) := by decide +kernel
theorem dX4_put_22 : decode cX4_put 22 = .ok (.ifCond .eq 6, 3) := by decide +kernel
theorem dX4_put_25 : decode cX4_put 25 = .ok (.bipush (-103), 2) := by decide +kernel
theorem dX4_put_27 : decode cX4_put 27 = .ok (.ireturn, 1) := by decide +kernel
theorem dX4_put_28 : decode cX4_put 28 = .ok (.aload_n 0, 1) := by decide +kernel
theorem dX4_put_29 : decode cX4_put 29 = .ok (.getfield 28, 3) := by decide +kernel
theorem dX4_put_32 : decode cX4_put 32 = .ok (.getfield 87, 3) := by decide +kernel
theorem dX4_put_35 : decode cX4_put 35 = .ok (.iconst 5, 1) := by decide +kernel
theorem dX4_put_36 : decode cX4_put 36 = .ok (.if_icmp .lt 6, 3) := by decide +kernel
theorem dX4_put_39 : decode cX4_put 39 = .ok (.bipush (-104), 2) := by decide +kernel
theorem dX4_put_41 : decode cX4_put 41 = .ok (.ireturn, 1) := by decide +kernel
theorem dX4_put_42 : decode cX4_put 42 = .ok (.aload_n 0, 1) := by decide +kernel
theorem dX4_put_43 : decode cX4_put 43 = .ok (.getfield 28, 3) := by decide +kernel
theorem dX4_put_46 : decode cX4_put 46 = .ok (.iload_n 1, 1) := by decide +kernel
theorem dX4_put_47 : decode cX4_put 47 = .ok (.invokevirtual 125, 3) := by decide +kernel
theorem dX4_put_50 : decode cX4_put 50 = .ok (.aload_n 0, 1) := by decide +kernel
theorem dX4_put_51 : decode cX4_put 51 = .ok (.dup, 1) := by decide +kernel
theorem dX4_put_52 : decode cX4_put 52 = .ok (.getfield 39, 3) := by decide +kernel
theorem dX4_put_55 : decode cX4_put 55 = .ok (.iconst 1, 1) := by decide +kernel
theorem dX4_put_56 : decode cX4_put 56 = .ok (.iadd, 1) := by decide +kernel
theorem dX4_put_57 : decode cX4_put 57 = .ok (.putfield 39, 3) := by decide +kernel
theorem dX4_put_60 : decode cX4_put 60 = .ok (.aload_n 0, 1) := by decide +kernel
theorem dX4_put_61 : decode cX4_put 61 = .ok (.getfield 28, 3) := by decide +kernel
theorem dX4_put_64 : decode cX4_put 64 = .ok (.getfield 87, 3) := by decide +kernel
theorem dX4_put_67 : decode cX4_put 67 = .ok (.iconst 1, 1) := by decide +kernel
theorem dX4_put_68 : decode cX4_put 68 = .ok (.isub, 1) := by decide +kernel
theorem dX4_put_69 : decode cX4_put 69 = .ok (.ireturn, 1) := by decide +kernel
theorem dX4_take_0 : decode cX4_take 0 = .ok (.aload_n 0, 1) := by decide +kernel
theorem dX4_take_1 : decode cX4_take 1 = .ok (.getfield 28, 3) := by decide +kernel
theorem dX4_take_4 : decode cX4_take 4 = .ok (.iload_n 1, 1) := by decide +kernel
theorem dX4_take_5 : decode cX4_take 5 = .ok (.invokevirtual 128, 3) := by decide +kernel
theorem dX4_take_8 : decode cX4_take 8 = .ok (.ifCond .ne 6, 3) := by decide +kernel
theorem dX4_take_11 : decode cX4_take 11 = .ok (.bipush (-101), 2) := by decide +kernel
theorem dX4_take_13 : decode cX4_take 13 = .ok (.ireturn, 1) := by decide +kernel
theorem dX4_take_14 : decode cX4_take 14 = .ok (.aload_n 0, 1) := by decide +kernel
theorem dX4_take_15 : decode cX4_take 15 = .ok (.dup, 1) := by decide +kernel
theorem dX4_take_16 : decode cX4_take 16 = .ok (.getfield 39, 3) := by decide +kernel
theorem dX4_take_19 : decode cX4_take 19 = .ok (.iconst 1, 1) := by decide +kernel
theorem dX4_take_20 : decode cX4_take 20 = .ok (.iadd, 1) := by decide +kernel
theorem dX4_take_21 : decode cX4_take 21 = .ok (.putfield 39, 3) := by decide +kernel
theorem dX4_take_24 : decode cX4_take 24 = .ok (.aload_n 0, 1) := by decide +kernel
theorem dX4_take_25 : decode cX4_take 25 = .ok (.getfield 28, 3) := by decide +kernel
theorem dX4_take_28 : decode cX4_take 28 = .ok (.iload_n 1, 1) := by decide +kernel
theorem dX4_take_29 : decode cX4_take 29 = .ok (.invokevirtual 131, 3) := by decide +kernel
theorem dX4_take_32 : decode cX4_take 32 = .ok (.ireturn, 1) := by decide +kernel
theorem dX4_swap_0 : decode cX4_swap 0 = .ok (.aload_n 0, 1) := by decide +kernel
theorem dX4_swap_1 : decode cX4_swap 1 = .ok (.getfield 28, 3) := by decide +kernel
theorem dX4_swap_4 : decode cX4_swap 4 = .ok (.iload_n 1, 1) := by decide +kernel
theorem dX4_swap_5 : decode cX4_swap 5 = .ok (.invokevirtual 128, 3) := by decide +kernel
theorem dX4_swap_8 : decode cX4_swap 8 = .ok (.ifCond .eq 14, 3) := by decide +kernel
theorem dX4_swap_11 : decode cX4_swap 11 = .ok (.aload_n 0, 1) := by decide +kernel
theorem dX4_swap_12 : decode cX4_swap 12 = .ok (.getfield 28, 3) := by decide +kernel
theorem dX4_swap_15 : decode cX4_swap 15 = .ok (.iload_n 2, 1) := by decide +kernel
theorem dX4_swap_16 : decode cX4_swap 16 = .ok (.invokevirtual 128, 3) := by decide +kernel
theorem dX4_swap_19 : decode cX4_swap 19 = .ok (.ifCond .ne 6, 3) := by decide +kernel
theorem dX4_swap_22 : decode cX4_swap 22 = .ok (.bipush (-101), 2) := by decide +kernel
theorem dX4_swap_24 : decode cX4_swap 24 = .ok (.ireturn, 1) := by decide +kernel
theorem dX4_swap_25 : decode cX4_swap 25 = .ok (.aload_n 0, 1) := by decide +kernel
theorem dX4_swap_26 : decode cX4_swap 26 = .ok (.getfield 28, 3) := by decide +kernel
theorem dX4_swap_29 : decode cX4_swap 29 = .ok (.iload_n 1, 1) := by decide +kernel
theorem dX4_swap_30 : decode cX4_swap 30 = .ok (.iload_n 2, 1) := by decide +kernel
theorem dX4_swap_31 : decode cX4_swap 31 = .ok (.invokevirtual 134, 3) := by decide +kernel
theorem dX4_swap_34 : decode cX4_swap 34 = .ok (.aload_n 0, 1) := by decide +kernel
theorem dX4_swap_35 : decode cX4_swap 35 = .ok (.dup, 1) := by decide +kernel
theorem dX4_swap_36 : decode cX4_swap 36 = .ok (.getfield 39, 3) := by decide +kernel
theorem dX4_swap_39 : decode cX4_swap 39 = .ok (.iconst 1, 1) := by decide +kernel
theorem dX4_swap_40 : decode cX4_swap 40 = .ok (.iadd, 1) := by decide +kernel
theorem dX4_swap_41 : decode cX4_swap 41 = .ok (.putfield 39, 3) := by decide +kernel
theorem dX4_swap_44 : decode cX4_swap 44 = .ok (.aload_n 0, 1) := by decide +kernel
theorem dX4_swap_45 : decode cX4_swap 45 = .ok (.getfield 39, 3) := by decide +kernel
theorem dX4_swap_48 : decode cX4_swap 48 = .ok (.ireturn, 1) := by decide +kernel
theorem dX4_at_0 : decode cX4_at 0 = .ok (.aload_n 0, 1) := by decide +kernel
theorem dX4_at_1 : decode cX4_at 1 = .ok (.getfield 28, 3) := by decide +kernel
theorem dX4_at_4 : decode cX4_at 4 = .ok (.iload_n 1, 1) := by decide +kernel
theorem dX4_at_5 : decode cX4_at 5 = .ok (.invokevirtual 128, 3) := by decide +kernel
theorem dX4_at_8 : decode cX4_at 8 = .ok (.ifCond .eq 14, 3) := by decide +kernel
theorem dX4_at_11 : decode cX4_at 11 = .ok (.aload_n 0, 1) := by decide +kernel
theorem dX4_at_12 : decode cX4_at 12 = .ok (.getfield 28, 3) := by decide +kernel
theorem dX4_at_15 : decode cX4_at 15 = .ok (.iload_n 1, 1) := by decide +kernel
theorem dX4_at_16 : decode cX4_at 16 = .ok (.invokevirtual 138, 3) := by decide +kernel
theorem dX4_at_19 : decode cX4_at 19 = .ok (.goto 5, 3) := by decide +kernel
theorem dX4_at_22 : decode cX4_at 22 = .ok (.bipush (-101), 2) := by decide +kernel
theorem dX4_at_24 : decode cX4_at 24 = .ok (.ireturn, 1) := by decide +kernel
theorem dX4_score_0 : decode cX4_score 0 = .ok (.iload_n 1, 1) := by decide +kernel
theorem dX4_score_1 : decode cX4_score 1 = .ok (.ifCond .lt 16, 3) := by decide +kernel
theorem dX4_score_4 : decode cX4_score 4 = .ok (.iload_n 1, 1) := by decide +kernel
theorem dX4_score_5 : decode cX4_score 5 = .ok (.iconst 1, 1) := by decide +kernel
theorem dX4_score_6 : decode cX4_score 6 = .ok (.aload_n 0, 1) := by decide +kernel
theorem dX4_score_7 : decode cX4_score 7 = .ok (.getfield 28, 3) := by decide +kernel
theorem dX4_score_10 : decode cX4_score 10 = .ok (.getfield 87, 3) := by decide +kernel
theorem dX4_score_13 : decode cX4_score 13 = .ok (.ishl, 1) := by decide +kernel
theorem dX4_score_14 : decode cX4_score 14 = .ok (.if_icmp .lt 6, 3) := by decide +kernel
theorem dX4_score_17 : decode cX4_score 17 = .ok (.bipush (-102), 2) := by decide +kernel
theorem dX4_score_19 : decode cX4_score 19 = .ok (.ireturn, 1) := by decide +kernel
theorem dX4_score_20 : decode cX4_score 20 = .ok (.aload_n 0, 1) := by decide +kernel
theorem dX4_score_21 : decode cX4_score 21 = .ok (.invokevirtual 141, 3) := by decide +kernel
theorem dX4_score_24 : decode cX4_score 24 = .ok (.ifCond .eq 6, 3) := by decide +kernel
theorem dX4_score_27 : decode cX4_score 27 = .ok (.bipush (-103), 2) := by decide +kernel
theorem dX4_score_29 : decode cX4_score 29 = .ok (.ireturn, 1) := by decide +kernel
theorem dX4_score_30 : decode cX4_score 30 = .ok (.aload_n 0, 1) := by decide +kernel
theorem dX4_score_31 : decode cX4_score 31 = .ok (.getfield 28, 3) := by decide +kernel
theorem dX4_score_34 : decode cX4_score 34 = .ok (.iload_n 1, 1) := by decide +kernel
theorem dX4_score_35 : decode cX4_score 35 = .ok (.invokevirtual 144, 3) := by decide +kernel
theorem dX4_score_38 : decode cX4_score 38 = .ok (.sipush 200, 3) := by decide +kernel
theorem dX4_score_41 : decode cX4_score 41 = .ok (.iadd, 1) := by decide +kernel
theorem dX4_score_42 : decode cX4_score 42 = .ok (.ireturn, 1) := by decide +kernel
theorem dX4_mean_0 : decode cX4_mean 0 = .ok (.iload_n 1, 1) := by decide +kernel
theorem dX4_mean_1 : decode cX4_mean 1 = .ok (.invokestatic 147, 3) := by decide +kernel
theorem dX4_mean_4 : decode cX4_mean 4 = .ok (.ifCond .ne 6, 3) := by decide +kernel
theorem dX4_mean_7 : decode cX4_mean 7 = .ok (.bipush (-102), 2) := by decide +kernel
theorem dX4_mean_9 : decode cX4_mean 9 = .ok (.ireturn, 1) := by decide +kernel
theorem dX4_mean_10 : decode cX4_mean 10 = .ok (.aload_n 0, 1) := by decide +kernel
theorem dX4_mean_11 : decode cX4_mean 11 = .ok (.invokevirtual 141, 3) := by decide +kernel
theorem dX4_mean_14 : decode cX4_mean 14 = .ok (.ifCond .eq 6, 3) := by decide +kernel
theorem dX4_mean_17 : decode cX4_mean 17 = .ok (.bipush (-103), 2) := by decide +kernel
theorem dX4_mean_19 : decode cX4_mean 19 = .ok (.ireturn, 1) := by decide +kernel
theorem dX4_mean_20 : decode cX4_mean 20 = .ok (.aload_n 0, 1) := by decide +kernel
theorem dX4_mean_21 : decode cX4_mean 21 = .ok (.getfield 28, 3) := by decide +kernel
theorem dX4_mean_24 : decode cX4_mean 24 = .ok (.invokevirtual 150, 3) := by decide +kernel
theorem dX4_mean_27 : decode cX4_mean 27 = .ok (.bipush 100, 2) := by decide +kernel
theorem dX4_mean_29 : decode cX4_mean 29 = .ok (.iload_n 1, 1) := by decide +kernel
theorem dX4_mean_30 : decode cX4_mean 30 = .ok (.invokestatic 153, 3) := by decide +kernel
theorem dX4_mean_33 : decode cX4_mean 33 = .ok (.ireturn, 1) := by decide +kernel
theorem dX4_odds_0 : decode cX4_odds 0 = .ok (.iload_n 1, 1) := by decide +kernel
theorem dX4_odds_1 : decode cX4_odds 1 = .ok (.invokestatic 157, 3) := by decide +kernel
theorem dX4_odds_4 : decode cX4_odds 4 = .ok (.ifCond .eq 10, 3) := by decide +kernel
theorem dX4_odds_7 : decode cX4_odds 7 = .ok (.iload_n 2, 1) := by decide +kernel
theorem dX4_odds_8 : decode cX4_odds 8 = .ok (.invokestatic 147, 3) := by decide +kernel
theorem dX4_odds_11 : decode cX4_odds 11 = .ok (.ifCond .ne 6, 3) := by decide +kernel
theorem dX4_odds_14 : decode cX4_odds 14 = .ok (.bipush (-102), 2) := by decide +kernel
theorem dX4_odds_16 : decode cX4_odds 16 = .ok (.ireturn, 1) := by decide +kernel
theorem dX4_odds_17 : decode cX4_odds 17 = .ok (.aload_n 0, 1) := by decide +kernel
theorem dX4_odds_18 : decode cX4_odds 18 = .ok (.invokevirtual 141, 3) := by decide +kernel
theorem dX4_odds_21 : decode cX4_odds 21 = .ok (.ifCond .eq 6, 3) := by decide +kernel
theorem dX4_odds_24 : decode cX4_odds 24 = .ok (.bipush (-103), 2) := by decide +kernel
theorem dX4_odds_26 : decode cX4_odds 26 = .ok (.ireturn, 1) := by decide +kernel
theorem dX4_odds_27 : decode cX4_odds 27 = .ok (.aload_n 0, 1) := by decide +kernel
theorem dX4_odds_28 : decode cX4_odds 28 = .ok (.getfield 28, 3) := by decide +kernel
theorem dX4_odds_31 : decode cX4_odds 31 = .ok (.iload_n 1, 1) := by decide +kernel
theorem dX4_odds_32 : decode cX4_odds 32 = .ok (.invokevirtual 160, 3) := by decide +kernel
theorem dX4_odds_35 : decode cX4_odds 35 = .ok (.aload_n 0, 1) := by decide +kernel
theorem dX4_odds_36 : decode cX4_odds 36 = .ok (.getfield 28, 3) := by decide +kernel
theorem dX4_odds_39 : decode cX4_odds 39 = .ok (.invokevirtual 163, 3) := by decide +kernel
theorem dX4_odds_42 : decode cX4_odds 42 = .ok (.iload_n 2, 1) := by decide +kernel
theorem dX4_odds_43 : decode cX4_odds 43 = .ok (.invokestatic 153, 3) := by decide +kernel
theorem dX4_odds_46 : decode cX4_odds 46 = .ok (.ireturn, 1) := by decide +kernel
theorem dX4_best_0 : decode cX4_best 0 = .ok (.iload_n 2, 1) := by decide +kernel
theorem dX4_best_1 : decode cX4_best 1 = .ok (.bipush 10, 2) := by decide +kernel
theorem dX4_best_3 : decode cX4_best 3 = .ok (.if_icmp .lt 13, 3) := by decide +kernel
theorem dX4_best_6 : decode cX4_best 6 = .ok (.iload_n 2, 1) := by decide +kernel
theorem dX4_best_7 : decode cX4_best 7 = .ok (.bipush 13, 2) := by decide +kernel
theorem dX4_best_9 : decode cX4_best 9 = .ok (.if_icmp .ge 7, 3) := by decide +kernel
theorem dX4_best_12 : decode cX4_best 12 = .ok (.iconst 1, 1) := by decide +kernel
theorem dX4_best_13 : decode cX4_best 13 = .ok (.goto 4, 3) := by decide +kernel
theorem dX4_best_16 : decode cX4_best 16 = .ok (.iconst 0, 1) := by decide +kernel
theorem dX4_best_17 : decode cX4_best 17 = .ok (.istore_n 3, 1) := by decide +kernel
theorem dX4_best_18 : decode cX4_best 18 = .ok (.iload_n 1, 1) := by decide +kernel
theorem dX4_best_19 : decode cX4_best 19 = .ok (.iconst 1, 1) := by decide +kernel
theorem dX4_best_20 : decode cX4_best 20 = .ok (.if_icmp .lt 19, 3) := by decide +kernel
theorem dX4_best_23 : decode cX4_best 23 = .ok (.iload_n 1, 1) := by decide +kernel
theorem dX4_best_24 : decode cX4_best 24 = .ok (.iconst 3, 1) := by decide +kernel
theorem dX4_best_25 : decode cX4_best 25 = .ok (.if_icmp .gt 14, 3) := by decide +kernel
theorem dX4_best_28 : decode cX4_best 28 = .ok (.iload_n 2, 1) := by decide +kernel
theorem dX4_best_29 : decode cX4_best 29 = .ok (.invokestatic 147, 3) := by decide +kernel
theorem dX4_best_32 : decode cX4_best 32 = .ok (.ifCond .ne 10, 3) := by decide +kernel
theorem dX4_best_35 : decode cX4_best 35 = .ok (.iload_n 3, 1) := by decide +kernel
theorem dX4_best_36 : decode cX4_best 36 = .ok (.ifCond .ne 6, 3) := by decide +kernel
theorem dX4_best_39 : decode cX4_best 39 = .ok (.bipush (-102), 2) := by decide +kernel
theorem dX4_best_41 : decode cX4_best 41 = .ok (.ireturn, 1) := by decide +kernel
theorem dX4_best_42 : decode cX4_best 42 = .ok (.aload_n 0, 1) := by decide +kernel
theorem dX4_best_43 : decode cX4_best 43 = .ok (.invokevirtual 141, 3) := by decide +kernel
theorem dX4_best_46 : decode cX4_best 46 = .ok (.ifCond .ne 12, 3) := by decide +kernel
theorem dX4_best_49 : decode cX4_best 49 = .ok (.aload_n 0, 1) := by decide +kernel
theorem dX4_best_50 : decode cX4_best 50 = .ok (.getfield 65, 3) := by decide +kernel
theorem dX4_best_53 : decode cX4_best 53 = .ok (.bipush 30, 2) := by decide +kernel
theorem dX4_best_55 : decode cX4_best 55 = .ok (.if_icmp .lt 6, 3) := by decide +kernel
theorem dX4_best_58 : decode cX4_best 58 = .ok (.bipush (-103), 2) := by decide +kernel
theorem dX4_best_60 : decode cX4_best 60 = .ok (.ireturn, 1) := by decide +kernel
theorem dX4_best_61 : decode cX4_best 61 = .ok (.aload_n 0, 1) := by decide +kernel
theorem dX4_best_62 : decode cX4_best 62 = .ok (.dup, 1) := by decide +kernel
theorem dX4_best_63 : decode cX4_best 63 = .ok (.getfield 65, 3) := by decide +kernel
theorem dX4_best_66 : decode cX4_best 66 = .ok (.iconst 1, 1) := by decide +kernel
theorem dX4_best_67 : decode cX4_best 67 = .ok (.iadd, 1) := by decide +kernel
theorem dX4_best_68 : decode cX4_best 68 = .ok (.putfield 65, 3) := by decide +kernel
theorem dX4_best_71 : decode cX4_best 71 = .ok (.iload_n 1, 1) := by decide +kernel
theorem dX4_best_72 : decode cX4_best 72 = .ok (.aload_n 0, 1) := by decide +kernel
theorem dX4_best_73 : decode cX4_best 73 = .ok (.getfield 19, 3) := by decide +kernel
theorem dX4_best_76 : decode cX4_best 76 = .ok (.getfield 91, 3) := by decide +kernel
theorem dX4_best_79 : decode cX4_best 79 = .ok (.if_icmp .le 5, 3) := by decide +kernel
theorem dX4_best_82 : decode cX4_best 82 = .ok (.iconst (-1), 1) := by decide +kernel
theorem dX4_best_83 : decode cX4_best 83 = .ok (.ireturn, 1) := by decide +kernel
theorem dX4_best_84 : decode cX4_best 84 = .ok (.aload_n 0, 1) := by decide +kernel
theorem dX4_best_85 : decode cX4_best 85 = .ok (.iload_n 1, 1) := by decide +kernel
theorem dX4_best_86 : decode cX4_best 86 = .ok (.invokevirtual 166, 3) := by decide +kernel
theorem dX4_best_89 : decode cX4_best 89 = .ok (.iload_n 3, 1) := by decide +kernel
theorem dX4_best_90 : decode cX4_best 90 = .ok (.ifCond .eq 15, 3) := by decide +kernel
theorem dX4_best_93 : decode cX4_best 93 = .ok (.aload_n 0, 1) := by decide +kernel
theorem dX4_best_94 : decode cX4_best 94 = .ok (.getfield 59, 3) := by decide +kernel
theorem dX4_best_97 : decode cX4_best 97 = .ok (.iload_n 2, 1) := by decide +kernel
theorem dX4_best_98 : decode cX4_best 98 = .ok (.bipush 10, 2) := by decide +kernel
theorem dX4_best_100 : decode cX4_best 100 = .ok (.isub, 1) := by decide +kernel
theorem dX4_best_101 : decode cX4_best 101 = .ok (.invokevirtual 138, 3) := by decide +kernel
theorem dX4_best_104 : decode cX4_best 104 = .ok (.ireturn, 1) := by decide +kernel
theorem dX4_best_105 : decode cX4_best 105 = .ok (.aload_n 0, 1) := by decide +kernel
theorem dX4_best_106 : decode cX4_best 106 = .ok (.getfield 59, 3) := by decide +kernel
theorem dX4_best_109 : decode cX4_best 109 = .ok (.invokevirtual 150, 3) := by decide +kernel
theorem dX4_best_112 : decode cX4_best 112 = .ok (.bipush 100, 2) := by decide +kernel
theorem dX4_best_114 : decode cX4_best 114 = .ok (.iload_n 2, 1) := by decide +kernel
theorem dX4_best_115 : decode cX4_best 115 = .ok (.invokestatic 153, 3) := by decide +kernel
theorem dX4_best_118 : decode cX4_best 118 = .ok (.ireturn, 1) := by decide +kernel
theorem dX4_more_0 : decode cX4_more 0 = .ok (.iload_n 1, 1) := by decide +kernel
theorem dX4_more_1 : decode cX4_more 1 = .ok (.invokestatic 157, 3) := by decide +kernel
theorem dX4_more_4 : decode cX4_more 4 = .ok (.ifCond .ne 6, 3) := by decide +kernel
theorem dX4_more_7 : decode cX4_more 7 = .ok (.bipush (-102), 2) := by decide +kernel
theorem dX4_more_9 : decode cX4_more 9 = .ok (.ireturn, 1) := by decide +kernel
theorem dX4_more_10 : decode cX4_more 10 = .ok (.aload_n 0, 1) := by decide +kernel
theorem dX4_more_11 : decode cX4_more 11 = .ok (.invokevirtual 141, 3) := by decide +kernel
theorem dX4_more_14 : decode cX4_more 14 = .ok (.ifCond .ne 14, 3) := by decide +kernel
theorem dX4_more_17 : decode cX4_more 17 = .ok (.aload_n 0, 1) := by decide +kernel
theorem dX4_more_18 : decode cX4_more 18 = .ok (.getfield 28, 3) := by decide +kernel
theorem dX4_more_21 : decode cX4_more 21 = .ok (.getfield 87, 3) := by decide +kernel
theorem dX4_more_24 : decode cX4_more 24 = .ok (.iconst 5, 1) := by decide +kernel
theorem dX4_more_25 : decode cX4_more 25 = .ok (.if_icmp .lt 6, 3) := by decide +kernel
theorem dX4_more_28 : decode cX4_more 28 = .ok (.bipush (-103), 2) := by decide +kernel
theorem dX4_more_30 : decode cX4_more 30 = .ok (.ireturn, 1) := by decide +kernel
theorem dX4_more_31 : decode cX4_more 31 = .ok (.iconst (-1), 1) := by decide +kernel
theorem dX4_more_32 : decode cX4_more 32 = .ok (.istore_n 2, 1) := by decide +kernel
theorem dX4_more_33 : decode cX4_more 33 = .ok (.aload_n 0, 1) := by decide +kernel
theorem dX4_more_34 : decode cX4_more 34 = .ok (.getfield 28, 3) := by decide +kernel
theorem dX4_more_37 : decode cX4_more 37 = .ok (.iload_n 1, 1) := by decide +kernel
theorem dX4_more_38 : decode cX4_more 38 = .ok (.invokevirtual 160, 3) := by decide +kernel
theorem dX4_more_41 : decode cX4_more 41 = .ok (.bipush 10, 2) := by decide +kernel
theorem dX4_more_43 : decode cX4_more 43 = .ok (.imul, 1) := by decide +kernel
theorem dX4_more_44 : decode cX4_more 44 = .ok (.istore_n 3, 1) := by decide +kernel
theorem dX4_more_45 : decode cX4_more 45 = .ok (.iconst 0, 1) := by decide +kernel
theorem dX4_more_46 : decode cX4_more 46 = .ok (.istore 4, 2) := by decide +kernel
theorem dX4_more_48 : decode cX4_more 48 = .ok (.iload 4, 2) := by decide +kernel
theorem dX4_more_50 : decode cX4_more 50 = .ok (.aload_n 0, 1) := by decide +kernel
theorem dX4_more_51 : decode cX4_more 51 = .ok (.getfield 19, 3) := by decide +kernel
theorem dX4_more_54 : decode cX4_more 54 = .ok (.getfield 91, 3) := by decide +kernel
theorem dX4_more_57 : decode cX4_more 57 = .ok (.if_icmp .ge 63, 3) := by decide +kernel
theorem dX4_more_60 : decode cX4_more 60 = .ok (.aload_n 0, 1) := by decide +kernel
theorem dX4_more_61 : decode cX4_more 61 = .ok (.getfield 28, 3) := by decide +kernel
theorem dX4_more_64 : decode cX4_more 64 = .ok (.iload 4, 2) := by decide +kernel
theorem dX4_more_66 : decode cX4_more 66 = .ok (.invokevirtual 109, 3) := by decide +kernel
theorem dX4_more_69 : decode cX4_more 69 = .ok (.ifCond .ne 45, 3) := by decide +kernel
theorem dX4_more_72 : decode cX4_more 72 = .ok (.aload_n 0, 1) := by decide +kernel
theorem dX4_more_73 : decode cX4_more 73 = .ok (.getfield 56, 3) := by decide +kernel
theorem dX4_more_76 : decode cX4_more 76 = .ok (.aload_n 0, 1) := by decide +kernel
theorem dX4_more_77 : decode cX4_more 77 = .ok (.getfield 28, 3) := by decide +kernel
theorem dX4_more_80 : decode cX4_more 80 = .ok (.invokevirtual 169, 3) := by decide +kernel
theorem dX4_more_83 : decode cX4_more 83 = .ok (.aload_n 0, 1) := by decide +kernel
theorem dX4_more_84 : decode cX4_more 84 = .ok (.getfield 56, 3) := by decide +kernel
theorem dX4_more_87 : decode cX4_more 87 = .ok (.iload 4, 2) := by decide +kernel
theorem dX4_more_89 : decode cX4_more 89 = .ok (.invokevirtual 125, 3) := by decide +kernel
theorem dX4_more_92 : decode cX4_more 92 = .ok (.aload_n 0, 1) := by decide +kernel
theorem dX4_more_93 : decode cX4_more 93 = .ok (.getfield 56, 3) := by decide +kernel
theorem dX4_more_96 : decode cX4_more 96 = .ok (.iload_n 1, 1) := by decide +kernel
theorem dX4_more_97 : decode cX4_more 97 = .ok (.invokevirtual 160, 3) := by decide +kernel
theorem dX4_more_100 : decode cX4_more 100 = .ok (.istore 5, 2) := by decide +kernel
theorem dX4_more_102 : decode cX4_more 102 = .ok (.iload 5, 2) := by decide +kernel
theorem dX4_more_104 : decode cX4_more 104 = .ok (.iload_n 3, 1) := by decide +kernel
theorem dX4_more_105 : decode cX4_more 105 = .ok (.if_icmp .le 9, 3) := by decide +kernel
theorem dX4_more_108 : decode cX4_more 108 = .ok (.iload 5, 2) := by decide +kernel
theorem dX4_more_110 : decode cX4_more 110 = .ok (.istore_n 3, 1) := by decide +kernel
theorem dX4_more_111 : decode cX4_more 111 = .ok (.iload 4, 2) := by decide +kernel
theorem dX4_more_113 : decode cX4_more 113 = .ok (.istore_n 2, 1) := by decide +kernel
theorem dX4_more_114 : decode cX4_more 114 = .ok (.iinc 4 1, 3) := by decide +kernel
theorem dX4_more_117 : decode cX4_more 117 = .ok (.goto (-69), 3) := by decide +kernel
theorem dX4_more_120 : decode cX4_more 120 = .ok (.iload_n 2, 1) := by decide +kernel
theorem dX4_more_121 : decode cX4_more 121 = .ok (.ireturn, 1) := by decide +kernel
theorem dX4_tryIt_0 : decode cX4_tryIt 0 = .ok (.aload_n 0, 1) := by decide +kernel
theorem dX4_tryIt_1 : decode cX4_tryIt 1 = .ok (.getfield 19, 3) := by decide +kernel
end
section
theorem dX4_tryIt_4 : decode cX4_tryIt 4 = .ok (.iload_n 1, 1) := by decide +kernel
theorem dX4_tryIt_5 : decode cX4_tryIt 5 = .ok (.invokevirtual 92, 3) := by decide +kernel
theorem dX4_tryIt_8 : decode cX4_tryIt 8 = .ok (.ifCond .ne 6, 3) := by decide +kernel
theorem dX4_tryIt_11 : decode cX4_tryIt 11 = .ok (.bipush (-101), 2) := by decide +kernel
theorem dX4_tryIt_13 : decode cX4_tryIt 13 = .ok (.ireturn, 1) := by decide +kernel
theorem dX4_tryIt_14 : decode cX4_tryIt 14 = .ok (.iload_n 2, 1) := by decide +kernel
theorem dX4_tryIt_15 : decode cX4_tryIt 15 = .ok (.ifCond .lt 8, 3) := by decide +kernel
theorem dX4_tryIt_18 : decode cX4_tryIt 18 = .ok (.iload_n 2, 1) := by decide +kernel
theorem dX4_tryIt_19 : decode cX4_tryIt 19 = .ok (.iconst 5, 1) := by decide +kernel
theorem dX4_tryIt_20 : decode cX4_tryIt 20 = .ok (.if_icmp .lt 6, 3) := by decide +kernel
theorem dX4_tryIt_23 : decode cX4_tryIt 23 = .ok (.bipush (-102), 2) := by decide +kernel
theorem dX4_tryIt_25 : decode cX4_tryIt 25 = .ok (.ireturn, 1) := by decide +kernel
theorem dX4_tryIt_26 : decode cX4_tryIt 26 = .ok (.aload_n 0, 1) := by decide +kernel
theorem dX4_tryIt_27 : decode cX4_tryIt 27 = .ok (.getfield 35, 3) := by decide +kernel
theorem dX4_tryIt_30 : decode cX4_tryIt 30 = .ok (.getfield 90, 3) := by decide +kernel
theorem dX4_tryIt_33 : decode cX4_tryIt 33 = .ok (.bipush 8, 2) := by decide +kernel
theorem dX4_tryIt_35 : decode cX4_tryIt 35 = .ok (.if_icmp .lt 6, 3) := by decide +kernel
theorem dX4_tryIt_38 : decode cX4_tryIt 38 = .ok (.bipush (-104), 2) := by decide +kernel
theorem dX4_tryIt_40 : decode cX4_tryIt 40 = .ok (.ireturn, 1) := by decide +kernel
theorem dX4_tryIt_41 : decode cX4_tryIt 41 = .ok (.aload_n 0, 1) := by decide +kernel
theorem dX4_tryIt_42 : decode cX4_tryIt 42 = .ok (.getfield 35, 3) := by decide +kernel
theorem dX4_tryIt_45 : decode cX4_tryIt 45 = .ok (.iload_n 1, 1) := by decide +kernel
theorem dX4_tryIt_46 : decode cX4_tryIt 46 = .ok (.iload_n 2, 1) := by decide +kernel
theorem dX4_tryIt_47 : decode cX4_tryIt 47 = .ok (.iload_n 3, 1) := by decide +kernel
theorem dX4_tryIt_48 : decode cX4_tryIt 48 = .ok (.invokevirtual 173, 3) := by decide +kernel
theorem dX4_tryIt_51 : decode cX4_tryIt 51 = .ok (.aload_n 0, 1) := by decide +kernel
theorem dX4_tryIt_52 : decode cX4_tryIt 52 = .ok (.getfield 35, 3) := by decide +kernel
theorem dX4_tryIt_55 : decode cX4_tryIt 55 = .ok (.getfield 90, 3) := by decide +kernel
theorem dX4_tryIt_58 : decode cX4_tryIt 58 = .ok (.ireturn, 1) := by decide +kernel
theorem dX4_forget_0 : decode cX4_forget 0 = .ok (.aload_n 0, 1) := by decide +kernel
theorem dX4_forget_1 : decode cX4_forget 1 = .ok (.getfield 35, 3) := by decide +kernel
theorem dX4_forget_4 : decode cX4_forget 4 = .ok (.getfield 90, 3) := by decide +kernel
theorem dX4_forget_7 : decode cX4_forget 7 = .ok (.istore_n 1, 1) := by decide +kernel
theorem dX4_forget_8 : decode cX4_forget 8 = .ok (.aload_n 0, 1) := by decide +kernel
theorem dX4_forget_9 : decode cX4_forget 9 = .ok (.getfield 35, 3) := by decide +kernel
theorem dX4_forget_12 : decode cX4_forget 12 = .ok (.iconst 0, 1) := by decide +kernel
theorem dX4_forget_13 : decode cX4_forget 13 = .ok (.putfield 90, 3) := by decide +kernel
theorem dX4_forget_16 : decode cX4_forget 16 = .ok (.iload_n 1, 1) := by decide +kernel
theorem dX4_forget_17 : decode cX4_forget 17 = .ok (.ireturn, 1) := by decide +kernel
theorem dX4_meets_0 : decode cX4_meets 0 = .ok (.iload_n 1, 1) := by decide +kernel
theorem dX4_meets_1 : decode cX4_meets 1 = .ok (.iconst 1, 1) := by decide +kernel
theorem dX4_meets_2 : decode cX4_meets 2 = .ok (.if_icmp .lt 22, 3) := by decide +kernel
theorem dX4_meets_5 : decode cX4_meets 5 = .ok (.iload_n 1, 1) := by decide +kernel
theorem dX4_meets_6 : decode cX4_meets 6 = .ok (.bipush 60, 2) := by decide +kernel
theorem dX4_meets_8 : decode cX4_meets 8 = .ok (.if_icmp .gt 16, 3) := by decide +kernel
theorem dX4_meets_11 : decode cX4_meets 11 = .ok (.iload_n 2, 1) := by decide +kernel
theorem dX4_meets_12 : decode cX4_meets 12 = .ok (.ifCond .lt 12, 3) := by decide +kernel
theorem dX4_meets_15 : decode cX4_meets 15 = .ok (.iload_n 3, 1) := by decide +kernel
theorem dX4_meets_16 : decode cX4_meets 16 = .ok (.ifCond .lt 8, 3) := by decide +kernel
theorem dX4_meets_19 : decode cX4_meets 19 = .ok (.iload_n 3, 1) := by decide +kernel
theorem dX4_meets_20 : decode cX4_meets 20 = .ok (.iconst 2, 1) := by decide +kernel
theorem dX4_meets_21 : decode cX4_meets 21 = .ok (.if_icmp .le 6, 3) := by decide +kernel
theorem dX4_meets_24 : decode cX4_meets 24 = .ok (.bipush (-102), 2) := by decide +kernel
theorem dX4_meets_26 : decode cX4_meets 26 = .ok (.ireturn, 1) := by decide +kernel
theorem dX4_meets_27 : decode cX4_meets 27 = .ok (.aload_n 0, 1) := by decide +kernel
theorem dX4_meets_28 : decode cX4_meets 28 = .ok (.invokevirtual 141, 3) := by decide +kernel
theorem dX4_meets_31 : decode cX4_meets 31 = .ok (.ifCond .eq 6, 3) := by decide +kernel
theorem dX4_meets_34 : decode cX4_meets 34 = .ok (.bipush (-103), 2) := by decide +kernel
theorem dX4_meets_36 : decode cX4_meets 36 = .ok (.ireturn, 1) := by decide +kernel
theorem dX4_meets_37 : decode cX4_meets 37 = .ok (.iconst 0, 1) := by decide +kernel
theorem dX4_meets_38 : decode cX4_meets 38 = .ok (.istore 4, 2) := by decide +kernel
theorem dX4_meets_40 : decode cX4_meets 40 = .ok (.sipush 20000, 3) := by decide +kernel
theorem dX4_meets_43 : decode cX4_meets 43 = .ok (.istore 5, 2) := by decide +kernel
theorem dX4_meets_45 : decode cX4_meets 45 = .ok (.iload_n 2, 1) := by decide +kernel
theorem dX4_meets_46 : decode cX4_meets 46 = .ok (.istore 6, 2) := by decide +kernel
theorem dX4_meets_48 : decode cX4_meets 48 = .ok (.iconst 0, 1) := by decide +kernel
theorem dX4_meets_49 : decode cX4_meets 49 = .ok (.istore 7, 2) := by decide +kernel
theorem dX4_meets_51 : decode cX4_meets 51 = .ok (.iload 7, 2) := by decide +kernel
theorem dX4_meets_53 : decode cX4_meets 53 = .ok (.iload_n 1, 1) := by decide +kernel
theorem dX4_meets_54 : decode cX4_meets 54 = .ok (.if_icmp .ge 95, 3) := by decide +kernel
theorem dX4_meets_57 : decode cX4_meets 57 = .ok (.iconst 0, 1) := by decide +kernel
theorem dX4_meets_58 : decode cX4_meets 58 = .ok (.istore 8, 2) := by decide +kernel
theorem dX4_meets_60 : decode cX4_meets 60 = .ok (.iconst 0, 1) := by decide +kernel
theorem dX4_meets_61 : decode cX4_meets 61 = .ok (.istore 9, 2) := by decide +kernel
theorem dX4_meets_63 : decode cX4_meets 63 = .ok (.iload 9, 2) := by decide +kernel
theorem dX4_meets_65 : decode cX4_meets 65 = .ok (.aload_n 0, 1) := by decide +kernel
theorem dX4_meets_66 : decode cX4_meets 66 = .ok (.getfield 28, 3) := by decide +kernel
theorem dX4_meets_69 : decode cX4_meets 69 = .ok (.getfield 87, 3) := by decide +kernel
theorem dX4_meets_72 : decode cX4_meets 72 = .ok (.if_icmp .ge 42, 3) := by decide +kernel
theorem dX4_meets_75 : decode cX4_meets 75 = .ok (.iload 6, 2) := by decide +kernel
theorem dX4_meets_77 : decode cX4_meets 77 = .ok (.invokestatic 176, 3) := by decide +kernel
theorem dX4_meets_80 : decode cX4_meets 80 = .ok (.istore 6, 2) := by decide +kernel
theorem dX4_meets_82 : decode cX4_meets 82 = .ok (.iload 6, 2) := by decide +kernel
theorem dX4_meets_84 : decode cX4_meets 84 = .ok (.invokestatic 179, 3) := by decide +kernel
theorem dX4_meets_87 : decode cX4_meets 87 = .ok (.aload_n 0, 1) := by decide +kernel
theorem dX4_meets_88 : decode cX4_meets 88 = .ok (.getfield 28, 3) := by decide +kernel
theorem dX4_meets_91 : decode cX4_meets 91 = .ok (.iload 9, 2) := by decide +kernel
theorem dX4_meets_93 : decode cX4_meets 93 = .ok (.invokevirtual 112, 3) := by decide +kernel
theorem dX4_meets_96 : decode cX4_meets 96 = .ok (.if_icmp .lt 12, 3) := by decide +kernel
theorem dX4_meets_99 : decode cX4_meets 99 = .ok (.iload 8, 2) := by decide +kernel
theorem dX4_meets_101 : decode cX4_meets 101 = .ok (.iconst 1, 1) := by decide +kernel
theorem dX4_meets_102 : decode cX4_meets 102 = .ok (.iload 9, 2) := by decide +kernel
theorem dX4_meets_104 : decode cX4_meets 104 = .ok (.ishl, 1) := by decide +kernel
theorem dX4_meets_105 : decode cX4_meets 105 = .ok (.ior, 1) := by decide +kernel
theorem dX4_meets_106 : decode cX4_meets 106 = .ok (.istore 8, 2) := by decide +kernel
theorem dX4_meets_108 : decode cX4_meets 108 = .ok (.iinc 9 1, 3) := by decide +kernel
theorem dX4_meets_111 : decode cX4_meets 111 = .ok (.goto (-48), 3) := by decide +kernel
theorem dX4_meets_114 : decode cX4_meets 114 = .ok (.iload 4, 2) := by decide +kernel
theorem dX4_meets_116 : decode cX4_meets 116 = .ok (.iload 8, 2) := by decide +kernel
theorem dX4_meets_118 : decode cX4_meets 118 = .ok (.ifCond .ne 7, 3) := by decide +kernel
theorem dX4_meets_121 : decode cX4_meets 121 = .ok (.iconst 1, 1) := by decide +kernel
theorem dX4_meets_122 : decode cX4_meets 122 = .ok (.goto 4, 3) := by decide +kernel
theorem dX4_meets_125 : decode cX4_meets 125 = .ok (.iconst 0, 1) := by decide +kernel
theorem dX4_meets_126 : decode cX4_meets 126 = .ok (.iadd, 1) := by decide +kernel
theorem dX4_meets_127 : decode cX4_meets 127 = .ok (.istore 4, 2) := by decide +kernel
theorem dX4_meets_129 : decode cX4_meets 129 = .ok (.iload 5, 2) := by decide +kernel
theorem dX4_meets_131 : decode cX4_meets 131 = .ok (.aload_n 0, 1) := by decide +kernel
theorem dX4_meets_132 : decode cX4_meets 132 = .ok (.getfield 28, 3) := by decide +kernel
theorem dX4_meets_135 : decode cX4_meets 135 = .ok (.iload 8, 2) := by decide +kernel
theorem dX4_meets_137 : decode cX4_meets 137 = .ok (.invokevirtual 144, 3) := by decide +kernel
theorem dX4_meets_140 : decode cX4_meets 140 = .ok (.iadd, 1) := by decide +kernel
theorem dX4_meets_141 : decode cX4_meets 141 = .ok (.istore 5, 2) := by decide +kernel
theorem dX4_meets_143 : decode cX4_meets 143 = .ok (.iinc 7 1, 3) := by decide +kernel
theorem dX4_meets_146 : decode cX4_meets 146 = .ok (.goto (-95), 3) := by decide +kernel
theorem dX4_meets_149 : decode cX4_meets 149 = .ok (.iload_n 3, 1) := by decide +kernel
theorem dX4_meets_150 : decode cX4_meets 150 = .ok (.ifCond .ne 6, 3) := by decide +kernel
theorem dX4_meets_153 : decode cX4_meets 153 = .ok (.iload 4, 2) := by decide +kernel
theorem dX4_meets_155 : decode cX4_meets 155 = .ok (.ireturn, 1) := by decide +kernel
theorem dX4_meets_156 : decode cX4_meets 156 = .ok (.iload_n 3, 1) := by decide +kernel
theorem dX4_meets_157 : decode cX4_meets 157 = .ok (.iconst 1, 1) := by decide +kernel
theorem dX4_meets_158 : decode cX4_meets 158 = .ok (.if_icmp .ne 8, 3) := by decide +kernel
theorem dX4_meets_161 : decode cX4_meets 161 = .ok (.iload 5, 2) := by decide +kernel
theorem dX4_meets_163 : decode cX4_meets 163 = .ok (.goto 5, 3) := by decide +kernel
theorem dX4_meets_166 : decode cX4_meets 166 = .ok (.iload 6, 2) := by decide +kernel
theorem dX4_meets_168 : decode cX4_meets 168 = .ok (.ireturn, 1) := by decide +kernel
theorem dX4_image_0 : decode cX4_image 0 = .ok (.aload_n 0, 1) := by decide +kernel
theorem dX4_image_1 : decode cX4_image 1 = .ok (.invokevirtual 141, 3) := by decide +kernel
theorem dX4_image_4 : decode cX4_image 4 = .ok (.ifCond .eq 6, 3) := by decide +kernel
theorem dX4_image_7 : decode cX4_image 7 = .ok (.bipush (-103), 2) := by decide +kernel
theorem dX4_image_9 : decode cX4_image 9 = .ok (.ireturn, 1) := by decide +kernel
theorem dX4_image_10 : decode cX4_image 10 = .ok (.aload_n 0, 1) := by decide +kernel
theorem dX4_image_11 : decode cX4_image 11 = .ok (.getfield 47, 3) := by decide +kernel
theorem dX4_image_14 : decode cX4_image 14 = .ok (.aload_n 0, 1) := by decide +kernel
theorem dX4_image_15 : decode cX4_image 15 = .ok (.getfield 28, 3) := by decide +kernel
theorem dX4_image_18 : decode cX4_image 18 = .ok (.invokevirtual 169, 3) := by decide +kernel
theorem dX4_image_21 : decode cX4_image 21 = .ok (.aload_n 0, 1) := by decide +kernel
theorem dX4_image_22 : decode cX4_image 22 = .ok (.getfield 50, 3) := by decide +kernel
theorem dX4_image_25 : decode cX4_image 25 = .ok (.aload_n 0, 1) := by decide +kernel
theorem dX4_image_26 : decode cX4_image 26 = .ok (.getfield 35, 3) := by decide +kernel
theorem dX4_image_29 : decode cX4_image 29 = .ok (.invokevirtual 182, 3) := by decide +kernel
theorem dX4_image_32 : decode cX4_image 32 = .ok (.aload_n 0, 1) := by decide +kernel
theorem dX4_image_33 : decode cX4_image 33 = .ok (.aload_n 0, 1) := by decide +kernel
theorem dX4_image_34 : decode cX4_image 34 = .ok (.getfield 39, 3) := by decide +kernel
theorem dX4_image_37 : decode cX4_image 37 = .ok (.putfield 53, 3) := by decide +kernel
theorem dX4_image_40 : decode cX4_image 40 = .ok (.aload_n 0, 1) := by decide +kernel
theorem dX4_image_41 : decode cX4_image 41 = .ok (.iconst 1, 1) := by decide +kernel
theorem dX4_image_42 : decode cX4_image 42 = .ok (.putfield 43, 3) := by decide +kernel
theorem dX4_image_45 : decode cX4_image 45 = .ok (.aload_n 0, 1) := by decide +kernel
theorem dX4_image_46 : decode cX4_image 46 = .ok (.getfield 39, 3) := by decide +kernel
theorem dX4_image_49 : decode cX4_image 49 = .ok (.ireturn, 1) := by decide +kernel
theorem dX4_restore_0 : decode cX4_restore 0 = .ok (.aload_n 0, 1) := by decide +kernel
theorem dX4_restore_1 : decode cX4_restore 1 = .ok (.getfield 43, 3) := by decide +kernel
theorem dX4_restore_4 : decode cX4_restore 4 = .ok (.ifCond .ne 6, 3) := by decide +kernel
theorem dX4_restore_7 : decode cX4_restore 7 = .ok (.bipush (-103), 2) := by decide +kernel
theorem dX4_restore_9 : decode cX4_restore 9 = .ok (.ireturn, 1) := by decide +kernel
theorem dX4_restore_10 : decode cX4_restore 10 = .ok (.aload_n 0, 1) := by decide +kernel
theorem dX4_restore_11 : decode cX4_restore 11 = .ok (.getfield 28, 3) := by decide +kernel
theorem dX4_restore_14 : decode cX4_restore 14 = .ok (.aload_n 0, 1) := by decide +kernel
theorem dX4_restore_15 : decode cX4_restore 15 = .ok (.getfield 47, 3) := by decide +kernel
theorem dX4_restore_18 : decode cX4_restore 18 = .ok (.invokevirtual 169, 3) := by decide +kernel
theorem dX4_restore_21 : decode cX4_restore 21 = .ok (.aload_n 0, 1) := by decide +kernel
theorem dX4_restore_22 : decode cX4_restore 22 = .ok (.getfield 35, 3) := by decide +kernel
theorem dX4_restore_25 : decode cX4_restore 25 = .ok (.aload_n 0, 1) := by decide +kernel
theorem dX4_restore_26 : decode cX4_restore 26 = .ok (.getfield 50, 3) := by decide +kernel
theorem dX4_restore_29 : decode cX4_restore 29 = .ok (.invokevirtual 182, 3) := by decide +kernel
theorem dX4_restore_32 : decode cX4_restore 32 = .ok (.aload_n 0, 1) := by decide +kernel
theorem dX4_restore_33 : decode cX4_restore 33 = .ok (.aload_n 0, 1) := by decide +kernel
theorem dX4_restore_34 : decode cX4_restore 34 = .ok (.getfield 53, 3) := by decide +kernel
theorem dX4_restore_37 : decode cX4_restore 37 = .ok (.putfield 39, 3) := by decide +kernel
theorem dX4_restore_40 : decode cX4_restore 40 = .ok (.aload_n 0, 1) := by decide +kernel
theorem dX4_restore_41 : decode cX4_restore 41 = .ok (.getfield 39, 3) := by decide +kernel
theorem dX4_restore_44 : decode cX4_restore 44 = .ok (.ireturn, 1) := by decide +kernel
theorem dX4_count_0 : decode cX4_count 0 = .ok (.iload_n 1, 1) := by decide +kernel
theorem dX4_count_1 : decode cX4_count 1 = .ok (.tableswitch 128 0 9 #[55, 63, 71, 80, 89, 97, 102, 110, 118, 123], 55) := by decide +kernel
theorem dX4_count_56 : decode cX4_count 56 = .ok (.aload_n 0, 1) := by decide +kernel
theorem dX4_count_57 : decode cX4_count 57 = .ok (.getfield 19, 3) := by decide +kernel
theorem dX4_count_60 : decode cX4_count 60 = .ok (.getfield 91, 3) := by decide +kernel
theorem dX4_count_63 : decode cX4_count 63 = .ok (.ireturn, 1) := by decide +kernel
theorem dX4_count_64 : decode cX4_count 64 = .ok (.aload_n 0, 1) := by decide +kernel
theorem dX4_count_65 : decode cX4_count 65 = .ok (.getfield 28, 3) := by decide +kernel
theorem dX4_count_68 : decode cX4_count 68 = .ok (.getfield 87, 3) := by decide +kernel
theorem dX4_count_71 : decode cX4_count 71 = .ok (.ireturn, 1) := by decide +kernel
theorem dX4_count_72 : decode cX4_count 72 = .ok (.aload_n 0, 1) := by decide +kernel
theorem dX4_count_73 : decode cX4_count 73 = .ok (.getfield 28, 3) := by decide +kernel
theorem dX4_count_76 : decode cX4_count 76 = .ok (.iconst 1, 1) := by decide +kernel
theorem dX4_count_77 : decode cX4_count 77 = .ok (.invokevirtual 185, 3) := by decide +kernel
theorem dX4_count_80 : decode cX4_count 80 = .ok (.ireturn, 1) := by decide +kernel
theorem dX4_count_81 : decode cX4_count 81 = .ok (.aload_n 0, 1) := by decide +kernel
theorem dX4_count_82 : decode cX4_count 82 = .ok (.getfield 28, 3) := by decide +kernel
theorem dX4_count_85 : decode cX4_count 85 = .ok (.iconst 2, 1) := by decide +kernel
theorem dX4_count_86 : decode cX4_count 86 = .ok (.invokevirtual 185, 3) := by decide +kernel
theorem dX4_count_89 : decode cX4_count 89 = .ok (.ireturn, 1) := by decide +kernel
theorem dX4_count_90 : decode cX4_count 90 = .ok (.aload_n 0, 1) := by decide +kernel
theorem dX4_count_91 : decode cX4_count 91 = .ok (.getfield 28, 3) := by decide +kernel
theorem dX4_count_94 : decode cX4_count 94 = .ok (.invokevirtual 188, 3) := by decide +kernel
theorem dX4_count_97 : decode cX4_count 97 = .ok (.ireturn, 1) := by decide +kernel
theorem dX4_count_98 : decode cX4_count 98 = .ok (.aload_n 0, 1) := by decide +kernel
theorem dX4_count_99 : decode cX4_count 99 = .ok (.getfield 39, 3) := by decide +kernel
theorem dX4_count_102 : decode cX4_count 102 = .ok (.ireturn, 1) := by decide +kernel
theorem dX4_count_103 : decode cX4_count 103 = .ok (.aload_n 0, 1) := by decide +kernel
theorem dX4_count_104 : decode cX4_count 104 = .ok (.getfield 35, 3) := by decide +kernel
theorem dX4_count_107 : decode cX4_count 107 = .ok (.getfield 90, 3) := by decide +kernel
theorem dX4_count_110 : decode cX4_count 110 = .ok (.ireturn, 1) := by decide +kernel
theorem dX4_count_111 : decode cX4_count 111 = .ok (.aload_n 0, 1) := by decide +kernel
theorem dX4_count_112 : decode cX4_count 112 = .ok (.getfield 12, 3) := by decide +kernel
theorem dX4_count_115 : decode cX4_count 115 = .ok (.getfield 68, 3) := by decide +kernel
theorem dX4_count_118 : decode cX4_count 118 = .ok (.ireturn, 1) := by decide +kernel
theorem dX4_count_119 : decode cX4_count 119 = .ok (.aload_n 0, 1) := by decide +kernel
theorem dX4_count_120 : decode cX4_count 120 = .ok (.getfield 62, 3) := by decide +kernel
theorem dX4_count_123 : decode cX4_count 123 = .ok (.ireturn, 1) := by decide +kernel
theorem dX4_count_124 : decode cX4_count 124 = .ok (.aload_n 0, 1) := by decide +kernel
theorem dX4_count_125 : decode cX4_count 125 = .ok (.getfield 65, 3) := by decide +kernel
theorem dX4_count_128 : decode cX4_count 128 = .ok (.ireturn, 1) := by decide +kernel
theorem dX4_count_129 : decode cX4_count 129 = .ok (.bipush (-102), 2) := by decide +kernel
theorem dX4_count_131 : decode cX4_count 131 = .ok (.ireturn, 1) := by decide +kernel
theorem dX4_digest_0 : decode cX4_digest 0 = .ok (.ldc2_w 191, 3) := by decide +kernel
theorem dX4_digest_3 : decode cX4_digest 3 = .ok (.lstore_n 1, 1) := by decide +kernel
theorem dX4_digest_4 : decode cX4_digest 4 = .ok (.iconst 0, 1) := by decide +kernel
theorem dX4_digest_5 : decode cX4_digest 5 = .ok (.istore_n 3, 1) := by decide +kernel
theorem dX4_digest_6 : decode cX4_digest 6 = .ok (.iload_n 3, 1) := by decide +kernel
theorem dX4_digest_7 : decode cX4_digest 7 = .ok (.aload_n 0, 1) := by decide +kernel
theorem dX4_digest_8 : decode cX4_digest 8 = .ok (.getfield 19, 3) := by decide +kernel
theorem dX4_digest_11 : decode cX4_digest 11 = .ok (.getfield 91, 3) := by decide +kernel
theorem dX4_digest_14 : decode cX4_digest 14 = .ok (.if_icmp .ge 38, 3) := by decide +kernel
theorem dX4_digest_17 : decode cX4_digest 17 = .ok (.iconst 0, 1) := by decide +kernel
theorem dX4_digest_18 : decode cX4_digest 18 = .ok (.istore 4, 2) := by decide +kernel
theorem dX4_digest_20 : decode cX4_digest 20 = .ok (.iload 4, 2) := by decide +kernel
theorem dX4_digest_22 : decode cX4_digest 22 = .ok (.bipush 6, 2) := by decide +kernel
theorem dX4_digest_24 : decode cX4_digest 24 = .ok (.if_icmp .gt 22, 3) := by decide +kernel
theorem dX4_digest_27 : decode cX4_digest 27 = .ok (.lload_n 1, 1) := by decide +kernel
theorem dX4_digest_28 : decode cX4_digest 28 = .ok (.aload_n 0, 1) := by decide +kernel
theorem dX4_digest_29 : decode cX4_digest 29 = .ok (.iload_n 3, 1) := by decide +kernel
theorem dX4_digest_30 : decode cX4_digest 30 = .ok (.iload 4, 2) := by decide +kernel
theorem dX4_digest_32 : decode cX4_digest 32 = .ok (.invokevirtual 193, 3) := by decide +kernel
theorem dX4_digest_35 : decode cX4_digest 35 = .ok (.i2l, 1) := by decide +kernel
theorem dX4_digest_36 : decode cX4_digest 36 = .ok (.invokestatic 197, 3) := by decide +kernel
theorem dX4_digest_39 : decode cX4_digest 39 = .ok (.lstore_n 1, 1) := by decide +kernel
theorem dX4_digest_40 : decode cX4_digest 40 = .ok (.iinc 4 1, 3) := by decide +kernel
theorem dX4_digest_43 : decode cX4_digest 43 = .ok (.goto (-23), 3) := by decide +kernel
theorem dX4_digest_46 : decode cX4_digest 46 = .ok (.iinc 3 1, 3) := by decide +kernel
theorem dX4_digest_49 : decode cX4_digest 49 = .ok (.goto (-43), 3) := by decide +kernel
theorem dX4_digest_52 : decode cX4_digest 52 = .ok (.iconst 0, 1) := by decide +kernel
theorem dX4_digest_53 : decode cX4_digest 53 = .ok (.istore_n 3, 1) := by decide +kernel
theorem dX4_digest_54 : decode cX4_digest 54 = .ok (.iload_n 3, 1) := by decide +kernel
theorem dX4_digest_55 : decode cX4_digest 55 = .ok (.aload_n 0, 1) := by decide +kernel
theorem dX4_digest_56 : decode cX4_digest 56 = .ok (.getfield 28, 3) := by decide +kernel
theorem dX4_digest_59 : decode cX4_digest 59 = .ok (.getfield 87, 3) := by decide +kernel
theorem dX4_digest_62 : decode cX4_digest 62 = .ok (.if_icmp .ge 23, 3) := by decide +kernel
theorem dX4_digest_65 : decode cX4_digest 65 = .ok (.lload_n 1, 1) := by decide +kernel
theorem dX4_digest_66 : decode cX4_digest 66 = .ok (.aload_n 0, 1) := by decide +kernel
theorem dX4_digest_67 : decode cX4_digest 67 = .ok (.getfield 28, 3) := by decide +kernel
theorem dX4_digest_70 : decode cX4_digest 70 = .ok (.iload_n 3, 1) := by decide +kernel
theorem dX4_digest_71 : decode cX4_digest 71 = .ok (.invokevirtual 138, 3) := by decide +kernel
theorem dX4_digest_74 : decode cX4_digest 74 = .ok (.i2l, 1) := by decide +kernel
theorem dX4_digest_75 : decode cX4_digest 75 = .ok (.invokestatic 197, 3) := by decide +kernel
theorem dX4_digest_78 : decode cX4_digest 78 = .ok (.lstore_n 1, 1) := by decide +kernel
theorem dX4_digest_79 : decode cX4_digest 79 = .ok (.iinc 3 1, 3) := by decide +kernel
theorem dX4_digest_82 : decode cX4_digest 82 = .ok (.goto (-28), 3) := by decide +kernel
theorem dX4_digest_85 : decode cX4_digest 85 = .ok (.aload_n 0, 1) := by decide +kernel
theorem dX4_digest_86 : decode cX4_digest 86 = .ok (.invokevirtual 141, 3) := by decide +kernel
theorem dX4_digest_89 : decode cX4_digest 89 = .ok (.ifCond .ne 62, 3) := by decide +kernel
theorem dX4_digest_92 : decode cX4_digest 92 = .ok (.lload_n 1, 1) := by decide +kernel
theorem dX4_digest_93 : decode cX4_digest 93 = .ok (.aload_n 0, 1) := by decide +kernel
theorem dX4_digest_94 : decode cX4_digest 94 = .ok (.iconst 0, 1) := by decide +kernel
theorem dX4_digest_95 : decode cX4_digest 95 = .ok (.invokevirtual 201, 3) := by decide +kernel
theorem dX4_digest_98 : decode cX4_digest 98 = .ok (.i2l, 1) := by decide +kernel
theorem dX4_digest_99 : decode cX4_digest 99 = .ok (.invokestatic 197, 3) := by decide +kernel
theorem dX4_digest_102 : decode cX4_digest 102 = .ok (.lstore_n 1, 1) := by decide +kernel
theorem dX4_digest_103 : decode cX4_digest 103 = .ok (.lload_n 1, 1) := by decide +kernel
theorem dX4_digest_104 : decode cX4_digest 104 = .ok (.aload_n 0, 1) := by decide +kernel
theorem dX4_digest_105 : decode cX4_digest 105 = .ok (.iconst 0, 1) := by decide +kernel
theorem dX4_digest_106 : decode cX4_digest 106 = .ok (.invokevirtual 204, 3) := by decide +kernel
theorem dX4_digest_109 : decode cX4_digest 109 = .ok (.i2l, 1) := by decide +kernel
theorem dX4_digest_110 : decode cX4_digest 110 = .ok (.invokestatic 197, 3) := by decide +kernel
theorem dX4_digest_113 : decode cX4_digest 113 = .ok (.lstore_n 1, 1) := by decide +kernel
theorem dX4_digest_114 : decode cX4_digest 114 = .ok (.lload_n 1, 1) := by decide +kernel
theorem dX4_digest_115 : decode cX4_digest 115 = .ok (.aload_n 0, 1) := by decide +kernel
theorem dX4_digest_116 : decode cX4_digest 116 = .ok (.iconst 1, 1) := by decide +kernel
theorem dX4_digest_117 : decode cX4_digest 117 = .ok (.invokevirtual 204, 3) := by decide +kernel
theorem dX4_digest_120 : decode cX4_digest 120 = .ok (.i2l, 1) := by decide +kernel
theorem dX4_digest_121 : decode cX4_digest 121 = .ok (.invokestatic 197, 3) := by decide +kernel
theorem dX4_digest_124 : decode cX4_digest 124 = .ok (.lstore_n 1, 1) := by decide +kernel
theorem dX4_digest_125 : decode cX4_digest 125 = .ok (.lload_n 1, 1) := by decide +kernel
theorem dX4_digest_126 : decode cX4_digest 126 = .ok (.aload_n 0, 1) := by decide +kernel
theorem dX4_digest_127 : decode cX4_digest 127 = .ok (.bipush 10, 2) := by decide +kernel
theorem dX4_digest_129 : decode cX4_digest 129 = .ok (.iconst 0, 1) := by decide +kernel
theorem dX4_digest_130 : decode cX4_digest 130 = .ok (.invokevirtual 207, 3) := by decide +kernel
theorem dX4_digest_133 : decode cX4_digest 133 = .ok (.i2l, 1) := by decide +kernel
theorem dX4_digest_134 : decode cX4_digest 134 = .ok (.invokestatic 197, 3) := by decide +kernel
theorem dX4_digest_137 : decode cX4_digest 137 = .ok (.lstore_n 1, 1) := by decide +kernel
theorem dX4_digest_138 : decode cX4_digest 138 = .ok (.lload_n 1, 1) := by decide +kernel
theorem dX4_digest_139 : decode cX4_digest 139 = .ok (.aload_n 0, 1) := by decide +kernel
theorem dX4_digest_140 : decode cX4_digest 140 = .ok (.bipush 10, 2) := by decide +kernel
theorem dX4_digest_142 : decode cX4_digest 142 = .ok (.iconst 1, 1) := by decide +kernel
theorem dX4_digest_143 : decode cX4_digest 143 = .ok (.invokevirtual 207, 3) := by decide +kernel
theorem dX4_digest_146 : decode cX4_digest 146 = .ok (.i2l, 1) := by decide +kernel
theorem dX4_digest_147 : decode cX4_digest 147 = .ok (.invokestatic 197, 3) := by decide +kernel
theorem dX4_digest_150 : decode cX4_digest 150 = .ok (.lstore_n 1, 1) := by decide +kernel
theorem dX4_digest_151 : decode cX4_digest 151 = .ok (.iconst 0, 1) := by decide +kernel
theorem dX4_digest_152 : decode cX4_digest 152 = .ok (.istore_n 3, 1) := by decide +kernel
theorem dX4_digest_153 : decode cX4_digest 153 = .ok (.iload_n 3, 1) := by decide +kernel
theorem dX4_digest_154 : decode cX4_digest 154 = .ok (.aload_n 0, 1) := by decide +kernel
theorem dX4_digest_155 : decode cX4_digest 155 = .ok (.getfield 12, 3) := by decide +kernel
theorem dX4_digest_158 : decode cX4_digest 158 = .ok (.getfield 68, 3) := by decide +kernel
theorem dX4_digest_161 : decode cX4_digest 161 = .ok (.if_icmp .ge 23, 3) := by decide +kernel
theorem dX4_digest_164 : decode cX4_digest 164 = .ok (.lload_n 1, 1) := by decide +kernel
theorem dX4_digest_165 : decode cX4_digest 165 = .ok (.aload_n 0, 1) := by decide +kernel
theorem dX4_digest_166 : decode cX4_digest 166 = .ok (.getfield 12, 3) := by decide +kernel
theorem dX4_digest_169 : decode cX4_digest 169 = .ok (.iload_n 3, 1) := by decide +kernel
theorem dX4_digest_170 : decode cX4_digest 170 = .ok (.invokevirtual 210, 3) := by decide +kernel
theorem dX4_digest_173 : decode cX4_digest 173 = .ok (.i2l, 1) := by decide +kernel
theorem dX4_digest_174 : decode cX4_digest 174 = .ok (.invokestatic 197, 3) := by decide +kernel
theorem dX4_digest_177 : decode cX4_digest 177 = .ok (.lstore_n 1, 1) := by decide +kernel
theorem dX4_digest_178 : decode cX4_digest 178 = .ok (.iinc 3 1, 3) := by decide +kernel
theorem dX4_digest_181 : decode cX4_digest 181 = .ok (.goto (-28), 3) := by decide +kernel
theorem dX4_digest_184 : decode cX4_digest 184 = .ok (.iconst 0, 1) := by decide +kernel
theorem dX4_digest_185 : decode cX4_digest 185 = .ok (.istore_n 3, 1) := by decide +kernel
theorem dX4_digest_186 : decode cX4_digest 186 = .ok (.iload_n 3, 1) := by decide +kernel
theorem dX4_digest_187 : decode cX4_digest 187 = .ok (.bipush 9, 2) := by decide +kernel
theorem dX4_digest_189 : decode cX4_digest 189 = .ok (.if_icmp .gt 20, 3) := by decide +kernel
theorem dX4_digest_192 : decode cX4_digest 192 = .ok (.lload_n 1, 1) := by decide +kernel
theorem dX4_digest_193 : decode cX4_digest 193 = .ok (.aload_n 0, 1) := by decide +kernel
theorem dX4_digest_194 : decode cX4_digest 194 = .ok (.iload_n 3, 1) := by decide +kernel
theorem dX4_digest_195 : decode cX4_digest 195 = .ok (.invokevirtual 213, 3) := by decide +kernel
theorem dX4_digest_198 : decode cX4_digest 198 = .ok (.i2l, 1) := by decide +kernel
theorem dX4_digest_199 : decode cX4_digest 199 = .ok (.invokestatic 197, 3) := by decide +kernel
theorem dX4_digest_202 : decode cX4_digest 202 = .ok (.lstore_n 1, 1) := by decide +kernel
theorem dX4_digest_203 : decode cX4_digest 203 = .ok (.iinc 3 1, 3) := by decide +kernel
theorem dX4_digest_206 : decode cX4_digest 206 = .ok (.goto (-20), 3) := by decide +kernel
theorem dX4_digest_209 : decode cX4_digest 209 = .ok (.lload_n 1, 1) := by decide +kernel
theorem dX4_digest_210 : decode cX4_digest 210 = .ok (.lreturn, 1) := by decide +kernel
theorem dX4_noGym_0 : decode cX4_noGym 0 = .ok (.aload_n 0, 1) := by decide +kernel
theorem dX4_noGym_1 : decode cX4_noGym 1 = .ok (.getfield 19, 3) := by decide +kernel
theorem dX4_noGym_4 : decode cX4_noGym 4 = .ok (.getfield 91, 3) := by decide +kernel
theorem dX4_noGym_7 : decode cX4_noGym 7 = .ok (.ifCond .ne 7, 3) := by decide +kernel
theorem dX4_noGym_10 : decode cX4_noGym 10 = .ok (.iconst 1, 1) := by decide +kernel
theorem dX4_noGym_11 : decode cX4_noGym 11 = .ok (.goto 4, 3) := by decide +kernel
theorem dX4_noGym_14 : decode cX4_noGym 14 = .ok (.iconst 0, 1) := by decide +kernel
theorem dX4_noGym_15 : decode cX4_noGym 15 = .ok (.ireturn, 1) := by decide +kernel
theorem dX4_isScore_0 : decode cX4_isScore 0 = .ok (.iload_n 0, 1) := by decide +kernel
theorem dX4_isScore_1 : decode cX4_isScore 1 = .ok (.bipush (-100), 2) := by decide +kernel
theorem dX4_isScore_3 : decode cX4_isScore 3 = .ok (.if_icmp .lt 13, 3) := by decide +kernel
theorem dX4_isScore_6 : decode cX4_isScore 6 = .ok (.iload_n 0, 1) := by decide +kernel
theorem dX4_isScore_7 : decode cX4_isScore 7 = .ok (.bipush 100, 2) := by decide +kernel
theorem dX4_isScore_9 : decode cX4_isScore 9 = .ok (.if_icmp .gt 7, 3) := by decide +kernel
theorem dX4_isScore_12 : decode cX4_isScore 12 = .ok (.iconst 1, 1) := by decide +kernel
theorem dX4_isScore_13 : decode cX4_isScore 13 = .ok (.goto 4, 3) := by decide +kernel
theorem dX4_isScore_16 : decode cX4_isScore 16 = .ok (.iconst 0, 1) := by decide +kernel
theorem dX4_isScore_17 : decode cX4_isScore 17 = .ok (.ireturn, 1) := by decide +kernel
theorem dX4_asksAboveOrBelow_0 : decode cX4_asksAboveOrBelow 0 = .ok (.iload_n 0, 1) := by decide +kernel
theorem dX4_asksAboveOrBelow_1 : decode cX4_asksAboveOrBelow 1 = .ok (.ifCond .eq 8, 3) := by decide +kernel
theorem dX4_asksAboveOrBelow_4 : decode cX4_asksAboveOrBelow 4 = .ok (.iload_n 0, 1) := by decide +kernel
theorem dX4_asksAboveOrBelow_5 : decode cX4_asksAboveOrBelow 5 = .ok (.iconst 1, 1) := by decide +kernel
theorem dX4_asksAboveOrBelow_6 : decode cX4_asksAboveOrBelow 6 = .ok (.if_icmp .ne 7, 3) := by decide +kernel
theorem dX4_asksAboveOrBelow_9 : decode cX4_asksAboveOrBelow 9 = .ok (.iconst 1, 1) := by decide +kernel
theorem dX4_asksAboveOrBelow_10 : decode cX4_asksAboveOrBelow 10 = .ok (.goto 4, 3) := by decide +kernel
theorem dX4_asksAboveOrBelow_13 : decode cX4_asksAboveOrBelow 13 = .ok (.iconst 0, 1) := by decide +kernel
theorem dX4_asksAboveOrBelow_14 : decode cX4_asksAboveOrBelow 14 = .ok (.ireturn, 1) := by decide +kernel
theorem dX4_mixed_0 : decode cX4_mixed 0 = .ok (.ldc2_w 216, 3) := by decide +kernel
theorem dX4_mixed_3 : decode cX4_mixed 3 = .ok (.lload_n 0, 1) := by decide +kernel
theorem dX4_mixed_4 : decode cX4_mixed 4 = .ok (.lmul, 1) := by decide +kernel
theorem dX4_mixed_5 : decode cX4_mixed 5 = .ok (.lload_n 2, 1) := by decide +kernel
theorem dX4_mixed_6 : decode cX4_mixed 6 = .ok (.ladd, 1) := by decide +kernel
theorem dX4_mixed_7 : decode cX4_mixed 7 = .ok (.lreturn, 1) := by decide +kernel
theorem dX4_nextSeed_0 : decode cX4_nextSeed 0 = .ok (.ldc2_w 218, 3) := by decide +kernel
theorem dX4_nextSeed_3 : decode cX4_nextSeed 3 = .ok (.iload_n 0, 1) := by decide +kernel
theorem dX4_nextSeed_4 : decode cX4_nextSeed 4 = .ok (.i2l, 1) := by decide +kernel
theorem dX4_nextSeed_5 : decode cX4_nextSeed 5 = .ok (.lmul, 1) := by decide +kernel
theorem dX4_nextSeed_6 : decode cX4_nextSeed 6 = .ok (.ldc2_w 220, 3) := by decide +kernel
theorem dX4_nextSeed_9 : decode cX4_nextSeed 9 = .ok (.ladd, 1) := by decide +kernel
theorem dX4_nextSeed_10 : decode cX4_nextSeed 10 = .ok (.ldc2_w 222, 3) := by decide +kernel
theorem dX4_nextSeed_13 : decode cX4_nextSeed 13 = .ok (.lrem, 1) := by decide +kernel
theorem dX4_nextSeed_14 : decode cX4_nextSeed 14 = .ok (.l2i, 1) := by decide +kernel
theorem dX4_nextSeed_15 : decode cX4_nextSeed 15 = .ok (.ireturn, 1) := by decide +kernel
theorem dX4_drawOfTen_0 : decode cX4_drawOfTen 0 = .ok (.iload_n 0, 1) := by decide +kernel
theorem dX4_drawOfTen_1 : decode cX4_drawOfTen 1 = .ok (.ldc 224, 2) := by decide +kernel
theorem dX4_drawOfTen_3 : decode cX4_drawOfTen 3 = .ok (.idiv, 1) := by decide +kernel
theorem dX4_drawOfTen_4 : decode cX4_drawOfTen 4 = .ok (.bipush 10, 2) := by decide +kernel
theorem dX4_drawOfTen_6 : decode cX4_drawOfTen 6 = .ok (.irem, 1) := by decide +kernel
theorem dX4_drawOfTen_7 : decode cX4_drawOfTen 7 = .ok (.ireturn, 1) := by decide +kernel
theorem dX4_inLowestTerms_0 : decode cX4_inLowestTerms 0 = .ok (.iload_n 0, 1) := by decide +kernel
theorem dX4_inLowestTerms_1 : decode cX4_inLowestTerms 1 = .ok (.iload_n 1, 1) := by decide +kernel
theorem dX4_inLowestTerms_2 : decode cX4_inLowestTerms 2 = .ok (.invokestatic 225, 3) := by decide +kernel
theorem dX4_inLowestTerms_5 : decode cX4_inLowestTerms 5 = .ok (.istore_n 3, 1) := by decide +kernel
theorem dX4_inLowestTerms_6 : decode cX4_inLowestTerms 6 = .ok (.iload_n 3, 1) := by decide +kernel
theorem dX4_inLowestTerms_7 : decode cX4_inLowestTerms 7 = .ok (.ifCond .ne 13, 3) := by decide +kernel
theorem dX4_inLowestTerms_10 : decode cX4_inLowestTerms 10 = .ok (.iload_n 2, 1) := by decide +kernel
theorem dX4_inLowestTerms_11 : decode cX4_inLowestTerms 11 = .ok (.ifCond .ne 7, 3) := by decide +kernel
theorem dX4_inLowestTerms_14 : decode cX4_inLowestTerms 14 = .ok (.iload_n 0, 1) := by decide +kernel
theorem dX4_inLowestTerms_15 : decode cX4_inLowestTerms 15 = .ok (.goto 4, 3) := by decide +kernel
theorem dX4_inLowestTerms_18 : decode cX4_inLowestTerms 18 = .ok (.iload_n 1, 1) := by decide +kernel
theorem dX4_inLowestTerms_19 : decode cX4_inLowestTerms 19 = .ok (.ireturn, 1) := by decide +kernel
theorem dX4_inLowestTerms_20 : decode cX4_inLowestTerms 20 = .ok (.iload_n 2, 1) := by decide +kernel
theorem dX4_inLowestTerms_21 : decode cX4_inLowestTerms 21 = .ok (.ifCond .ne 7, 3) := by decide +kernel
theorem dX4_inLowestTerms_24 : decode cX4_inLowestTerms 24 = .ok (.iload_n 0, 1) := by decide +kernel
theorem dX4_inLowestTerms_25 : decode cX4_inLowestTerms 25 = .ok (.goto 4, 3) := by decide +kernel
theorem dX4_inLowestTerms_28 : decode cX4_inLowestTerms 28 = .ok (.iload_n 1, 1) := by decide +kernel
theorem dX4_inLowestTerms_29 : decode cX4_inLowestTerms 29 = .ok (.iload_n 3, 1) := by decide +kernel
theorem dX4_inLowestTerms_30 : decode cX4_inLowestTerms 30 = .ok (.idiv, 1) := by decide +kernel
theorem dX4_inLowestTerms_31 : decode cX4_inLowestTerms 31 = .ok (.ireturn, 1) := by decide +kernel
theorem dX4_commonDivisor_0 : decode cX4_commonDivisor 0 = .ok (.iload_n 0, 1) := by decide +kernel
theorem dX4_commonDivisor_1 : decode cX4_commonDivisor 1 = .ok (.istore_n 2, 1) := by decide +kernel
theorem dX4_commonDivisor_2 : decode cX4_commonDivisor 2 = .ok (.iload_n 1, 1) := by decide +kernel
theorem dX4_commonDivisor_3 : decode cX4_commonDivisor 3 = .ok (.istore_n 3, 1) := by decide +kernel
theorem dX4_commonDivisor_4 : decode cX4_commonDivisor 4 = .ok (.iconst 0, 1) := by decide +kernel
theorem dX4_commonDivisor_5 : decode cX4_commonDivisor 5 = .ok (.istore 4, 2) := by decide +kernel
theorem dX4_commonDivisor_7 : decode cX4_commonDivisor 7 = .ok (.iload 4, 2) := by decide +kernel
theorem dX4_commonDivisor_9 : decode cX4_commonDivisor 9 = .ok (.bipush 64, 2) := by decide +kernel
theorem dX4_commonDivisor_11 : decode cX4_commonDivisor 11 = .ok (.if_icmp .ge 23, 3) := by decide +kernel
theorem dX4_commonDivisor_14 : decode cX4_commonDivisor 14 = .ok (.iload_n 3, 1) := by decide +kernel
theorem dX4_commonDivisor_15 : decode cX4_commonDivisor 15 = .ok (.ifCond .eq 19, 3) := by decide +kernel
theorem dX4_commonDivisor_18 : decode cX4_commonDivisor 18 = .ok (.iload_n 2, 1) := by decide +kernel
theorem dX4_commonDivisor_19 : decode cX4_commonDivisor 19 = .ok (.iload_n 3, 1) := by decide +kernel
theorem dX4_commonDivisor_20 : decode cX4_commonDivisor 20 = .ok (.irem, 1) := by decide +kernel
theorem dX4_commonDivisor_21 : decode cX4_commonDivisor 21 = .ok (.istore 5, 2) := by decide +kernel
theorem dX4_commonDivisor_23 : decode cX4_commonDivisor 23 = .ok (.iload_n 3, 1) := by decide +kernel
theorem dX4_commonDivisor_24 : decode cX4_commonDivisor 24 = .ok (.istore_n 2, 1) := by decide +kernel
theorem dX4_commonDivisor_25 : decode cX4_commonDivisor 25 = .ok (.iload 5, 2) := by decide +kernel
theorem dX4_commonDivisor_27 : decode cX4_commonDivisor 27 = .ok (.istore_n 3, 1) := by decide +kernel
theorem dX4_commonDivisor_28 : decode cX4_commonDivisor 28 = .ok (.iinc 4 1, 3) := by decide +kernel
theorem dX4_commonDivisor_31 : decode cX4_commonDivisor 31 = .ok (.goto (-24), 3) := by decide +kernel
theorem dX4_commonDivisor_34 : decode cX4_commonDivisor 34 = .ok (.iload_n 2, 1) := by decide +kernel
theorem dX4_commonDivisor_35 : decode cX4_commonDivisor 35 = .ok (.ireturn, 1) := by decide +kernel
theorem dX4_findFinest_0 : decode cX4_findFinest 0 = .ok (.aload_n 0, 1) := by decide +kernel
theorem dX4_findFinest_1 : decode cX4_findFinest 1 = .ok (.iload_n 1, 1) := by decide +kernel
theorem dX4_findFinest_2 : decode cX4_findFinest 2 = .ok (.invokevirtual 228, 3) := by decide +kernel
theorem dX4_findFinest_5 : decode cX4_findFinest 5 = .ok (.istore_n 2, 1) := by decide +kernel
theorem dX4_findFinest_6 : decode cX4_findFinest 6 = .ok (.iconst 0, 1) := by decide +kernel
theorem dX4_findFinest_7 : decode cX4_findFinest 7 = .ok (.istore_n 3, 1) := by decide +kernel
theorem dX4_findFinest_8 : decode cX4_findFinest 8 = .ok (.iconst 0, 1) := by decide +kernel
theorem dX4_findFinest_9 : decode cX4_findFinest 9 = .ok (.istore 4, 2) := by decide +kernel
theorem dX4_findFinest_11 : decode cX4_findFinest 11 = .ok (.iload 4, 2) := by decide +kernel
theorem dX4_findFinest_13 : decode cX4_findFinest 13 = .ok (.iload_n 2, 1) := by decide +kernel
theorem dX4_findFinest_14 : decode cX4_findFinest 14 = .ok (.if_icmp .ge 48, 3) := by decide +kernel
theorem dX4_findFinest_17 : decode cX4_findFinest 17 = .ok (.aload_n 0, 1) := by decide +kernel
theorem dX4_findFinest_18 : decode cX4_findFinest 18 = .ok (.iload 4, 2) := by decide +kernel
theorem dX4_findFinest_20 : decode cX4_findFinest 20 = .ok (.iload_n 1, 1) := by decide +kernel
theorem dX4_findFinest_21 : decode cX4_findFinest 21 = .ok (.invokevirtual 231, 3) := by decide +kernel
theorem dX4_findFinest_24 : decode cX4_findFinest 24 = .ok (.ifCond .eq 32, 3) := by decide +kernel
theorem dX4_findFinest_27 : decode cX4_findFinest 27 = .ok (.aload_n 0, 1) := by decide +kernel
theorem dX4_findFinest_28 : decode cX4_findFinest 28 = .ok (.getfield 56, 3) := by decide +kernel
theorem dX4_findFinest_31 : decode cX4_findFinest 31 = .ok (.invokevirtual 150, 3) := by decide +kernel
theorem dX4_findFinest_34 : decode cX4_findFinest 34 = .ok (.istore 5, 2) := by decide +kernel
theorem dX4_findFinest_36 : decode cX4_findFinest 36 = .ok (.iload 5, 2) := by decide +kernel
theorem dX4_findFinest_38 : decode cX4_findFinest 38 = .ok (.iload_n 3, 1) := by decide +kernel
theorem dX4_findFinest_39 : decode cX4_findFinest 39 = .ok (.if_icmp .le 17, 3) := by decide +kernel
theorem dX4_findFinest_42 : decode cX4_findFinest 42 = .ok (.iload 5, 2) := by decide +kernel
theorem dX4_findFinest_44 : decode cX4_findFinest 44 = .ok (.istore_n 3, 1) := by decide +kernel
theorem dX4_findFinest_45 : decode cX4_findFinest 45 = .ok (.aload_n 0, 1) := by decide +kernel
theorem dX4_findFinest_46 : decode cX4_findFinest 46 = .ok (.getfield 59, 3) := by decide +kernel
theorem dX4_findFinest_49 : decode cX4_findFinest 49 = .ok (.aload_n 0, 1) := by decide +kernel
theorem dX4_findFinest_50 : decode cX4_findFinest 50 = .ok (.getfield 56, 3) := by decide +kernel
theorem dX4_findFinest_53 : decode cX4_findFinest 53 = .ok (.invokevirtual 169, 3) := by decide +kernel
theorem dX4_findFinest_56 : decode cX4_findFinest 56 = .ok (.iinc 4 1, 3) := by decide +kernel
theorem dX4_findFinest_59 : decode cX4_findFinest 59 = .ok (.goto (-48), 3) := by decide +kernel
theorem dX4_findFinest_62 : decode cX4_findFinest 62 = .ok (.return_, 1) := by decide +kernel
theorem dX4_picksOf_0 : decode cX4_picksOf 0 = .ok (.iconst 1, 1) := by decide +kernel
theorem dX4_picksOf_1 : decode cX4_picksOf 1 = .ok (.istore_n 2, 1) := by decide +kernel
theorem dX4_picksOf_2 : decode cX4_picksOf 2 = .ok (.iconst 0, 1) := by decide +kernel
theorem dX4_picksOf_3 : decode cX4_picksOf 3 = .ok (.istore_n 3, 1) := by decide +kernel
theorem dX4_picksOf_4 : decode cX4_picksOf 4 = .ok (.iload_n 3, 1) := by decide +kernel
theorem dX4_picksOf_5 : decode cX4_picksOf 5 = .ok (.iload_n 1, 1) := by decide +kernel
theorem dX4_picksOf_6 : decode cX4_picksOf 6 = .ok (.if_icmp .ge 19, 3) := by decide +kernel
theorem dX4_picksOf_9 : decode cX4_picksOf 9 = .ok (.iload_n 2, 1) := by decide +kernel
theorem dX4_picksOf_10 : decode cX4_picksOf 10 = .ok (.aload_n 0, 1) := by decide +kernel
theorem dX4_picksOf_11 : decode cX4_picksOf 11 = .ok (.getfield 19, 3) := by decide +kernel
theorem dX4_picksOf_14 : decode cX4_picksOf 14 = .ok (.getfield 91, 3) := by decide +kernel
theorem dX4_picksOf_17 : decode cX4_picksOf 17 = .ok (.imul, 1) := by decide +kernel
theorem dX4_picksOf_18 : decode cX4_picksOf 18 = .ok (.istore_n 2, 1) := by decide +kernel
theorem dX4_picksOf_19 : decode cX4_picksOf 19 = .ok (.iinc 3 1, 3) := by decide +kernel
theorem dX4_picksOf_22 : decode cX4_picksOf 22 = .ok (.goto (-18), 3) := by decide +kernel
theorem dX4_picksOf_25 : decode cX4_picksOf 25 = .ok (.iload_n 2, 1) := by decide +kernel
theorem dX4_picksOf_26 : decode cX4_picksOf 26 = .ok (.ireturn, 1) := by decide +kernel
theorem dX4_pickByNumber_0 : decode cX4_pickByNumber 0 = .ok (.aload_n 0, 1) := by decide +kernel
theorem dX4_pickByNumber_1 : decode cX4_pickByNumber 1 = .ok (.getfield 56, 3) := by decide +kernel
theorem dX4_pickByNumber_4 : decode cX4_pickByNumber 4 = .ok (.iconst 0, 1) := by decide +kernel
theorem dX4_pickByNumber_5 : decode cX4_pickByNumber 5 = .ok (.putfield 87, 3) := by decide +kernel
theorem dX4_pickByNumber_8 : decode cX4_pickByNumber 8 = .ok (.aload_n 0, 1) := by decide +kernel
theorem dX4_pickByNumber_9 : decode cX4_pickByNumber 9 = .ok (.iload_n 2, 1) := by decide +kernel
theorem dX4_pickByNumber_10 : decode cX4_pickByNumber 10 = .ok (.iconst 1, 1) := by decide +kernel
theorem dX4_pickByNumber_11 : decode cX4_pickByNumber 11 = .ok (.isub, 1) := by decide +kernel
theorem dX4_pickByNumber_12 : decode cX4_pickByNumber 12 = .ok (.invokevirtual 228, 3) := by decide +kernel
theorem dX4_pickByNumber_15 : decode cX4_pickByNumber 15 = .ok (.istore_n 3, 1) := by decide +kernel
theorem dX4_pickByNumber_16 : decode cX4_pickByNumber 16 = .ok (.iconst 0, 1) := by decide +kernel
theorem dX4_pickByNumber_17 : decode cX4_pickByNumber 17 = .ok (.istore 4, 2) := by decide +kernel
theorem dX4_pickByNumber_19 : decode cX4_pickByNumber 19 = .ok (.iload 4, 2) := by decide +kernel
theorem dX4_pickByNumber_21 : decode cX4_pickByNumber 21 = .ok (.iload_n 2, 1) := by decide +kernel
theorem dX4_pickByNumber_22 : decode cX4_pickByNumber 22 = .ok (.if_icmp .ge 71, 3) := by decide +kernel
theorem dX4_pickByNumber_25 : decode cX4_pickByNumber 25 = .ok (.iload_n 3, 1) := by decide +kernel
theorem dX4_pickByNumber_26 : decode cX4_pickByNumber 26 = .ok (.ifCond .eq 13, 3) := by decide +kernel
theorem dX4_pickByNumber_29 : decode cX4_pickByNumber 29 = .ok (.aload_n 0, 1) := by decide +kernel
theorem dX4_pickByNumber_30 : decode cX4_pickByNumber 30 = .ok (.getfield 19, 3) := by decide +kernel
theorem dX4_pickByNumber_33 : decode cX4_pickByNumber 33 = .ok (.getfield 91, 3) := by decide +kernel
theorem dX4_pickByNumber_36 : decode cX4_pickByNumber 36 = .ok (.ifCond .ne 5, 3) := by decide +kernel
theorem dX4_pickByNumber_39 : decode cX4_pickByNumber 39 = .ok (.iconst 0, 1) := by decide +kernel
theorem dX4_pickByNumber_40 : decode cX4_pickByNumber 40 = .ok (.ireturn, 1) := by decide +kernel
theorem dX4_pickByNumber_41 : decode cX4_pickByNumber 41 = .ok (.iload_n 1, 1) := by decide +kernel
theorem dX4_pickByNumber_42 : decode cX4_pickByNumber 42 = .ok (.iload_n 3, 1) := by decide +kernel
theorem dX4_pickByNumber_43 : decode cX4_pickByNumber 43 = .ok (.idiv, 1) := by decide +kernel
theorem dX4_pickByNumber_44 : decode cX4_pickByNumber 44 = .ok (.aload_n 0, 1) := by decide +kernel
theorem dX4_pickByNumber_45 : decode cX4_pickByNumber 45 = .ok (.getfield 19, 3) := by decide +kernel
theorem dX4_pickByNumber_48 : decode cX4_pickByNumber 48 = .ok (.getfield 91, 3) := by decide +kernel
theorem dX4_pickByNumber_51 : decode cX4_pickByNumber 51 = .ok (.irem, 1) := by decide +kernel
theorem dX4_pickByNumber_52 : decode cX4_pickByNumber 52 = .ok (.istore 5, 2) := by decide +kernel
theorem dX4_pickByNumber_54 : decode cX4_pickByNumber 54 = .ok (.aload_n 0, 1) := by decide +kernel
theorem dX4_pickByNumber_55 : decode cX4_pickByNumber 55 = .ok (.getfield 56, 3) := by decide +kernel
theorem dX4_pickByNumber_58 : decode cX4_pickByNumber 58 = .ok (.iload 5, 2) := by decide +kernel
theorem dX4_pickByNumber_60 : decode cX4_pickByNumber 60 = .ok (.invokevirtual 109, 3) := by decide +kernel
theorem dX4_pickByNumber_63 : decode cX4_pickByNumber 63 = .ok (.ifCond .eq 5, 3) := by decide +kernel
theorem dX4_pickByNumber_66 : decode cX4_pickByNumber 66 = .ok (.iconst 0, 1) := by decide +kernel
theorem dX4_pickByNumber_67 : decode cX4_pickByNumber 67 = .ok (.ireturn, 1) := by decide +kernel
theorem dX4_pickByNumber_68 : decode cX4_pickByNumber 68 = .ok (.aload_n 0, 1) := by decide +kernel
theorem dX4_pickByNumber_69 : decode cX4_pickByNumber 69 = .ok (.getfield 56, 3) := by decide +kernel
theorem dX4_pickByNumber_72 : decode cX4_pickByNumber 72 = .ok (.iload 5, 2) := by decide +kernel
theorem dX4_pickByNumber_74 : decode cX4_pickByNumber 74 = .ok (.invokevirtual 125, 3) := by decide +kernel
theorem dX4_pickByNumber_77 : decode cX4_pickByNumber 77 = .ok (.iload_n 3, 1) := by decide +kernel
theorem dX4_pickByNumber_78 : decode cX4_pickByNumber 78 = .ok (.aload_n 0, 1) := by decide +kernel
theorem dX4_pickByNumber_79 : decode cX4_pickByNumber 79 = .ok (.getfield 19, 3) := by decide +kernel
theorem dX4_pickByNumber_82 : decode cX4_pickByNumber 82 = .ok (.getfield 91, 3) := by decide +kernel
theorem dX4_pickByNumber_85 : decode cX4_pickByNumber 85 = .ok (.idiv, 1) := by decide +kernel
theorem dX4_pickByNumber_86 : decode cX4_pickByNumber 86 = .ok (.istore_n 3, 1) := by decide +kernel
theorem dX4_pickByNumber_87 : decode cX4_pickByNumber 87 = .ok (.iinc 4 1, 3) := by decide +kernel
theorem dX4_pickByNumber_90 : decode cX4_pickByNumber 90 = .ok (.goto (-71), 3) := by decide +kernel
theorem dX4_pickByNumber_93 : decode cX4_pickByNumber 93 = .ok (.iconst 1, 1) := by decide +kernel
theorem dX4_pickByNumber_94 : decode cX4_pickByNumber 94 = .ok (.ireturn, 1) := by decide +kernel
theorem dX4_chanceOf_0 : decode cX4_chanceOf 0 = .ok (.iload_n 0, 1) := by decide +kernel
theorem dX4_chanceOf_1 : decode cX4_chanceOf 1 = .ok (.iconst 3, 1) := by decide +kernel
theorem dX4_chanceOf_2 : decode cX4_chanceOf 2 = .ok (.if_icmp .ne 7, 3) := by decide +kernel
theorem dX4_chanceOf_5 : decode cX4_chanceOf 5 = .ok (.iconst 0, 1) := by decide +kernel
theorem dX4_chanceOf_6 : decode cX4_chanceOf 6 = .ok (.goto 10, 3) := by decide +kernel
theorem dX4_chanceOf_9 : decode cX4_chanceOf 9 = .ok (.iconst 0, 1) := by decide +kernel
theorem dX4_chanceOf_10 : decode cX4_chanceOf 10 = .ok (.iload_n 2, 1) := by decide +kernel
theorem dX4_chanceOf_11 : decode cX4_chanceOf 11 = .ok (.iconst 2, 1) := by decide +kernel
theorem dX4_chanceOf_12 : decode cX4_chanceOf 12 = .ok (.isub, 1) := by decide +kernel
theorem dX4_chanceOf_13 : decode cX4_chanceOf 13 = .ok (.invokestatic 234, 3) := by decide +kernel
theorem dX4_chanceOf_16 : decode cX4_chanceOf 16 = .ok (.istore_n 3, 1) := by decide +kernel
theorem dX4_chanceOf_17 : decode cX4_chanceOf 17 = .ok (.iconst 0, 1) := by decide +kernel
theorem dX4_chanceOf_18 : decode cX4_chanceOf 18 = .ok (.iload_n 1, 1) := by decide +kernel
theorem dX4_chanceOf_19 : decode cX4_chanceOf 19 = .ok (.iload_n 3, 1) := by decide +kernel
theorem dX4_chanceOf_20 : decode cX4_chanceOf 20 = .ok (.isub, 1) := by decide +kernel
theorem dX4_chanceOf_21 : decode cX4_chanceOf 21 = .ok (.invokestatic 234, 3) := by decide +kernel
theorem dX4_chanceOf_24 : decode cX4_chanceOf 24 = .ok (.ireturn, 1) := by decide +kernel
theorem dX5_init_0 : decode cX5_init 0 = .ok (.aload_n 0, 1) := by decide +kernel
theorem dX5_init_1 : decode cX5_init 1 = .ok (.invokespecial 1, 3) := by decide +kernel
theorem dX5_init_4 : decode cX5_init 4 = .ok (.aload_n 0, 1) := by decide +kernel
theorem dX5_init_5 : decode cX5_init 5 = .ok (.bipush 30, 2) := by decide +kernel
theorem dX5_init_7 : decode cX5_init 7 = .ok (.newarray .int, 2) := by decide +kernel
theorem dX5_init_9 : decode cX5_init 9 = .ok (.putfield 7, 3) := by decide +kernel
theorem dX5_init_12 : decode cX5_init 12 = .ok (.aload_n 0, 1) := by decide +kernel
theorem dX5_init_13 : decode cX5_init 13 = .ok (.bipush 21, 2) := by decide +kernel
theorem dX5_init_15 : decode cX5_init 15 = .ok (.newarray .int, 2) := by decide +kernel
theorem dX5_init_17 : decode cX5_init 17 = .ok (.putfield 13, 3) := by decide +kernel
theorem dX5_init_20 : decode cX5_init 20 = .ok (.aload_n 0, 1) := by decide +kernel
theorem dX5_init_21 : decode cX5_init 21 = .ok (.iconst 5, 1) := by decide +kernel
theorem dX5_init_22 : decode cX5_init 22 = .ok (.newarray .int, 2) := by decide +kernel
theorem dX5_init_24 : decode cX5_init 24 = .ok (.putfield 16, 3) := by decide +kernel
theorem dX5_init_27 : decode cX5_init 27 = .ok (.aload_n 0, 1) := by decide +kernel
theorem dX5_init_28 : decode cX5_init 28 = .ok (.iconst 5, 1) := by decide +kernel
theorem dX5_init_29 : decode cX5_init 29 = .ok (.newarray .int, 2) := by decide +kernel
theorem dX5_init_31 : decode cX5_init 31 = .ok (.putfield 19, 3) := by decide +kernel
theorem dX5_init_34 : decode cX5_init 34 = .ok (.aload_n 0, 1) := by decide +kernel
theorem dX5_init_35 : decode cX5_init 35 = .ok (.iconst 5, 1) := by decide +kernel
theorem dX5_init_36 : decode cX5_init 36 = .ok (.newarray .int, 2) := by decide +kernel
theorem dX5_init_38 : decode cX5_init 38 = .ok (.putfield 22, 3) := by decide +kernel
theorem dX5_init_41 : decode cX5_init 41 = .ok (.aload_n 0, 1) := by decide +kernel
theorem dX5_init_42 : decode cX5_init 42 = .ok (.bipush 24, 2) := by decide +kernel
theorem dX5_init_44 : decode cX5_init 44 = .ok (.newarray .int, 2) := by decide +kernel
theorem dX5_init_46 : decode cX5_init 46 = .ok (.putfield 25, 3) := by decide +kernel
theorem dX5_init_49 : decode cX5_init 49 = .ok (.aload_n 0, 1) := by decide +kernel
theorem dX5_init_50 : decode cX5_init 50 = .ok (.iconst 5, 1) := by decide +kernel
theorem dX5_init_51 : decode cX5_init 51 = .ok (.newarray .int, 2) := by decide +kernel
theorem dX5_init_53 : decode cX5_init 53 = .ok (.putfield 28, 3) := by decide +kernel
theorem dX5_init_56 : decode cX5_init 56 = .ok (.aload_n 0, 1) := by decide +kernel
theorem dX5_init_57 : decode cX5_init 57 = .ok (.bipush 24, 2) := by decide +kernel
theorem dX5_init_59 : decode cX5_init 59 = .ok (.newarray .int, 2) := by decide +kernel
theorem dX5_init_61 : decode cX5_init 61 = .ok (.putfield 31, 3) := by decide +kernel
theorem dX5_init_64 : decode cX5_init 64 = .ok (.aload_n 0, 1) := by decide +kernel
theorem dX5_init_65 : decode cX5_init 65 = .ok (.iconst (-1), 1) := by decide +kernel
theorem dX5_init_66 : decode cX5_init 66 = .ok (.putfield 34, 3) := by decide +kernel
theorem dX5_init_69 : decode cX5_init 69 = .ok (.return_, 1) := by decide +kernel
theorem dX5_in_0 : decode cX5_in 0 = .ok (.lload_n 0, 1) := by decide +kernel
theorem dX5_in_1 : decode cX5_in 1 = .ok (.lload_n 2, 1) := by decide +kernel
theorem dX5_in_2 : decode cX5_in 2 = .ok (.lcmp, 1) := by decide +kernel
theorem dX5_in_3 : decode cX5_in 3 = .ok (.ifCond .lt 14, 3) := by decide +kernel
theorem dX5_in_6 : decode cX5_in 6 = .ok (.lload_n 0, 1) := by decide +kernel
theorem dX5_in_7 : decode cX5_in 7 = .ok (.lload 4, 2) := by decide +kernel
theorem dX5_in_9 : decode cX5_in 9 = .ok (.lcmp, 1) := by decide +kernel
theorem dX5_in_10 : decode cX5_in 10 = .ok (.ifCond .gt 7, 3) := by decide +kernel
theorem dX5_in_13 : decode cX5_in 13 = .ok (.iconst 1, 1) := by decide +kernel
theorem dX5_in_14 : decode cX5_in 14 = .ok (.goto 4, 3) := by decide +kernel
theorem dX5_in_17 : decode cX5_in 17 = .ok (.iconst 0, 1) := by decide +kernel
theorem dX5_in_18 : decode cX5_in 18 = .ok (.ireturn, 1) := by decide +kernel
theorem dX5_copy_0 : decode cX5_copy 0 = .ok (.iconst 0, 1) := by decide +kernel
theorem dX5_copy_1 : decode cX5_copy 1 = .ok (.istore_n 2, 1) := by decide +kernel
theorem dX5_copy_2 : decode cX5_copy 2 = .ok (.iload_n 2, 1) := by decide +kernel
theorem dX5_copy_3 : decode cX5_copy 3 = .ok (.aload_n 0, 1) := by decide +kernel
theorem dX5_copy_4 : decode cX5_copy 4 = .ok (.arraylength, 1) := by decide +kernel
theorem dX5_copy_5 : decode cX5_copy 5 = .ok (.if_icmp .ge 15, 3) := by decide +kernel
theorem dX5_copy_8 : decode cX5_copy 8 = .ok (.aload_n 1, 1) := by decide +kernel
theorem dX5_copy_9 : decode cX5_copy 9 = .ok (.iload_n 2, 1) := by decide +kernel
theorem dX5_copy_10 : decode cX5_copy 10 = .ok (.aload_n 0, 1) := by decide +kernel
theorem dX5_copy_11 : decode cX5_copy 11 = .ok (.iload_n 2, 1) := by decide +kernel
theorem dX5_copy_12 : decode cX5_copy 12 = .ok (.iaload, 1) := by decide +kernel
theorem dX5_copy_13 : decode cX5_copy 13 = .ok (.iastore, 1) := by decide +kernel
theorem dX5_copy_14 : decode cX5_copy 14 = .ok (.iinc 2 1, 3) := by decide +kernel
theorem dX5_copy_17 : decode cX5_copy 17 = .ok (.goto (-15), 3) := by decide +kernel
theorem dX5_copy_20 : decode cX5_copy 20 = .ok (.return_, 1) := by decide +kernel
theorem dX5_common_0 : decode cX5_common 0 = .ok (.iload_n 0, 1) := by decide +kernel
theorem dX5_common_1 : decode cX5_common 1 = .ok (.istore_n 2, 1) := by decide +kernel
theorem dX5_common_2 : decode cX5_common 2 = .ok (.iload_n 1, 1) := by decide +kernel
theorem dX5_common_3 : decode cX5_common 3 = .ok (.istore_n 3, 1) := by decide +kernel
theorem dX5_common_4 : decode cX5_common 4 = .ok (.iload_n 3, 1) := by decide +kernel
theorem dX5_common_5 : decode cX5_common 5 = .ok (.ifCond .le 16, 3) := by decide +kernel
theorem dX5_common_8 : decode cX5_common 8 = .ok (.iload_n 2, 1) := by decide +kernel
theorem dX5_common_9 : decode cX5_common 9 = .ok (.iload_n 3, 1) := by decide +kernel
theorem dX5_common_10 : decode cX5_common 10 = .ok (.irem, 1) := by decide +kernel
theorem dX5_common_11 : decode cX5_common 11 = .ok (.istore 4, 2) := by decide +kernel
theorem dX5_common_13 : decode cX5_common 13 = .ok (.iload_n 3, 1) := by decide +kernel
theorem dX5_common_14 : decode cX5_common 14 = .ok (.istore_n 2, 1) := by decide +kernel
theorem dX5_common_15 : decode cX5_common 15 = .ok (.iload 4, 2) := by decide +kernel
theorem dX5_common_17 : decode cX5_common 17 = .ok (.istore_n 3, 1) := by decide +kernel
theorem dX5_common_18 : decode cX5_common 18 = .ok (.goto (-14), 3) := by decide +kernel
theorem dX5_common_21 : decode cX5_common 21 = .ok (.iload_n 2, 1) := by decide +kernel
theorem dX5_common_22 : decode cX5_common 22 = .ok (.ireturn, 1) := by decide +kernel
theorem dX5_letter_0 : decode cX5_letter 0 = .ok (.iload_n 1, 1) := by decide +kernel
theorem dX5_letter_1 : decode cX5_letter 1 = .ok (.i2l, 1) := by decide +kernel
theorem dX5_letter_2 : decode cX5_letter 2 = .ok (.lconst 1, 1) := by decide +kernel
theorem dX5_letter_3 : decode cX5_letter 3 = .ok (.ldc2_w 38, 3) := by decide +kernel
theorem dX5_letter_6 : decode cX5_letter 6 = .ok (.invokestatic 40, 3) := by decide +kernel
theorem dX5_letter_9 : decode cX5_letter 9 = .ok (.ifCond .ne 6, 3) := by decide +kernel
theorem dX5_letter_12 : decode cX5_letter 12 = .ok (.bipush (-102), 2) := by decide +kernel
theorem dX5_letter_14 : decode cX5_letter 14 = .ok (.ireturn, 1) := by decide +kernel
theorem dX5_letter_15 : decode cX5_letter 15 = .ok (.aload_n 0, 1) := by decide +kernel
theorem dX5_letter_16 : decode cX5_letter 16 = .ok (.getfield 44, 3) := by decide +kernel
theorem dX5_letter_19 : decode cX5_letter 19 = .ok (.bipush 30, 2) := by decide +kernel
theorem dX5_letter_21 : decode cX5_letter 21 = .ok (.if_icmp .ne 6, 3) := by decide +kernel
theorem dX5_letter_24 : decode cX5_letter 24 = .ok (.bipush (-104), 2) := by decide +kernel
theorem dX5_letter_26 : decode cX5_letter 26 = .ok (.ireturn, 1) := by decide +kernel
theorem dX5_letter_27 : decode cX5_letter 27 = .ok (.aload_n 0, 1) := by decide +kernel
theorem dX5_letter_28 : decode cX5_letter 28 = .ok (.getfield 7, 3) := by decide +kernel
theorem dX5_letter_31 : decode cX5_letter 31 = .ok (.aload_n 0, 1) := by decide +kernel
theorem dX5_letter_32 : decode cX5_letter 32 = .ok (.getfield 44, 3) := by decide +kernel
theorem dX5_letter_35 : decode cX5_letter 35 = .ok (.iload_n 1, 1) := by decide +kernel
theorem dX5_letter_36 : decode cX5_letter 36 = .ok (.iastore, 1) := by decide +kernel
theorem dX5_letter_37 : decode cX5_letter 37 = .ok (.aload_n 0, 1) := by decide +kernel
theorem dX5_letter_38 : decode cX5_letter 38 = .ok (.dup, 1) := by decide +kernel
theorem dX5_letter_39 : decode cX5_letter 39 = .ok (.getfield 44, 3) := by decide +kernel
theorem dX5_letter_42 : decode cX5_letter 42 = .ok (.iconst 1, 1) := by decide +kernel
theorem dX5_letter_43 : decode cX5_letter 43 = .ok (.iadd, 1) := by decide +kernel
theorem dX5_letter_44 : decode cX5_letter 44 = .ok (.putfield 44, 3) := by decide +kernel
theorem dX5_letter_47 : decode cX5_letter 47 = .ok (.aload_n 0, 1) := by decide +kernel
theorem dX5_letter_48 : decode cX5_letter 48 = .ok (.getfield 44, 3) := by decide +kernel
theorem dX5_letter_51 : decode cX5_letter 51 = .ok (.ireturn, 1) := by decide +kernel
theorem dX5_blank_0 : decode cX5_blank 0 = .ok (.aload_n 0, 1) := by decide +kernel
theorem dX5_blank_1 : decode cX5_blank 1 = .ok (.getfield 44, 3) := by decide +kernel
theorem dX5_blank_4 : decode cX5_blank 4 = .ok (.istore_n 1, 1) := by decide +kernel
theorem dX5_blank_5 : decode cX5_blank 5 = .ok (.aload_n 0, 1) := by decide +kernel
theorem dX5_blank_6 : decode cX5_blank 6 = .ok (.iconst 0, 1) := by decide +kernel
theorem dX5_blank_7 : decode cX5_blank 7 = .ok (.putfield 44, 3) := by decide +kernel
theorem dX5_blank_10 : decode cX5_blank 10 = .ok (.iload_n 1, 1) := by decide +kernel
theorem dX5_blank_11 : decode cX5_blank 11 = .ok (.ireturn, 1) := by decide +kernel
theorem dX5_kindBy_0 : decode cX5_kindBy 0 = .ok (.iload_n 0, 1) := by decide +kernel
theorem dX5_kindBy_1 : decode cX5_kindBy 1 = .ok (.bipush 112, 2) := by decide +kernel
theorem dX5_kindBy_3 : decode cX5_kindBy 3 = .ok (.if_icmp .ne 7, 3) := by decide +kernel
theorem dX5_kindBy_6 : decode cX5_kindBy 6 = .ok (.iconst 0, 1) := by decide +kernel
theorem dX5_kindBy_7 : decode cX5_kindBy 7 = .ok (.goto 44, 3) := by decide +kernel
theorem dX5_kindBy_10 : decode cX5_kindBy 10 = .ok (.iload_n 0, 1) := by decide +kernel
theorem dX5_kindBy_11 : decode cX5_kindBy 11 = .ok (.bipush 102, 2) := by decide +kernel
theorem dX5_kindBy_13 : decode cX5_kindBy 13 = .ok (.if_icmp .ne 7, 3) := by decide +kernel
theorem dX5_kindBy_16 : decode cX5_kindBy 16 = .ok (.iconst 1, 1) := by decide +kernel
theorem dX5_kindBy_17 : decode cX5_kindBy 17 = .ok (.goto 34, 3) := by decide +kernel
theorem dX5_kindBy_20 : decode cX5_kindBy 20 = .ok (.iload_n 0, 1) := by decide +kernel
theorem dX5_kindBy_21 : decode cX5_kindBy 21 = .ok (.bipush 116, 2) := by decide +kernel
theorem dX5_kindBy_23 : decode cX5_kindBy 23 = .ok (.if_icmp .ne 7, 3) := by decide +kernel
theorem dX5_kindBy_26 : decode cX5_kindBy 26 = .ok (.iconst 2, 1) := by decide +kernel
theorem dX5_kindBy_27 : decode cX5_kindBy 27 = .ok (.goto 24, 3) := by decide +kernel
theorem dX5_kindBy_30 : decode cX5_kindBy 30 = .ok (.iload_n 0, 1) := by decide +kernel
theorem dX5_kindBy_31 : decode cX5_kindBy 31 = .ok (.bipush 104, 2) := by decide +kernel
theorem dX5_kindBy_33 : decode cX5_kindBy 33 = .ok (.if_icmp .ne 7, 3) := by decide +kernel
theorem dX5_kindBy_36 : decode cX5_kindBy 36 = .ok (.iconst 3, 1) := by decide +kernel
theorem dX5_kindBy_37 : decode cX5_kindBy 37 = .ok (.goto 14, 3) := by decide +kernel
theorem dX5_kindBy_40 : decode cX5_kindBy 40 = .ok (.iload_n 0, 1) := by decide +kernel
theorem dX5_kindBy_41 : decode cX5_kindBy 41 = .ok (.bipush 114, 2) := by decide +kernel
theorem dX5_kindBy_43 : decode cX5_kindBy 43 = .ok (.if_icmp .ne 7, 3) := by decide +kernel
theorem dX5_kindBy_46 : decode cX5_kindBy 46 = .ok (.iconst 4, 1) := by decide +kernel
theorem dX5_kindBy_47 : decode cX5_kindBy 47 = .ok (.goto 4, 3) := by decide +kernel
theorem dX5_kindBy_50 : decode cX5_kindBy 50 = .ok (.iconst (-1), 1) := by decide +kernel
theorem dX5_kindBy_51 : decode cX5_kindBy 51 = .ok (.ireturn, 1) := by decide +kernel
theorem dX5_isGood_0 : decode cX5_isGood 0 = .ok (.iload_n 0, 1) := by decide +kernel
theorem dX5_isGood_1 : decode cX5_isGood 1 = .ok (.iconst 4, 1) := by decide +kernel
theorem dX5_isGood_2 : decode cX5_isGood 2 = .ok (.irem, 1) := by decide +kernel
theorem dX5_isGood_3 : decode cX5_isGood 3 = .ok (.tableswitch 57 0 2 #[25, 45, 45], 25) := by decide +kernel
theorem dX5_isGood_28 : decode cX5_isGood 28 = .ok (.iload_n 0, 1) := by decide +kernel
theorem dX5_isGood_29 : decode cX5_isGood 29 = .ok (.bipush 28, 2) := by decide +kernel
theorem dX5_isGood_31 : decode cX5_isGood 31 = .ok (.if_icmp .ge 15, 3) := by decide +kernel
theorem dX5_isGood_34 : decode cX5_isGood 34 = .ok (.iload_n 1, 1) := by decide +kernel
theorem dX5_isGood_35 : decode cX5_isGood 35 = .ok (.invokestatic 47, 3) := by decide +kernel
theorem dX5_isGood_38 : decode cX5_isGood 38 = .ok (.iconst (-1), 1) := by decide +kernel
theorem dX5_isGood_39 : decode cX5_isGood 39 = .ok (.if_icmp .eq 7, 3) := by decide +kernel
theorem dX5_isGood_42 : decode cX5_isGood 42 = .ok (.iconst 1, 1) := by decide +kernel
theorem dX5_isGood_43 : decode cX5_isGood 43 = .ok (.goto 4, 3) := by decide +kernel
theorem dX5_isGood_46 : decode cX5_isGood 46 = .ok (.iconst 0, 1) := by decide +kernel
theorem dX5_isGood_47 : decode cX5_isGood 47 = .ok (.ireturn, 1) := by decide +kernel
theorem dX5_isGood_48 : decode cX5_isGood 48 = .ok (.iload_n 1, 1) := by decide +kernel
theorem dX5_isGood_49 : decode cX5_isGood 49 = .ok (.i2l, 1) := by decide +kernel
theorem dX5_isGood_50 : decode cX5_isGood 50 = .ok (.ldc2_w 51, 3) := by decide +kernel
theorem dX5_isGood_53 : decode cX5_isGood 53 = .ok (.ldc2_w 53, 3) := by decide +kernel
theorem dX5_isGood_56 : decode cX5_isGood 56 = .ok (.invokestatic 40, 3) := by decide +kernel
theorem dX5_isGood_59 : decode cX5_isGood 59 = .ok (.ireturn, 1) := by decide +kernel
theorem dX5_isGood_60 : decode cX5_isGood 60 = .ok (.iload_n 1, 1) := by decide +kernel
theorem dX5_isGood_61 : decode cX5_isGood 61 = .ok (.bipush 44, 2) := by decide +kernel
theorem dX5_isGood_63 : decode cX5_isGood 63 = .ok (.if_icmp .ne 13, 3) := by decide +kernel
theorem dX5_isGood_66 : decode cX5_isGood 66 = .ok (.iload_n 0, 1) := by decide +kernel
theorem dX5_isGood_67 : decode cX5_isGood 67 = .ok (.bipush 27, 2) := by decide +kernel
theorem dX5_isGood_69 : decode cX5_isGood 69 = .ok (.if_icmp .ge 7, 3) := by decide +kernel
theorem dX5_isGood_72 : decode cX5_isGood 72 = .ok (.iconst 1, 1) := by decide +kernel
theorem dX5_isGood_73 : decode cX5_isGood 73 = .ok (.goto 4, 3) := by decide +kernel
theorem dX5_isGood_76 : decode cX5_isGood 76 = .ok (.iconst 0, 1) := by decide +kernel
theorem dX5_isGood_77 : decode cX5_isGood 77 = .ok (.ireturn, 1) := by decide +kernel
theorem dX5_faultOf_0 : decode cX5_faultOf 0 = .ok (.iconst 0, 1) := by decide +kernel
theorem dX5_faultOf_1 : decode cX5_faultOf 1 = .ok (.istore_n 1, 1) := by decide +kernel
theorem dX5_faultOf_2 : decode cX5_faultOf 2 = .ok (.iload_n 1, 1) := by decide +kernel
theorem dX5_faultOf_3 : decode cX5_faultOf 3 = .ok (.aload_n 0, 1) := by decide +kernel
theorem dX5_faultOf_4 : decode cX5_faultOf 4 = .ok (.getfield 44, 3) := by decide +kernel
theorem dX5_faultOf_7 : decode cX5_faultOf 7 = .ok (.if_icmp .ge 22, 3) := by decide +kernel
theorem dX5_faultOf_10 : decode cX5_faultOf 10 = .ok (.iload_n 1, 1) := by decide +kernel
theorem dX5_faultOf_11 : decode cX5_faultOf 11 = .ok (.aload_n 0, 1) := by decide +kernel
theorem dX5_faultOf_12 : decode cX5_faultOf 12 = .ok (.getfield 7, 3) := by decide +kernel
theorem dX5_faultOf_15 : decode cX5_faultOf 15 = .ok (.iload_n 1, 1) := by decide +kernel
theorem dX5_faultOf_16 : decode cX5_faultOf 16 = .ok (.iaload, 1) := by decide +kernel
theorem dX5_faultOf_17 : decode cX5_faultOf 17 = .ok (.invokestatic 55, 3) := by decide +kernel
theorem dX5_faultOf_20 : decode cX5_faultOf 20 = .ok (.ifCond .eq 9, 3) := by decide +kernel
theorem dX5_faultOf_23 : decode cX5_faultOf 23 = .ok (.iinc 1 1, 3) := by decide +kernel
theorem dX5_faultOf_26 : decode cX5_faultOf 26 = .ok (.goto (-24), 3) := by decide +kernel
theorem dX5_faultOf_29 : decode cX5_faultOf 29 = .ok (.iload_n 1, 1) := by decide +kernel
theorem dX5_faultOf_30 : decode cX5_faultOf 30 = .ok (.ireturn, 1) := by decide +kernel
theorem dX5_fault_0 : decode cX5_fault 0 = .ok (.aload_n 0, 1) := by decide +kernel
theorem dX5_fault_1 : decode cX5_fault 1 = .ok (.invokevirtual 59, 3) := by decide +kernel
theorem dX5_fault_4 : decode cX5_fault 4 = .ok (.ireturn, 1) := by decide +kernel
theorem dX5_gym_0 : decode cX5_gym 0 = .ok (.aload_n 0, 1) := by decide +kernel
theorem dX5_gym_1 : decode cX5_gym 1 = .ok (.getfield 44, 3) := by decide +kernel
theorem dX5_gym_4 : decode cX5_gym 4 = .ok (.bipush 7, 2) := by decide +kernel
theorem dX5_gym_6 : decode cX5_gym 6 = .ok (.if_icmp .lt 24, 3) := by decide +kernel
theorem dX5_gym_9 : decode cX5_gym 9 = .ok (.aload_n 0, 1) := by decide +kernel
theorem dX5_gym_10 : decode cX5_gym 10 = .ok (.getfield 44, 3) := by decide +kernel
theorem dX5_gym_13 : decode cX5_gym 13 = .ok (.iconst 4, 1) := by decide +kernel
theorem dX5_gym_14 : decode cX5_gym 14 = .ok (.irem, 1) := by decide +kernel
theorem dX5_gym_15 : decode cX5_gym 15 = .ok (.iconst 3, 1) := by decide +kernel
theorem dX5_gym_16 : decode cX5_gym 16 = .ok (.if_icmp .ne 14, 3) := by decide +kernel
theorem dX5_gym_19 : decode cX5_gym 19 = .ok (.aload_n 0, 1) := by decide +kernel
theorem dX5_gym_20 : decode cX5_gym 20 = .ok (.invokevirtual 59, 3) := by decide +kernel
theorem dX5_gym_23 : decode cX5_gym 23 = .ok (.aload_n 0, 1) := by decide +kernel
theorem dX5_gym_24 : decode cX5_gym 24 = .ok (.getfield 44, 3) := by decide +kernel
theorem dX5_gym_27 : decode cX5_gym 27 = .ok (.if_icmp .ge 6, 3) := by decide +kernel
theorem dX5_gym_30 : decode cX5_gym 30 = .ok (.bipush (-103), 2) := by decide +kernel
theorem dX5_gym_32 : decode cX5_gym 32 = .ok (.ireturn, 1) := by decide +kernel
theorem dX5_gym_33 : decode cX5_gym 33 = .ok (.aload_n 0, 1) := by decide +kernel
theorem dX5_gym_34 : decode cX5_gym 34 = .ok (.aload_n 0, 1) := by decide +kernel
theorem dX5_gym_35 : decode cX5_gym 35 = .ok (.getfield 44, 3) := by decide +kernel
theorem dX5_gym_38 : decode cX5_gym 38 = .ok (.iconst 1, 1) := by decide +kernel
theorem dX5_gym_39 : decode cX5_gym 39 = .ok (.iadd, 1) := by decide +kernel
theorem dX5_gym_40 : decode cX5_gym 40 = .ok (.iconst 4, 1) := by decide +kernel
theorem dX5_gym_41 : decode cX5_gym 41 = .ok (.idiv, 1) := by decide +kernel
theorem dX5_gym_42 : decode cX5_gym 42 = .ok (.putfield 63, 3) := by decide +kernel
theorem dX5_gym_45 : decode cX5_gym 45 = .ok (.iconst 0, 1) := by decide +kernel
theorem dX5_gym_46 : decode cX5_gym 46 = .ok (.istore_n 1, 1) := by decide +kernel
theorem dX5_gym_47 : decode cX5_gym 47 = .ok (.iload_n 1, 1) := by decide +kernel
theorem dX5_gym_48 : decode cX5_gym 48 = .ok (.aload_n 0, 1) := by decide +kernel
theorem dX5_gym_49 : decode cX5_gym 49 = .ok (.getfield 63, 3) := by decide +kernel
theorem dX5_gym_52 : decode cX5_gym 52 = .ok (.if_icmp .ge 74, 3) := by decide +kernel
theorem dX5_gym_55 : decode cX5_gym 55 = .ok (.aload_n 0, 1) := by decide +kernel
theorem dX5_gym_56 : decode cX5_gym 56 = .ok (.getfield 13, 3) := by decide +kernel
theorem dX5_gym_59 : decode cX5_gym 59 = .ok (.iconst 3, 1) := by decide +kernel
theorem dX5_gym_60 : decode cX5_gym 60 = .ok (.iload_n 1, 1) := by decide +kernel
theorem dX5_gym_61 : decode cX5_gym 61 = .ok (.imul, 1) := by decide +kernel
theorem dX5_gym_62 : decode cX5_gym 62 = .ok (.aload_n 0, 1) := by decide +kernel
theorem dX5_gym_63 : decode cX5_gym 63 = .ok (.getfield 7, 3) := by decide +kernel
theorem dX5_gym_66 : decode cX5_gym 66 = .ok (.iconst 4, 1) := by decide +kernel
theorem dX5_gym_67 : decode cX5_gym 67 = .ok (.iload_n 1, 1) := by decide +kernel
theorem dX5_gym_68 : decode cX5_gym 68 = .ok (.imul, 1) := by decide +kernel
theorem dX5_gym_69 : decode cX5_gym 69 = .ok (.iaload, 1) := by decide +kernel
theorem dX5_gym_70 : decode cX5_gym 70 = .ok (.invokestatic 47, 3) := by decide +kernel
theorem dX5_gym_73 : decode cX5_gym 73 = .ok (.iastore, 1) := by decide +kernel
theorem dX5_gym_74 : decode cX5_gym 74 = .ok (.aload_n 0, 1) := by decide +kernel
theorem dX5_gym_75 : decode cX5_gym 75 = .ok (.getfield 13, 3) := by decide +kernel
theorem dX5_gym_78 : decode cX5_gym 78 = .ok (.iconst 3, 1) := by decide +kernel
theorem dX5_gym_79 : decode cX5_gym 79 = .ok (.iload_n 1, 1) := by decide +kernel
theorem dX5_gym_80 : decode cX5_gym 80 = .ok (.imul, 1) := by decide +kernel
theorem dX5_gym_81 : decode cX5_gym 81 = .ok (.iconst 1, 1) := by decide +kernel
theorem dX5_gym_82 : decode cX5_gym 82 = .ok (.iadd, 1) := by decide +kernel
theorem dX5_gym_83 : decode cX5_gym 83 = .ok (.aload_n 0, 1) := by decide +kernel
theorem dX5_gym_84 : decode cX5_gym 84 = .ok (.getfield 7, 3) := by decide +kernel
theorem dX5_gym_87 : decode cX5_gym 87 = .ok (.iconst 4, 1) := by decide +kernel
theorem dX5_gym_88 : decode cX5_gym 88 = .ok (.iload_n 1, 1) := by decide +kernel
theorem dX5_gym_89 : decode cX5_gym 89 = .ok (.imul, 1) := by decide +kernel
theorem dX5_gym_90 : decode cX5_gym 90 = .ok (.iconst 1, 1) := by decide +kernel
theorem dX5_gym_91 : decode cX5_gym 91 = .ok (.iadd, 1) := by decide +kernel
theorem dX5_gym_92 : decode cX5_gym 92 = .ok (.iaload, 1) := by decide +kernel
theorem dX5_gym_93 : decode cX5_gym 93 = .ok (.bipush 48, 2) := by decide +kernel
theorem dX5_gym_95 : decode cX5_gym 95 = .ok (.isub, 1) := by decide +kernel
theorem dX5_gym_96 : decode cX5_gym 96 = .ok (.iastore, 1) := by decide +kernel
theorem dX5_gym_97 : decode cX5_gym 97 = .ok (.aload_n 0, 1) := by decide +kernel
theorem dX5_gym_98 : decode cX5_gym 98 = .ok (.getfield 13, 3) := by decide +kernel
theorem dX5_gym_101 : decode cX5_gym 101 = .ok (.iconst 3, 1) := by decide +kernel
theorem dX5_gym_102 : decode cX5_gym 102 = .ok (.iload_n 1, 1) := by decide +kernel
theorem dX5_gym_103 : decode cX5_gym 103 = .ok (.imul, 1) := by decide +kernel
theorem dX5_gym_104 : decode cX5_gym 104 = .ok (.iconst 2, 1) := by decide +kernel
theorem dX5_gym_105 : decode cX5_gym 105 = .ok (.iadd, 1) := by decide +kernel
theorem dX5_gym_106 : decode cX5_gym 106 = .ok (.aload_n 0, 1) := by decide +kernel
theorem dX5_gym_107 : decode cX5_gym 107 = .ok (.getfield 7, 3) := by decide +kernel
theorem dX5_gym_110 : decode cX5_gym 110 = .ok (.iconst 4, 1) := by decide +kernel
theorem dX5_gym_111 : decode cX5_gym 111 = .ok (.iload_n 1, 1) := by decide +kernel
theorem dX5_gym_112 : decode cX5_gym 112 = .ok (.imul, 1) := by decide +kernel
theorem dX5_gym_113 : decode cX5_gym 113 = .ok (.iconst 2, 1) := by decide +kernel
theorem dX5_gym_114 : decode cX5_gym 114 = .ok (.iadd, 1) := by decide +kernel
theorem dX5_gym_115 : decode cX5_gym 115 = .ok (.iaload, 1) := by decide +kernel
theorem dX5_gym_116 : decode cX5_gym 116 = .ok (.bipush 48, 2) := by decide +kernel
theorem dX5_gym_118 : decode cX5_gym 118 = .ok (.isub, 1) := by decide +kernel
theorem dX5_gym_119 : decode cX5_gym 119 = .ok (.iastore, 1) := by decide +kernel
theorem dX5_gym_120 : decode cX5_gym 120 = .ok (.iinc 1 1, 3) := by decide +kernel
theorem dX5_gym_123 : decode cX5_gym 123 = .ok (.goto (-76), 3) := by decide +kernel
theorem dX5_gym_126 : decode cX5_gym 126 = .ok (.aload_n 0, 1) := by decide +kernel
theorem dX5_gym_127 : decode cX5_gym 127 = .ok (.iconst 0, 1) := by decide +kernel
theorem dX5_gym_128 : decode cX5_gym 128 = .ok (.putfield 66, 3) := by decide +kernel
theorem dX5_gym_131 : decode cX5_gym 131 = .ok (.aload_n 0, 1) := by decide +kernel
theorem dX5_gym_132 : decode cX5_gym 132 = .ok (.iconst 0, 1) := by decide +kernel
theorem dX5_gym_133 : decode cX5_gym 133 = .ok (.putfield 69, 3) := by decide +kernel
theorem dX5_gym_136 : decode cX5_gym 136 = .ok (.aload_n 0, 1) := by decide +kernel
theorem dX5_gym_137 : decode cX5_gym 137 = .ok (.iconst 0, 1) := by decide +kernel
theorem dX5_gym_138 : decode cX5_gym 138 = .ok (.putfield 72, 3) := by decide +kernel
theorem dX5_gym_141 : decode cX5_gym 141 = .ok (.aload_n 0, 1) := by decide +kernel
theorem dX5_gym_142 : decode cX5_gym 142 = .ok (.dup, 1) := by decide +kernel
theorem dX5_gym_143 : decode cX5_gym 143 = .ok (.getfield 75, 3) := by decide +kernel
theorem dX5_gym_146 : decode cX5_gym 146 = .ok (.iconst 1, 1) := by decide +kernel
theorem dX5_gym_147 : decode cX5_gym 147 = .ok (.iadd, 1) := by decide +kernel
theorem dX5_gym_148 : decode cX5_gym 148 = .ok (.putfield 75, 3) := by decide +kernel
theorem dX5_gym_151 : decode cX5_gym 151 = .ok (.aload_n 0, 1) := by decide +kernel
theorem dX5_gym_152 : decode cX5_gym 152 = .ok (.iconst 0, 1) := by decide +kernel
theorem dX5_gym_153 : decode cX5_gym 153 = .ok (.putfield 44, 3) := by decide +kernel
theorem dX5_gym_156 : decode cX5_gym 156 = .ok (.aload_n 0, 1) := by decide +kernel
theorem dX5_gym_157 : decode cX5_gym 157 = .ok (.getfield 63, 3) := by decide +kernel
theorem dX5_gym_160 : decode cX5_gym 160 = .ok (.ireturn, 1) := by decide +kernel
theorem dX5_lacks_0 : decode cX5_lacks 0 = .ok (.aload_n 0, 1) := by decide +kernel
theorem dX5_lacks_1 : decode cX5_lacks 1 = .ok (.getfield 63, 3) := by decide +kernel
theorem dX5_lacks_4 : decode cX5_lacks 4 = .ok (.ifCond .ne 7, 3) := by decide +kernel
theorem dX5_lacks_7 : decode cX5_lacks 7 = .ok (.iconst 1, 1) := by decide +kernel
theorem dX5_lacks_8 : decode cX5_lacks 8 = .ok (.goto 4, 3) := by decide +kernel
theorem dX5_lacks_11 : decode cX5_lacks 11 = .ok (.iconst 0, 1) := by decide +kernel
theorem dX5_lacks_12 : decode cX5_lacks 12 = .ok (.ireturn, 1) := by decide +kernel
theorem dX5_isPiece_0 : decode cX5_isPiece 0 = .ok (.iload_n 1, 1) := by decide +kernel
theorem dX5_isPiece_1 : decode cX5_isPiece 1 = .ok (.i2l, 1) := by decide +kernel
theorem dX5_isPiece_2 : decode cX5_isPiece 2 = .ok (.lconst 0, 1) := by decide +kernel
theorem dX5_isPiece_3 : decode cX5_isPiece 3 = .ok (.aload_n 0, 1) := by decide +kernel
theorem dX5_isPiece_4 : decode cX5_isPiece 4 = .ok (.getfield 63, 3) := by decide +kernel
theorem dX5_isPiece_7 : decode cX5_isPiece 7 = .ok (.iconst 1, 1) := by decide +kernel
theorem dX5_isPiece_8 : decode cX5_isPiece 8 = .ok (.isub, 1) := by decide +kernel
theorem dX5_isPiece_9 : decode cX5_isPiece 9 = .ok (.i2l, 1) := by decide +kernel
theorem dX5_isPiece_10 : decode cX5_isPiece 10 = .ok (.invokestatic 40, 3) := by decide +kernel
theorem dX5_isPiece_13 : decode cX5_isPiece 13 = .ok (.ireturn, 1) := by decide +kernel
theorem dX5_isPlace_0 : decode cX5_isPlace 0 = .ok (.iload_n 1, 1) := by decide +kernel
theorem dX5_isPlace_1 : decode cX5_isPlace 1 = .ok (.i2l, 1) := by decide +kernel
theorem dX5_isPlace_2 : decode cX5_isPlace 2 = .ok (.lconst 0, 1) := by decide +kernel
theorem dX5_isPlace_3 : decode cX5_isPlace 3 = .ok (.aload_n 0, 1) := by decide +kernel
theorem dX5_isPlace_4 : decode cX5_isPlace 4 = .ok (.getfield 66, 3) := by decide +kernel
theorem dX5_isPlace_7 : decode cX5_isPlace 7 = .ok (.iconst 1, 1) := by decide +kernel
theorem dX5_isPlace_8 : decode cX5_isPlace 8 = .ok (.isub, 1) := by decide +kernel
theorem dX5_isPlace_9 : decode cX5_isPlace 9 = .ok (.i2l, 1) := by decide +kernel
theorem dX5_isPlace_10 : decode cX5_isPlace 10 = .ok (.invokestatic 40, 3) := by decide +kernel
theorem dX5_isPlace_13 : decode cX5_isPlace 13 = .ok (.ireturn, 1) := by decide +kernel
theorem dX5_tenthsBy_0 : decode cX5_tenthsBy 0 = .ok (.iload_n 2, 1) := by decide +kernel
theorem dX5_tenthsBy_1 : decode cX5_tenthsBy 1 = .ok (.iconst 2, 1) := by decide +kernel
theorem dX5_tenthsBy_2 : decode cX5_tenthsBy 2 = .ok (.if_icmp .le 14, 3) := by decide +kernel
theorem dX5_tenthsBy_5 : decode cX5_tenthsBy 5 = .ok (.iload_n 0, 1) := by decide +kernel
theorem dX5_tenthsBy_6 : decode cX5_tenthsBy 6 = .ok (.iconst 3, 1) := by decide +kernel
theorem dX5_tenthsBy_7 : decode cX5_tenthsBy 7 = .ok (.if_icmp .eq 9, 3) := by decide +kernel
theorem dX5_tenthsBy_10 : decode cX5_tenthsBy 10 = .ok (.iload_n 2, 1) := by decide +kernel
theorem dX5_tenthsBy_11 : decode cX5_tenthsBy 11 = .ok (.iconst 2, 1) := by decide +kernel
theorem dX5_tenthsBy_12 : decode cX5_tenthsBy 12 = .ok (.isub, 1) := by decide +kernel
theorem dX5_tenthsBy_13 : decode cX5_tenthsBy 13 = .ok (.goto 4, 3) := by decide +kernel
theorem dX5_tenthsBy_16 : decode cX5_tenthsBy 16 = .ok (.iconst 0, 1) := by decide +kernel
theorem dX5_tenthsBy_17 : decode cX5_tenthsBy 17 = .ok (.istore_n 3, 1) := by decide +kernel
theorem dX5_tenthsBy_18 : decode cX5_tenthsBy 18 = .ok (.iload_n 1, 1) := by decide +kernel
theorem dX5_tenthsBy_19 : decode cX5_tenthsBy 19 = .ok (.iload_n 3, 1) := by decide +kernel
theorem dX5_tenthsBy_20 : decode cX5_tenthsBy 20 = .ok (.if_icmp .le 9, 3) := by decide +kernel
theorem dX5_tenthsBy_23 : decode cX5_tenthsBy 23 = .ok (.iload_n 1, 1) := by decide +kernel
theorem dX5_tenthsBy_24 : decode cX5_tenthsBy 24 = .ok (.iload_n 3, 1) := by decide +kernel
theorem dX5_tenthsBy_25 : decode cX5_tenthsBy 25 = .ok (.isub, 1) := by decide +kernel
theorem dX5_tenthsBy_26 : decode cX5_tenthsBy 26 = .ok (.goto 4, 3) := by decide +kernel
theorem dX5_tenthsBy_29 : decode cX5_tenthsBy 29 = .ok (.iconst 0, 1) := by decide +kernel
theorem dX5_tenthsBy_30 : decode cX5_tenthsBy 30 = .ok (.ireturn, 1) := by decide +kernel
theorem dX5_tenthsOf_0 : decode cX5_tenthsOf 0 = .ok (.aload_n 0, 1) := by decide +kernel
theorem dX5_tenthsOf_1 : decode cX5_tenthsOf 1 = .ok (.getfield 13, 3) := by decide +kernel
theorem dX5_tenthsOf_4 : decode cX5_tenthsOf 4 = .ok (.iconst 3, 1) := by decide +kernel
theorem dX5_tenthsOf_5 : decode cX5_tenthsOf 5 = .ok (.iload_n 1, 1) := by decide +kernel
theorem dX5_tenthsOf_6 : decode cX5_tenthsOf 6 = .ok (.imul, 1) := by decide +kernel
theorem dX5_tenthsOf_7 : decode cX5_tenthsOf 7 = .ok (.iaload, 1) := by decide +kernel
theorem dX5_tenthsOf_8 : decode cX5_tenthsOf 8 = .ok (.aload_n 0, 1) := by decide +kernel
theorem dX5_tenthsOf_9 : decode cX5_tenthsOf 9 = .ok (.getfield 13, 3) := by decide +kernel
theorem dX5_tenthsOf_12 : decode cX5_tenthsOf 12 = .ok (.iconst 3, 1) := by decide +kernel
theorem dX5_tenthsOf_13 : decode cX5_tenthsOf 13 = .ok (.iload_n 1, 1) := by decide +kernel
theorem dX5_tenthsOf_14 : decode cX5_tenthsOf 14 = .ok (.imul, 1) := by decide +kernel
theorem dX5_tenthsOf_15 : decode cX5_tenthsOf 15 = .ok (.iconst 2, 1) := by decide +kernel
theorem dX5_tenthsOf_16 : decode cX5_tenthsOf 16 = .ok (.iadd, 1) := by decide +kernel
theorem dX5_tenthsOf_17 : decode cX5_tenthsOf 17 = .ok (.iaload, 1) := by decide +kernel
theorem dX5_tenthsOf_18 : decode cX5_tenthsOf 18 = .ok (.iload_n 2, 1) := by decide +kernel
theorem dX5_tenthsOf_19 : decode cX5_tenthsOf 19 = .ok (.invokestatic 78, 3) := by decide +kernel
theorem dX5_tenthsOf_22 : decode cX5_tenthsOf 22 = .ok (.ireturn, 1) := by decide +kernel
theorem dX5_placeOf_0 : decode cX5_placeOf 0 = .ok (.iconst (-1), 1) := by decide +kernel
theorem dX5_placeOf_1 : decode cX5_placeOf 1 = .ok (.istore_n 2, 1) := by decide +kernel
theorem dX5_placeOf_2 : decode cX5_placeOf 2 = .ok (.iconst 0, 1) := by decide +kernel
theorem dX5_placeOf_3 : decode cX5_placeOf 3 = .ok (.istore_n 3, 1) := by decide +kernel
theorem dX5_placeOf_4 : decode cX5_placeOf 4 = .ok (.iload_n 3, 1) := by decide +kernel
theorem dX5_placeOf_5 : decode cX5_placeOf 5 = .ok (.aload_n 0, 1) := by decide +kernel
theorem dX5_placeOf_6 : decode cX5_placeOf 6 = .ok (.getfield 66, 3) := by decide +kernel
theorem dX5_placeOf_9 : decode cX5_placeOf 9 = .ok (.if_icmp .ge 25, 3) := by decide +kernel
theorem dX5_placeOf_12 : decode cX5_placeOf 12 = .ok (.aload_n 0, 1) := by decide +kernel
theorem dX5_placeOf_13 : decode cX5_placeOf 13 = .ok (.getfield 16, 3) := by decide +kernel
theorem dX5_placeOf_16 : decode cX5_placeOf 16 = .ok (.iload_n 3, 1) := by decide +kernel
theorem dX5_placeOf_17 : decode cX5_placeOf 17 = .ok (.iaload, 1) := by decide +kernel
theorem dX5_placeOf_18 : decode cX5_placeOf 18 = .ok (.iload_n 1, 1) := by decide +kernel
theorem dX5_placeOf_19 : decode cX5_placeOf 19 = .ok (.if_icmp .ne 7, 3) := by decide +kernel
theorem dX5_placeOf_22 : decode cX5_placeOf 22 = .ok (.iload_n 3, 1) := by decide +kernel
theorem dX5_placeOf_23 : decode cX5_placeOf 23 = .ok (.goto 4, 3) := by decide +kernel
theorem dX5_placeOf_26 : decode cX5_placeOf 26 = .ok (.iload_n 2, 1) := by decide +kernel
theorem dX5_placeOf_27 : decode cX5_placeOf 27 = .ok (.istore_n 2, 1) := by decide +kernel
theorem dX5_placeOf_28 : decode cX5_placeOf 28 = .ok (.iinc 3 1, 3) := by decide +kernel
theorem dX5_placeOf_31 : decode cX5_placeOf 31 = .ok (.goto (-27), 3) := by decide +kernel
theorem dX5_placeOf_34 : decode cX5_placeOf 34 = .ok (.iload_n 2, 1) := by decide +kernel
theorem dX5_placeOf_35 : decode cX5_placeOf 35 = .ok (.ireturn, 1) := by decide +kernel
theorem dX5_tell_0 : decode cX5_tell 0 = .ok (.iload_n 2, 1) := by decide +kernel
theorem dX5_tell_1 : decode cX5_tell 1 = .ok (.tableswitch 96 0 6 #[43, 43, 43, 54, 60, 84, 90], 43) := by decide +kernel
theorem dX5_tell_44 : decode cX5_tell 44 = .ok (.aload_n 0, 1) := by decide +kernel
theorem dX5_tell_45 : decode cX5_tell 45 = .ok (.getfield 13, 3) := by decide +kernel
theorem dX5_tell_48 : decode cX5_tell 48 = .ok (.iconst 3, 1) := by decide +kernel
theorem dX5_tell_49 : decode cX5_tell 49 = .ok (.iload_n 1, 1) := by decide +kernel
theorem dX5_tell_50 : decode cX5_tell 50 = .ok (.imul, 1) := by decide +kernel
theorem dX5_tell_51 : decode cX5_tell 51 = .ok (.iload_n 2, 1) := by decide +kernel
theorem dX5_tell_52 : decode cX5_tell 52 = .ok (.iadd, 1) := by decide +kernel
theorem dX5_tell_53 : decode cX5_tell 53 = .ok (.iaload, 1) := by decide +kernel
theorem dX5_tell_54 : decode cX5_tell 54 = .ok (.ireturn, 1) := by decide +kernel
theorem dX5_tell_55 : decode cX5_tell 55 = .ok (.aload_n 0, 1) := by decide +kernel
theorem dX5_tell_56 : decode cX5_tell 56 = .ok (.iload_n 1, 1) := by decide +kernel
theorem dX5_tell_57 : decode cX5_tell 57 = .ok (.invokevirtual 82, 3) := by decide +kernel
theorem dX5_tell_60 : decode cX5_tell 60 = .ok (.ireturn, 1) := by decide +kernel
theorem dX5_tell_61 : decode cX5_tell 61 = .ok (.aload_n 0, 1) := by decide +kernel
theorem dX5_tell_62 : decode cX5_tell 62 = .ok (.iload_n 1, 1) := by decide +kernel
theorem dX5_tell_63 : decode cX5_tell 63 = .ok (.invokevirtual 82, 3) := by decide +kernel
theorem dX5_tell_66 : decode cX5_tell 66 = .ok (.iconst (-1), 1) := by decide +kernel
theorem dX5_tell_67 : decode cX5_tell 67 = .ok (.if_icmp .ne 7, 3) := by decide +kernel
theorem dX5_tell_70 : decode cX5_tell 70 = .ok (.iconst (-1), 1) := by decide +kernel
theorem dX5_tell_71 : decode cX5_tell 71 = .ok (.goto 13, 3) := by decide +kernel
theorem dX5_tell_74 : decode cX5_tell 74 = .ok (.aload_n 0, 1) := by decide +kernel
theorem dX5_tell_75 : decode cX5_tell 75 = .ok (.iload_n 1, 1) := by decide +kernel
theorem dX5_tell_76 : decode cX5_tell 76 = .ok (.aload_n 0, 1) := by decide +kernel
theorem dX5_tell_77 : decode cX5_tell 77 = .ok (.iload_n 1, 1) := by decide +kernel
theorem dX5_tell_78 : decode cX5_tell 78 = .ok (.invokevirtual 82, 3) := by decide +kernel
theorem dX5_tell_81 : decode cX5_tell 81 = .ok (.invokevirtual 85, 3) := by decide +kernel
theorem dX5_tell_84 : decode cX5_tell 84 = .ok (.ireturn, 1) := by decide +kernel
theorem dX5_tell_85 : decode cX5_tell 85 = .ok (.aload_n 0, 1) := by decide +kernel
theorem dX5_tell_86 : decode cX5_tell 86 = .ok (.iload_n 1, 1) := by decide +kernel
theorem dX5_tell_87 : decode cX5_tell 87 = .ok (.invokevirtual 89, 3) := by decide +kernel
theorem dX5_tell_90 : decode cX5_tell 90 = .ok (.ireturn, 1) := by decide +kernel
theorem dX5_tell_91 : decode cX5_tell 91 = .ok (.aload_n 0, 1) := by decide +kernel
theorem dX5_tell_92 : decode cX5_tell 92 = .ok (.iload_n 1, 1) := by decide +kernel
theorem dX5_tell_93 : decode cX5_tell 93 = .ok (.invokevirtual 92, 3) := by decide +kernel
theorem dX5_tell_96 : decode cX5_tell 96 = .ok (.ireturn, 1) := by decide +kernel
theorem dX5_tell_97 : decode cX5_tell 97 = .ok (.bipush (-102), 2) := by decide +kernel
theorem dX5_tell_99 : decode cX5_tell 99 = .ok (.ireturn, 1) := by decide +kernel
theorem dX5_piece_0 : decode cX5_piece 0 = .ok (.aload_n 0, 1) := by decide +kernel
theorem dX5_piece_1 : decode cX5_piece 1 = .ok (.iload_n 1, 1) := by decide +kernel
theorem dX5_piece_2 : decode cX5_piece 2 = .ok (.invokevirtual 95, 3) := by decide +kernel
theorem dX5_piece_5 : decode cX5_piece 5 = .ok (.ifCond .eq 12, 3) := by decide +kernel
theorem dX5_piece_8 : decode cX5_piece 8 = .ok (.aload_n 0, 1) := by decide +kernel
theorem dX5_piece_9 : decode cX5_piece 9 = .ok (.iload_n 1, 1) := by decide +kernel
theorem dX5_piece_10 : decode cX5_piece 10 = .ok (.iload_n 2, 1) := by decide +kernel
theorem dX5_piece_11 : decode cX5_piece 11 = .ok (.invokevirtual 99, 3) := by decide +kernel
theorem dX5_piece_14 : decode cX5_piece 14 = .ok (.goto 5, 3) := by decide +kernel
theorem dX5_piece_17 : decode cX5_piece 17 = .ok (.bipush (-101), 2) := by decide +kernel
theorem dX5_piece_19 : decode cX5_piece 19 = .ok (.ireturn, 1) := by decide +kernel
theorem dX5_as_0 : decode cX5_as 0 = .ok (.aload_n 0, 1) := by decide +kernel
theorem dX5_as_1 : decode cX5_as 1 = .ok (.iload_n 1, 1) := by decide +kernel
theorem dX5_as_2 : decode cX5_as 2 = .ok (.invokevirtual 95, 3) := by decide +kernel
theorem dX5_as_5 : decode cX5_as 5 = .ok (.ifCond .ne 6, 3) := by decide +kernel
theorem dX5_as_8 : decode cX5_as 8 = .ok (.bipush (-101), 2) := by decide +kernel
theorem dX5_as_10 : decode cX5_as 10 = .ok (.ireturn, 1) := by decide +kernel
theorem dX5_as_11 : decode cX5_as 11 = .ok (.iload_n 2, 1) := by decide +kernel
theorem dX5_as_12 : decode cX5_as 12 = .ok (.i2l, 1) := by decide +kernel
theorem dX5_as_13 : decode cX5_as 13 = .ok (.lconst 0, 1) := by decide +kernel
theorem dX5_as_14 : decode cX5_as 14 = .ok (.ldc2_w 102, 3) := by decide +kernel
theorem dX5_as_17 : decode cX5_as 17 = .ok (.invokestatic 40, 3) := by decide +kernel
theorem dX5_as_20 : decode cX5_as 20 = .ok (.ifCond .ne 6, 3) := by decide +kernel
theorem dX5_as_23 : decode cX5_as 23 = .ok (.bipush (-102), 2) := by decide +kernel
theorem dX5_as_25 : decode cX5_as 25 = .ok (.ireturn, 1) := by decide +kernel
theorem dX5_as_26 : decode cX5_as 26 = .ok (.aload_n 0, 1) := by decide +kernel
theorem dX5_as_27 : decode cX5_as 27 = .ok (.getfield 13, 3) := by decide +kernel
theorem dX5_as_30 : decode cX5_as 30 = .ok (.iconst 3, 1) := by decide +kernel
theorem dX5_as_31 : decode cX5_as 31 = .ok (.iload_n 1, 1) := by decide +kernel
theorem dX5_as_32 : decode cX5_as 32 = .ok (.imul, 1) := by decide +kernel
theorem dX5_as_33 : decode cX5_as 33 = .ok (.iaload, 1) := by decide +kernel
theorem dX5_as_34 : decode cX5_as 34 = .ok (.istore_n 3, 1) := by decide +kernel
theorem dX5_as_35 : decode cX5_as 35 = .ok (.iload_n 2, 1) := by decide +kernel
theorem dX5_as_36 : decode cX5_as 36 = .ok (.ifCond .eq 18, 3) := by decide +kernel
theorem dX5_as_39 : decode cX5_as 39 = .ok (.iload_n 2, 1) := by decide +kernel
theorem dX5_as_40 : decode cX5_as 40 = .ok (.iload_n 3, 1) := by decide +kernel
theorem dX5_as_41 : decode cX5_as 41 = .ok (.if_icmp .eq 13, 3) := by decide +kernel
theorem dX5_as_44 : decode cX5_as 44 = .ok (.iload_n 2, 1) := by decide +kernel
theorem dX5_as_45 : decode cX5_as 45 = .ok (.iconst 1, 1) := by decide +kernel
theorem dX5_as_46 : decode cX5_as 46 = .ok (.if_icmp .ne 12, 3) := by decide +kernel
theorem dX5_as_49 : decode cX5_as 49 = .ok (.iload_n 3, 1) := by decide +kernel
theorem dX5_as_50 : decode cX5_as 50 = .ok (.iconst 4, 1) := by decide +kernel
theorem dX5_as_51 : decode cX5_as 51 = .ok (.if_icmp .ne 7, 3) := by decide +kernel
theorem dX5_as_54 : decode cX5_as 54 = .ok (.iconst 1, 1) := by decide +kernel
theorem dX5_as_55 : decode cX5_as 55 = .ok (.goto 4, 3) := by decide +kernel
theorem dX5_as_58 : decode cX5_as 58 = .ok (.iconst 0, 1) := by decide +kernel
theorem dX5_as_59 : decode cX5_as 59 = .ok (.istore 4, 2) := by decide +kernel
theorem dX5_as_61 : decode cX5_as 61 = .ok (.iload 4, 2) := by decide +kernel
theorem dX5_as_63 : decode cX5_as 63 = .ok (.ifCond .eq 7, 3) := by decide +kernel
theorem dX5_as_66 : decode cX5_as 66 = .ok (.iload_n 1, 1) := by decide +kernel
theorem dX5_as_67 : decode cX5_as 67 = .ok (.goto 4, 3) := by decide +kernel
theorem dX5_as_70 : decode cX5_as 70 = .ok (.iconst (-1), 1) := by decide +kernel
theorem dX5_as_71 : decode cX5_as 71 = .ok (.ireturn, 1) := by decide +kernel
theorem dX5_put_0 : decode cX5_put 0 = .ok (.aload_n 0, 1) := by decide +kernel
theorem dX5_put_1 : decode cX5_put 1 = .ok (.iload_n 1, 1) := by decide +kernel
theorem dX5_put_2 : decode cX5_put 2 = .ok (.invokevirtual 95, 3) := by decide +kernel
theorem dX5_put_5 : decode cX5_put 5 = .ok (.ifCond .ne 6, 3) := by decide +kernel
theorem dX5_put_8 : decode cX5_put 8 = .ok (.bipush (-101), 2) := by decide +kernel
theorem dX5_put_10 : decode cX5_put 10 = .ok (.ireturn, 1) := by decide +kernel
theorem dX5_put_11 : decode cX5_put 11 = .ok (.aload_n 0, 1) := by decide +kernel
theorem dX5_put_12 : decode cX5_put 12 = .ok (.iload_n 1, 1) := by decide +kernel
theorem dX5_put_13 : decode cX5_put 13 = .ok (.invokevirtual 82, 3) := by decide +kernel
theorem dX5_put_16 : decode cX5_put 16 = .ok (.iconst (-1), 1) := by decide +kernel
theorem dX5_put_17 : decode cX5_put 17 = .ok (.if_icmp .eq 6, 3) := by decide +kernel
theorem dX5_put_20 : decode cX5_put 20 = .ok (.bipush (-103), 2) := by decide +kernel
theorem dX5_put_22 : decode cX5_put 22 = .ok (.ireturn, 1) := by decide +kernel
theorem dX5_put_23 : decode cX5_put 23 = .ok (.aload_n 0, 1) := by decide +kernel
theorem dX5_put_24 : decode cX5_put 24 = .ok (.getfield 66, 3) := by decide +kernel
theorem dX5_put_27 : decode cX5_put 27 = .ok (.iconst 5, 1) := by decide +kernel
theorem dX5_put_28 : decode cX5_put 28 = .ok (.if_icmp .ne 6, 3) := by decide +kernel
theorem dX5_put_31 : decode cX5_put 31 = .ok (.bipush (-104), 2) := by decide +kernel
theorem dX5_put_33 : decode cX5_put 33 = .ok (.ireturn, 1) := by decide +kernel
theorem dX5_put_34 : decode cX5_put 34 = .ok (.aload_n 0, 1) := by decide +kernel
theorem dX5_put_35 : decode cX5_put 35 = .ok (.getfield 16, 3) := by decide +kernel
theorem dX5_put_38 : decode cX5_put 38 = .ok (.aload_n 0, 1) := by decide +kernel
theorem dX5_put_39 : decode cX5_put 39 = .ok (.getfield 66, 3) := by decide +kernel
theorem dX5_put_42 : decode cX5_put 42 = .ok (.iload_n 1, 1) := by decide +kernel
theorem dX5_put_43 : decode cX5_put 43 = .ok (.iastore, 1) := by decide +kernel
theorem dX5_put_44 : decode cX5_put 44 = .ok (.aload_n 0, 1) := by decide +kernel
theorem dX5_put_45 : decode cX5_put 45 = .ok (.dup, 1) := by decide +kernel
theorem dX5_put_46 : decode cX5_put 46 = .ok (.getfield 66, 3) := by decide +kernel
theorem dX5_put_49 : decode cX5_put 49 = .ok (.iconst 1, 1) := by decide +kernel
theorem dX5_put_50 : decode cX5_put 50 = .ok (.iadd, 1) := by decide +kernel
theorem dX5_put_51 : decode cX5_put 51 = .ok (.putfield 66, 3) := by decide +kernel
theorem dX5_put_54 : decode cX5_put 54 = .ok (.aload_n 0, 1) := by decide +kernel
theorem dX5_put_55 : decode cX5_put 55 = .ok (.dup, 1) := by decide +kernel
theorem dX5_put_56 : decode cX5_put 56 = .ok (.getfield 69, 3) := by decide +kernel
theorem dX5_put_59 : decode cX5_put 59 = .ok (.iconst 1, 1) := by decide +kernel
theorem dX5_put_60 : decode cX5_put 60 = .ok (.iadd, 1) := by decide +kernel
theorem dX5_put_61 : decode cX5_put 61 = .ok (.putfield 69, 3) := by decide +kernel
theorem dX5_put_64 : decode cX5_put 64 = .ok (.aload_n 0, 1) := by decide +kernel
theorem dX5_put_65 : decode cX5_put 65 = .ok (.getfield 66, 3) := by decide +kernel
theorem dX5_put_68 : decode cX5_put 68 = .ok (.iconst 1, 1) := by decide +kernel
theorem dX5_put_69 : decode cX5_put 69 = .ok (.isub, 1) := by decide +kernel
theorem dX5_put_70 : decode cX5_put 70 = .ok (.ireturn, 1) := by decide +kernel
theorem dX5_take_0 : decode cX5_take 0 = .ok (.aload_n 0, 1) := by decide +kernel
theorem dX5_take_1 : decode cX5_take 1 = .ok (.iload_n 1, 1) := by decide +kernel
theorem dX5_take_2 : decode cX5_take 2 = .ok (.invokevirtual 104, 3) := by decide +kernel
theorem dX5_take_5 : decode cX5_take 5 = .ok (.ifCond .ne 6, 3) := by decide +kernel
theorem dX5_take_8 : decode cX5_take 8 = .ok (.bipush (-101), 2) := by decide +kernel
theorem dX5_take_10 : decode cX5_take 10 = .ok (.ireturn, 1) := by decide +kernel
theorem dX5_take_11 : decode cX5_take 11 = .ok (.aload_n 0, 1) := by decide +kernel
theorem dX5_take_12 : decode cX5_take 12 = .ok (.getfield 16, 3) := by decide +kernel
theorem dX5_take_15 : decode cX5_take 15 = .ok (.iload_n 1, 1) := by decide +kernel
theorem dX5_take_16 : decode cX5_take 16 = .ok (.iaload, 1) := by decide +kernel
theorem dX5_take_17 : decode cX5_take 17 = .ok (.istore_n 2, 1) := by decide +kernel
theorem dX5_take_18 : decode cX5_take 18 = .ok (.iload_n 1, 1) := by decide +kernel
theorem dX5_take_19 : decode cX5_take 19 = .ok (.istore_n 3, 1) := by decide +kernel
theorem dX5_take_20 : decode cX5_take 20 = .ok (.iload_n 3, 1) := by decide +kernel
theorem dX5_take_21 : decode cX5_take 21 = .ok (.aload_n 0, 1) := by decide +kernel
theorem dX5_take_22 : decode cX5_take 22 = .ok (.getfield 66, 3) := by decide +kernel
theorem dX5_take_25 : decode cX5_take 25 = .ok (.iconst 1, 1) := by decide +kernel
theorem dX5_take_26 : decode cX5_take 26 = .ok (.isub, 1) := by decide +kernel
theorem dX5_take_27 : decode cX5_take 27 = .ok (.if_icmp .ge 23, 3) := by decide +kernel
theorem dX5_take_30 : decode cX5_take 30 = .ok (.aload_n 0, 1) := by decide +kernel
theorem dX5_take_31 : decode cX5_take 31 = .ok (.getfield 16, 3) := by decide +kernel
theorem dX5_take_34 : decode cX5_take 34 = .ok (.iload_n 3, 1) := by decide +kernel
theorem dX5_take_35 : decode cX5_take 35 = .ok (.aload_n 0, 1) := by decide +kernel
theorem dX5_take_36 : decode cX5_take 36 = .ok (.getfield 16, 3) := by decide +kernel
theorem dX5_take_39 : decode cX5_take 39 = .ok (.iload_n 3, 1) := by decide +kernel
theorem dX5_take_40 : decode cX5_take 40 = .ok (.iconst 1, 1) := by decide +kernel
theorem dX5_take_41 : decode cX5_take 41 = .ok (.iadd, 1) := by decide +kernel
theorem dX5_take_42 : decode cX5_take 42 = .ok (.iaload, 1) := by decide +kernel
theorem dX5_take_43 : decode cX5_take 43 = .ok (.iastore, 1) := by decide +kernel
theorem dX5_take_44 : decode cX5_take 44 = .ok (.iinc 3 1, 3) := by decide +kernel
theorem dX5_take_47 : decode cX5_take 47 = .ok (.goto (-27), 3) := by decide +kernel
theorem dX5_take_50 : decode cX5_take 50 = .ok (.aload_n 0, 1) := by decide +kernel
theorem dX5_take_51 : decode cX5_take 51 = .ok (.dup, 1) := by decide +kernel
theorem dX5_take_52 : decode cX5_take 52 = .ok (.getfield 66, 3) := by decide +kernel
theorem dX5_take_55 : decode cX5_take 55 = .ok (.iconst 1, 1) := by decide +kernel
theorem dX5_take_56 : decode cX5_take 56 = .ok (.isub, 1) := by decide +kernel
theorem dX5_take_57 : decode cX5_take 57 = .ok (.putfield 66, 3) := by decide +kernel
theorem dX5_take_60 : decode cX5_take 60 = .ok (.aload_n 0, 1) := by decide +kernel
theorem dX5_take_61 : decode cX5_take 61 = .ok (.dup, 1) := by decide +kernel
theorem dX5_take_62 : decode cX5_take 62 = .ok (.getfield 69, 3) := by decide +kernel
theorem dX5_take_65 : decode cX5_take 65 = .ok (.iconst 1, 1) := by decide +kernel
theorem dX5_take_66 : decode cX5_take 66 = .ok (.iadd, 1) := by decide +kernel
theorem dX5_take_67 : decode cX5_take 67 = .ok (.putfield 69, 3) := by decide +kernel
theorem dX5_take_70 : decode cX5_take 70 = .ok (.iload_n 2, 1) := by decide +kernel
theorem dX5_take_71 : decode cX5_take 71 = .ok (.ireturn, 1) := by decide +kernel
theorem dX5_swap_0 : decode cX5_swap 0 = .ok (.aload_n 0, 1) := by decide +kernel
theorem dX5_swap_1 : decode cX5_swap 1 = .ok (.iload_n 1, 1) := by decide +kernel
theorem dX5_swap_2 : decode cX5_swap 2 = .ok (.invokevirtual 104, 3) := by decide +kernel
theorem dX5_swap_5 : decode cX5_swap 5 = .ok (.ifCond .eq 11, 3) := by decide +kernel
theorem dX5_swap_8 : decode cX5_swap 8 = .ok (.aload_n 0, 1) := by decide +kernel
theorem dX5_swap_9 : decode cX5_swap 9 = .ok (.iload_n 2, 1) := by decide +kernel
theorem dX5_swap_10 : decode cX5_swap 10 = .ok (.invokevirtual 104, 3) := by decide +kernel
theorem dX5_swap_13 : decode cX5_swap 13 = .ok (.ifCond .ne 6, 3) := by decide +kernel
theorem dX5_swap_16 : decode cX5_swap 16 = .ok (.bipush (-101), 2) := by decide +kernel
theorem dX5_swap_18 : decode cX5_swap 18 = .ok (.ireturn, 1) := by decide +kernel
theorem dX5_swap_19 : decode cX5_swap 19 = .ok (.aload_n 0, 1) := by decide +kernel
theorem dX5_swap_20 : decode cX5_swap 20 = .ok (.getfield 16, 3) := by decide +kernel
theorem dX5_swap_23 : decode cX5_swap 23 = .ok (.iload_n 1, 1) := by decide +kernel
theorem dX5_swap_24 : decode cX5_swap 24 = .ok (.iaload, 1) := by decide +kernel
theorem dX5_swap_25 : decode cX5_swap 25 = .ok (.istore_n 3, 1) := by decide +kernel
theorem dX5_swap_26 : decode cX5_swap 26 = .ok (.aload_n 0, 1) := by decide +kernel
theorem dX5_swap_27 : decode cX5_swap 27 = .ok (.getfield 16, 3) := by decide +kernel
theorem dX5_swap_30 : decode cX5_swap 30 = .ok (.iload_n 1, 1) := by decide +kernel
theorem dX5_swap_31 : decode cX5_swap 31 = .ok (.aload_n 0, 1) := by decide +kernel
theorem dX5_swap_32 : decode cX5_swap 32 = .ok (.getfield 16, 3) := by decide +kernel
theorem dX5_swap_35 : decode cX5_swap 35 = .ok (.iload_n 2, 1) := by decide +kernel
theorem dX5_swap_36 : decode cX5_swap 36 = .ok (.iaload, 1) := by decide +kernel
theorem dX5_swap_37 : decode cX5_swap 37 = .ok (.iastore, 1) := by decide +kernel
theorem dX5_swap_38 : decode cX5_swap 38 = .ok (.aload_n 0, 1) := by decide +kernel
theorem dX5_swap_39 : decode cX5_swap 39 = .ok (.getfield 16, 3) := by decide +kernel
theorem dX5_swap_42 : decode cX5_swap 42 = .ok (.iload_n 2, 1) := by decide +kernel
theorem dX5_swap_43 : decode cX5_swap 43 = .ok (.iload_n 3, 1) := by decide +kernel
theorem dX5_swap_44 : decode cX5_swap 44 = .ok (.iastore, 1) := by decide +kernel
theorem dX5_swap_45 : decode cX5_swap 45 = .ok (.aload_n 0, 1) := by decide +kernel
theorem dX5_swap_46 : decode cX5_swap 46 = .ok (.dup, 1) := by decide +kernel
theorem dX5_swap_47 : decode cX5_swap 47 = .ok (.getfield 69, 3) := by decide +kernel
theorem dX5_swap_50 : decode cX5_swap 50 = .ok (.iconst 1, 1) := by decide +kernel
theorem dX5_swap_51 : decode cX5_swap 51 = .ok (.iadd, 1) := by decide +kernel
theorem dX5_swap_52 : decode cX5_swap 52 = .ok (.putfield 69, 3) := by decide +kernel
theorem dX5_swap_55 : decode cX5_swap 55 = .ok (.aload_n 0, 1) := by decide +kernel
theorem dX5_swap_56 : decode cX5_swap 56 = .ok (.getfield 69, 3) := by decide +kernel
theorem dX5_swap_59 : decode cX5_swap 59 = .ok (.ireturn, 1) := by decide +kernel
theorem dX5_at_0 : decode cX5_at 0 = .ok (.aload_n 0, 1) := by decide +kernel
theorem dX5_at_1 : decode cX5_at 1 = .ok (.iload_n 1, 1) := by decide +kernel
theorem dX5_at_2 : decode cX5_at 2 = .ok (.invokevirtual 104, 3) := by decide +kernel
theorem dX5_at_5 : decode cX5_at 5 = .ok (.ifCond .eq 12, 3) := by decide +kernel
theorem dX5_at_8 : decode cX5_at 8 = .ok (.aload_n 0, 1) := by decide +kernel
theorem dX5_at_9 : decode cX5_at 9 = .ok (.getfield 16, 3) := by decide +kernel
theorem dX5_at_12 : decode cX5_at 12 = .ok (.iload_n 1, 1) := by decide +kernel
theorem dX5_at_13 : decode cX5_at 13 = .ok (.iaload, 1) := by decide +kernel
theorem dX5_at_14 : decode cX5_at 14 = .ok (.goto 5, 3) := by decide +kernel
theorem dX5_at_17 : decode cX5_at 17 = .ok (.bipush (-101), 2) := by decide +kernel
theorem dX5_at_19 : decode cX5_at 19 = .ok (.ireturn, 1) := by decide +kernel
theorem dX5_isFlight_0 : decode cX5_isFlight 0 = .ok (.aload_n 0, 1) := by decide +kernel
theorem dX5_isFlight_1 : decode cX5_isFlight 1 = .ok (.getfield 13, 3) := by decide +kernel
theorem dX5_isFlight_4 : decode cX5_isFlight 4 = .ok (.iconst 3, 1) := by decide +kernel
theorem dX5_isFlight_5 : decode cX5_isFlight 5 = .ok (.iload_n 1, 1) := by decide +kernel
theorem dX5_isFlight_6 : decode cX5_isFlight 6 = .ok (.imul, 1) := by decide +kernel
theorem dX5_isFlight_7 : decode cX5_isFlight 7 = .ok (.iaload, 1) := by decide +kernel
theorem dX5_isFlight_8 : decode cX5_isFlight 8 = .ok (.iconst 1, 1) := by decide +kernel
theorem dX5_isFlight_9 : decode cX5_isFlight 9 = .ok (.if_icmp .eq 15, 3) := by decide +kernel
theorem dX5_isFlight_12 : decode cX5_isFlight 12 = .ok (.aload_n 0, 1) := by decide +kernel
theorem dX5_isFlight_13 : decode cX5_isFlight 13 = .ok (.getfield 13, 3) := by decide +kernel
theorem dX5_isFlight_16 : decode cX5_isFlight 16 = .ok (.iconst 3, 1) := by decide +kernel
theorem dX5_isFlight_17 : decode cX5_isFlight 17 = .ok (.iload_n 1, 1) := by decide +kernel
theorem dX5_isFlight_18 : decode cX5_isFlight 18 = .ok (.imul, 1) := by decide +kernel
theorem dX5_isFlight_19 : decode cX5_isFlight 19 = .ok (.iaload, 1) := by decide +kernel
theorem dX5_isFlight_20 : decode cX5_isFlight 20 = .ok (.iconst 4, 1) := by decide +kernel
theorem dX5_isFlight_21 : decode cX5_isFlight 21 = .ok (.if_icmp .ne 7, 3) := by decide +kernel
theorem dX5_isFlight_24 : decode cX5_isFlight 24 = .ok (.iconst 1, 1) := by decide +kernel
theorem dX5_isFlight_25 : decode cX5_isFlight 25 = .ok (.goto 4, 3) := by decide +kernel
theorem dX5_isFlight_28 : decode cX5_isFlight 28 = .ok (.iconst 0, 1) := by decide +kernel
theorem dX5_isFlight_29 : decode cX5_isFlight 29 = .ok (.ireturn, 1) := by decide +kernel
theorem dX5_isTurn_0 : decode cX5_isTurn 0 = .ok (.aload_n 0, 1) := by decide +kernel
theorem dX5_isTurn_1 : decode cX5_isTurn 1 = .ok (.getfield 13, 3) := by decide +kernel
theorem dX5_isTurn_4 : decode cX5_isTurn 4 = .ok (.iconst 3, 1) := by decide +kernel
theorem dX5_isTurn_5 : decode cX5_isTurn 5 = .ok (.iload_n 1, 1) := by decide +kernel
theorem dX5_isTurn_6 : decode cX5_isTurn 6 = .ok (.imul, 1) := by decide +kernel
theorem dX5_isTurn_7 : decode cX5_isTurn 7 = .ok (.iaload, 1) := by decide +kernel
theorem dX5_isTurn_8 : decode cX5_isTurn 8 = .ok (.iconst 2, 1) := by decide +kernel
theorem dX5_isTurn_9 : decode cX5_isTurn 9 = .ok (.if_icmp .ne 7, 3) := by decide +kernel
theorem dX5_isTurn_12 : decode cX5_isTurn 12 = .ok (.iconst 1, 1) := by decide +kernel
theorem dX5_isTurn_13 : decode cX5_isTurn 13 = .ok (.goto 4, 3) := by decide +kernel
theorem dX5_isTurn_16 : decode cX5_isTurn 16 = .ok (.iconst 0, 1) := by decide +kernel
theorem dX5_isTurn_17 : decode cX5_isTurn 17 = .ok (.ireturn, 1) := by decide +kernel
theorem dX5_joins_0 : decode cX5_joins 0 = .ok (.iload_n 3, 1) := by decide +kernel
theorem dX5_joins_1 : decode cX5_joins 1 = .ok (.iload_n 2, 1) := by decide +kernel
theorem dX5_joins_2 : decode cX5_joins 2 = .ok (.iconst 1, 1) := by decide +kernel
theorem dX5_joins_3 : decode cX5_joins 3 = .ok (.isub, 1) := by decide +kernel
theorem dX5_joins_4 : decode cX5_joins 4 = .ok (.if_icmp .ge 41, 3) := by decide +kernel
theorem dX5_joins_7 : decode cX5_joins 7 = .ok (.aload_n 0, 1) := by decide +kernel
theorem dX5_joins_8 : decode cX5_joins 8 = .ok (.aload_n 1, 1) := by decide +kernel
theorem dX5_joins_9 : decode cX5_joins 9 = .ok (.iload_n 3, 1) := by decide +kernel
theorem dX5_joins_10 : decode cX5_joins 10 = .ok (.iaload, 1) := by decide +kernel
theorem dX5_joins_11 : decode cX5_joins 11 = .ok (.invokevirtual 107, 3) := by decide +kernel
theorem dX5_joins_14 : decode cX5_joins 14 = .ok (.ifCond .eq 31, 3) := by decide +kernel
theorem dX5_joins_17 : decode cX5_joins 17 = .ok (.aload_n 0, 1) := by decide +kernel
theorem dX5_joins_18 : decode cX5_joins 18 = .ok (.aload_n 1, 1) := by decide +kernel
theorem dX5_joins_19 : decode cX5_joins 19 = .ok (.iload_n 3, 1) := by decide +kernel
theorem dX5_joins_20 : decode cX5_joins 20 = .ok (.iconst 1, 1) := by decide +kernel
theorem dX5_joins_21 : decode cX5_joins 21 = .ok (.iadd, 1) := by decide +kernel
theorem dX5_joins_22 : decode cX5_joins 22 = .ok (.iaload, 1) := by decide +kernel
theorem dX5_joins_23 : decode cX5_joins 23 = .ok (.invokevirtual 107, 3) := by decide +kernel
theorem dX5_joins_26 : decode cX5_joins 26 = .ok (.ifCond .ne 15, 3) := by decide +kernel
theorem dX5_joins_29 : decode cX5_joins 29 = .ok (.aload_n 0, 1) := by decide +kernel
theorem dX5_joins_30 : decode cX5_joins 30 = .ok (.aload_n 1, 1) := by decide +kernel
theorem dX5_joins_31 : decode cX5_joins 31 = .ok (.iload_n 3, 1) := by decide +kernel
theorem dX5_joins_32 : decode cX5_joins 32 = .ok (.iconst 1, 1) := by decide +kernel
theorem dX5_joins_33 : decode cX5_joins 33 = .ok (.iadd, 1) := by decide +kernel
theorem dX5_joins_34 : decode cX5_joins 34 = .ok (.iaload, 1) := by decide +kernel
theorem dX5_joins_35 : decode cX5_joins 35 = .ok (.invokevirtual 110, 3) := by decide +kernel
theorem dX5_joins_38 : decode cX5_joins 38 = .ok (.ifCond .eq 7, 3) := by decide +kernel
theorem dX5_joins_41 : decode cX5_joins 41 = .ok (.iconst 1, 1) := by decide +kernel
theorem dX5_joins_42 : decode cX5_joins 42 = .ok (.goto 4, 3) := by decide +kernel
theorem dX5_joins_45 : decode cX5_joins 45 = .ok (.iconst 0, 1) := by decide +kernel
theorem dX5_joins_46 : decode cX5_joins 46 = .ok (.ireturn, 1) := by decide +kernel
theorem dX5_scoreOf_0 : decode cX5_scoreOf 0 = .ok (.iconst 0, 1) := by decide +kernel
theorem dX5_scoreOf_1 : decode cX5_scoreOf 1 = .ok (.istore 4, 2) := by decide +kernel
theorem dX5_scoreOf_3 : decode cX5_scoreOf 3 = .ok (.iconst 0, 1) := by decide +kernel
theorem dX5_scoreOf_4 : decode cX5_scoreOf 4 = .ok (.istore 5, 2) := by decide +kernel
theorem dX5_scoreOf_6 : decode cX5_scoreOf 6 = .ok (.iconst 0, 1) := by decide +kernel
theorem dX5_scoreOf_7 : decode cX5_scoreOf 7 = .ok (.istore 6, 2) := by decide +kernel
theorem dX5_scoreOf_9 : decode cX5_scoreOf 9 = .ok (.iconst 0, 1) := by decide +kernel
theorem dX5_scoreOf_10 : decode cX5_scoreOf 10 = .ok (.istore 7, 2) := by decide +kernel
theorem dX5_scoreOf_12 : decode cX5_scoreOf 12 = .ok (.iload 7, 2) := by decide +kernel
theorem dX5_scoreOf_14 : decode cX5_scoreOf 14 = .ok (.iload_n 2, 1) := by decide +kernel
theorem dX5_scoreOf_15 : decode cX5_scoreOf 15 = .ok (.if_icmp .ge 161, 3) := by decide +kernel
theorem dX5_scoreOf_18 : decode cX5_scoreOf 18 = .ok (.iload_n 3, 1) := by decide +kernel
theorem dX5_scoreOf_19 : decode cX5_scoreOf 19 = .ok (.iload 7, 2) := by decide +kernel
theorem dX5_scoreOf_21 : decode cX5_scoreOf 21 = .ok (.ishr, 1) := by decide +kernel
theorem dX5_scoreOf_22 : decode cX5_scoreOf 22 = .ok (.iconst 1, 1) := by decide +kernel
theorem dX5_scoreOf_23 : decode cX5_scoreOf 23 = .ok (.iand, 1) := by decide +kernel
theorem dX5_scoreOf_24 : decode cX5_scoreOf 24 = .ok (.iconst 1, 1) := by decide +kernel
theorem dX5_scoreOf_25 : decode cX5_scoreOf 25 = .ok (.if_icmp .ne 7, 3) := by decide +kernel
theorem dX5_scoreOf_28 : decode cX5_scoreOf 28 = .ok (.iconst 1, 1) := by decide +kernel
theorem dX5_scoreOf_29 : decode cX5_scoreOf 29 = .ok (.goto 4, 3) := by decide +kernel
theorem dX5_scoreOf_32 : decode cX5_scoreOf 32 = .ok (.iconst 0, 1) := by decide +kernel
theorem dX5_scoreOf_33 : decode cX5_scoreOf 33 = .ok (.istore 8, 2) := by decide +kernel
theorem dX5_scoreOf_35 : decode cX5_scoreOf 35 = .ok (.iload_n 3, 1) := by decide +kernel
theorem dX5_scoreOf_36 : decode cX5_scoreOf 36 = .ok (.iload 7, 2) := by decide +kernel
theorem dX5_scoreOf_38 : decode cX5_scoreOf 38 = .ok (.iconst 1, 1) := by decide +kernel
theorem dX5_scoreOf_39 : decode cX5_scoreOf 39 = .ok (.iadd, 1) := by decide +kernel
theorem dX5_scoreOf_40 : decode cX5_scoreOf 40 = .ok (.ishr, 1) := by decide +kernel
theorem dX5_scoreOf_41 : decode cX5_scoreOf 41 = .ok (.iconst 1, 1) := by decide +kernel
theorem dX5_scoreOf_42 : decode cX5_scoreOf 42 = .ok (.iand, 1) := by decide +kernel
theorem dX5_scoreOf_43 : decode cX5_scoreOf 43 = .ok (.iconst 1, 1) := by decide +kernel
theorem dX5_scoreOf_44 : decode cX5_scoreOf 44 = .ok (.if_icmp .ne 7, 3) := by decide +kernel
theorem dX5_scoreOf_47 : decode cX5_scoreOf 47 = .ok (.iconst 1, 1) := by decide +kernel
theorem dX5_scoreOf_48 : decode cX5_scoreOf 48 = .ok (.goto 4, 3) := by decide +kernel
theorem dX5_scoreOf_51 : decode cX5_scoreOf 51 = .ok (.iconst 0, 1) := by decide +kernel
theorem dX5_scoreOf_52 : decode cX5_scoreOf 52 = .ok (.istore 9, 2) := by decide +kernel
theorem dX5_scoreOf_54 : decode cX5_scoreOf 54 = .ok (.iload 5, 2) := by decide +kernel
theorem dX5_scoreOf_56 : decode cX5_scoreOf 56 = .ok (.aload_n 0, 1) := by decide +kernel
theorem dX5_scoreOf_57 : decode cX5_scoreOf 57 = .ok (.aload_n 1, 1) := by decide +kernel
theorem dX5_scoreOf_58 : decode cX5_scoreOf 58 = .ok (.iload 7, 2) := by decide +kernel
theorem dX5_scoreOf_60 : decode cX5_scoreOf 60 = .ok (.iaload, 1) := by decide +kernel
theorem dX5_scoreOf_61 : decode cX5_scoreOf 61 = .ok (.invokevirtual 107, 3) := by decide +kernel
theorem dX5_scoreOf_64 : decode cX5_scoreOf 64 = .ok (.ifCond .eq 7, 3) := by decide +kernel
theorem dX5_scoreOf_67 : decode cX5_scoreOf 67 = .ok (.iconst 1, 1) := by decide +kernel
theorem dX5_scoreOf_68 : decode cX5_scoreOf 68 = .ok (.goto 4, 3) := by decide +kernel
theorem dX5_scoreOf_71 : decode cX5_scoreOf 71 = .ok (.iconst 0, 1) := by decide +kernel
theorem dX5_scoreOf_72 : decode cX5_scoreOf 72 = .ok (.iadd, 1) := by decide +kernel
theorem dX5_scoreOf_73 : decode cX5_scoreOf 73 = .ok (.istore 5, 2) := by decide +kernel
theorem dX5_scoreOf_75 : decode cX5_scoreOf 75 = .ok (.iload 6, 2) := by decide +kernel
theorem dX5_scoreOf_77 : decode cX5_scoreOf 77 = .ok (.aload_n 0, 1) := by decide +kernel
theorem dX5_scoreOf_78 : decode cX5_scoreOf 78 = .ok (.aload_n 1, 1) := by decide +kernel
theorem dX5_scoreOf_79 : decode cX5_scoreOf 79 = .ok (.iload 7, 2) := by decide +kernel
theorem dX5_scoreOf_81 : decode cX5_scoreOf 81 = .ok (.iaload, 1) := by decide +kernel
theorem dX5_scoreOf_82 : decode cX5_scoreOf 82 = .ok (.invokevirtual 110, 3) := by decide +kernel
theorem dX5_scoreOf_85 : decode cX5_scoreOf 85 = .ok (.ifCond .eq 7, 3) := by decide +kernel
theorem dX5_scoreOf_88 : decode cX5_scoreOf 88 = .ok (.iconst 1, 1) := by decide +kernel
theorem dX5_scoreOf_89 : decode cX5_scoreOf 89 = .ok (.goto 4, 3) := by decide +kernel
theorem dX5_scoreOf_92 : decode cX5_scoreOf 92 = .ok (.iconst 0, 1) := by decide +kernel
theorem dX5_scoreOf_93 : decode cX5_scoreOf 93 = .ok (.iadd, 1) := by decide +kernel
theorem dX5_scoreOf_94 : decode cX5_scoreOf 94 = .ok (.istore 6, 2) := by decide +kernel
theorem dX5_scoreOf_96 : decode cX5_scoreOf 96 = .ok (.iload 4, 2) := by decide +kernel
theorem dX5_scoreOf_98 : decode cX5_scoreOf 98 = .ok (.iload 8, 2) := by decide +kernel
theorem dX5_scoreOf_100 : decode cX5_scoreOf 100 = .ok (.ifCond .eq 8, 3) := by decide +kernel
theorem dX5_scoreOf_103 : decode cX5_scoreOf 103 = .ok (.bipush (-10), 2) := by decide +kernel
theorem dX5_scoreOf_105 : decode cX5_scoreOf 105 = .ok (.goto 16, 3) := by decide +kernel
theorem dX5_scoreOf_108 : decode cX5_scoreOf 108 = .ok (.aload_n 0, 1) := by decide +kernel
theorem dX5_scoreOf_109 : decode cX5_scoreOf 109 = .ok (.getfield 13, 3) := by decide +kernel
theorem dX5_scoreOf_112 : decode cX5_scoreOf 112 = .ok (.iconst 3, 1) := by decide +kernel
theorem dX5_scoreOf_113 : decode cX5_scoreOf 113 = .ok (.aload_n 1, 1) := by decide +kernel
theorem dX5_scoreOf_114 : decode cX5_scoreOf 114 = .ok (.iload 7, 2) := by decide +kernel
theorem dX5_scoreOf_116 : decode cX5_scoreOf 116 = .ok (.iaload, 1) := by decide +kernel
theorem dX5_scoreOf_117 : decode cX5_scoreOf 117 = .ok (.imul, 1) := by decide +kernel
theorem dX5_scoreOf_118 : decode cX5_scoreOf 118 = .ok (.iconst 1, 1) := by decide +kernel
theorem dX5_scoreOf_119 : decode cX5_scoreOf 119 = .ok (.iadd, 1) := by decide +kernel
theorem dX5_scoreOf_120 : decode cX5_scoreOf 120 = .ok (.iaload, 1) := by decide +kernel
theorem dX5_scoreOf_121 : decode cX5_scoreOf 121 = .ok (.iadd, 1) := by decide +kernel
theorem dX5_scoreOf_122 : decode cX5_scoreOf 122 = .ok (.istore 4, 2) := by decide +kernel
theorem dX5_scoreOf_124 : decode cX5_scoreOf 124 = .ok (.aload_n 0, 1) := by decide +kernel
theorem dX5_scoreOf_125 : decode cX5_scoreOf 125 = .ok (.aload_n 1, 1) := by decide +kernel
theorem dX5_scoreOf_126 : decode cX5_scoreOf 126 = .ok (.iload_n 2, 1) := by decide +kernel
theorem dX5_scoreOf_127 : decode cX5_scoreOf 127 = .ok (.iload 7, 2) := by decide +kernel
theorem dX5_scoreOf_129 : decode cX5_scoreOf 129 = .ok (.invokevirtual 113, 3) := by decide +kernel
theorem dX5_scoreOf_132 : decode cX5_scoreOf 132 = .ok (.ifCond .eq 38, 3) := by decide +kernel
theorem dX5_scoreOf_135 : decode cX5_scoreOf 135 = .ok (.iload 8, 2) := by decide +kernel
theorem dX5_scoreOf_137 : decode cX5_scoreOf 137 = .ok (.ifCond .ne 33, 3) := by decide +kernel
theorem dX5_scoreOf_140 : decode cX5_scoreOf 140 = .ok (.iload 9, 2) := by decide +kernel
theorem dX5_scoreOf_142 : decode cX5_scoreOf 142 = .ok (.ifCond .ne 28, 3) := by decide +kernel
theorem dX5_scoreOf_145 : decode cX5_scoreOf 145 = .ok (.iload 4, 2) := by decide +kernel
theorem dX5_scoreOf_147 : decode cX5_scoreOf 147 = .ok (.aload_n 0, 1) := by decide +kernel
theorem dX5_scoreOf_148 : decode cX5_scoreOf 148 = .ok (.getfield 13, 3) := by decide +kernel
theorem dX5_scoreOf_151 : decode cX5_scoreOf 151 = .ok (.iconst 3, 1) := by decide +kernel
theorem dX5_scoreOf_152 : decode cX5_scoreOf 152 = .ok (.aload_n 1, 1) := by decide +kernel
theorem dX5_scoreOf_153 : decode cX5_scoreOf 153 = .ok (.iload 7, 2) := by decide +kernel
theorem dX5_scoreOf_155 : decode cX5_scoreOf 155 = .ok (.iaload, 1) := by decide +kernel
theorem dX5_scoreOf_156 : decode cX5_scoreOf 156 = .ok (.imul, 1) := by decide +kernel
theorem dX5_scoreOf_157 : decode cX5_scoreOf 157 = .ok (.iaload, 1) := by decide +kernel
theorem dX5_scoreOf_158 : decode cX5_scoreOf 158 = .ok (.iconst 4, 1) := by decide +kernel
theorem dX5_scoreOf_159 : decode cX5_scoreOf 159 = .ok (.if_icmp .ne 7, 3) := by decide +kernel
theorem dX5_scoreOf_162 : decode cX5_scoreOf 162 = .ok (.iconst 3, 1) := by decide +kernel
theorem dX5_scoreOf_163 : decode cX5_scoreOf 163 = .ok (.goto 4, 3) := by decide +kernel
theorem dX5_scoreOf_166 : decode cX5_scoreOf 166 = .ok (.iconst 2, 1) := by decide +kernel
theorem dX5_scoreOf_167 : decode cX5_scoreOf 167 = .ok (.iadd, 1) := by decide +kernel
theorem dX5_scoreOf_168 : decode cX5_scoreOf 168 = .ok (.istore 4, 2) := by decide +kernel
theorem dX5_scoreOf_170 : decode cX5_scoreOf 170 = .ok (.iinc 7 1, 3) := by decide +kernel
theorem dX5_scoreOf_173 : decode cX5_scoreOf 173 = .ok (.goto (-161), 3) := by decide +kernel
theorem dX5_scoreOf_176 : decode cX5_scoreOf 176 = .ok (.iload 4, 2) := by decide +kernel
theorem dX5_scoreOf_178 : decode cX5_scoreOf 178 = .ok (.iload 5, 2) := by decide +kernel
theorem dX5_scoreOf_180 : decode cX5_scoreOf 180 = .ok (.ifCond .ne 7, 3) := by decide +kernel
theorem dX5_scoreOf_183 : decode cX5_scoreOf 183 = .ok (.iconst 5, 1) := by decide +kernel
theorem dX5_scoreOf_184 : decode cX5_scoreOf 184 = .ok (.goto 4, 3) := by decide +kernel
theorem dX5_scoreOf_187 : decode cX5_scoreOf 187 = .ok (.iconst 0, 1) := by decide +kernel
theorem dX5_scoreOf_188 : decode cX5_scoreOf 188 = .ok (.isub, 1) := by decide +kernel
theorem dX5_scoreOf_189 : decode cX5_scoreOf 189 = .ok (.iload 6, 2) := by decide +kernel
theorem dX5_scoreOf_191 : decode cX5_scoreOf 191 = .ok (.ifCond .ne 7, 3) := by decide +kernel
theorem dX5_scoreOf_194 : decode cX5_scoreOf 194 = .ok (.iconst 5, 1) := by decide +kernel
theorem dX5_scoreOf_195 : decode cX5_scoreOf 195 = .ok (.goto 4, 3) := by decide +kernel
theorem dX5_scoreOf_198 : decode cX5_scoreOf 198 = .ok (.iconst 0, 1) := by decide +kernel
theorem dX5_scoreOf_199 : decode cX5_scoreOf 199 = .ok (.isub, 1) := by decide +kernel
theorem dX5_scoreOf_200 : decode cX5_scoreOf 200 = .ok (.ireturn, 1) := by decide +kernel
theorem dX5_waysOf_0 : decode cX5_waysOf 0 = .ok (.iconst 1, 1) := by decide +kernel
theorem dX5_waysOf_1 : decode cX5_waysOf 1 = .ok (.istore 4, 2) := by decide +kernel
theorem dX5_waysOf_3 : decode cX5_waysOf 3 = .ok (.iconst 0, 1) := by decide +kernel
theorem dX5_waysOf_4 : decode cX5_waysOf 4 = .ok (.istore 5, 2) := by decide +kernel
theorem dX5_waysOf_6 : decode cX5_waysOf 6 = .ok (.iload 5, 2) := by decide +kernel
theorem dX5_waysOf_8 : decode cX5_waysOf 8 = .ok (.iload_n 2, 1) := by decide +kernel
theorem dX5_waysOf_9 : decode cX5_waysOf 9 = .ok (.if_icmp .ge 46, 3) := by decide +kernel
theorem dX5_waysOf_12 : decode cX5_waysOf 12 = .ok (.aload_n 0, 1) := by decide +kernel
theorem dX5_waysOf_13 : decode cX5_waysOf 13 = .ok (.aload_n 1, 1) := by decide +kernel
theorem dX5_waysOf_14 : decode cX5_waysOf 14 = .ok (.iload 5, 2) := by decide +kernel
theorem dX5_waysOf_16 : decode cX5_waysOf 16 = .ok (.iaload, 1) := by decide +kernel
theorem dX5_waysOf_17 : decode cX5_waysOf 17 = .ok (.iload 5, 2) := by decide +kernel
theorem dX5_waysOf_19 : decode cX5_waysOf 19 = .ok (.invokevirtual 85, 3) := by decide +kernel
theorem dX5_waysOf_22 : decode cX5_waysOf 22 = .ok (.istore 6, 2) := by decide +kernel
theorem dX5_waysOf_24 : decode cX5_waysOf 24 = .ok (.iload 4, 2) := by decide +kernel
theorem dX5_waysOf_26 : decode cX5_waysOf 26 = .ok (.iload_n 3, 1) := by decide +kernel
theorem dX5_waysOf_27 : decode cX5_waysOf 27 = .ok (.iload 5, 2) := by decide +kernel
theorem dX5_waysOf_29 : decode cX5_waysOf 29 = .ok (.ishr, 1) := by decide +kernel
theorem dX5_waysOf_30 : decode cX5_waysOf 30 = .ok (.iconst 1, 1) := by decide +kernel
theorem dX5_waysOf_31 : decode cX5_waysOf 31 = .ok (.iand, 1) := by decide +kernel
theorem dX5_waysOf_32 : decode cX5_waysOf 32 = .ok (.iconst 1, 1) := by decide +kernel
theorem dX5_waysOf_33 : decode cX5_waysOf 33 = .ok (.if_icmp .ne 11, 3) := by decide +kernel
theorem dX5_waysOf_36 : decode cX5_waysOf 36 = .ok (.bipush 10, 2) := by decide +kernel
theorem dX5_waysOf_38 : decode cX5_waysOf 38 = .ok (.iload 6, 2) := by decide +kernel
theorem dX5_waysOf_40 : decode cX5_waysOf 40 = .ok (.isub, 1) := by decide +kernel
theorem dX5_waysOf_41 : decode cX5_waysOf 41 = .ok (.goto 5, 3) := by decide +kernel
theorem dX5_waysOf_44 : decode cX5_waysOf 44 = .ok (.iload 6, 2) := by decide +kernel
theorem dX5_waysOf_46 : decode cX5_waysOf 46 = .ok (.imul, 1) := by decide +kernel
theorem dX5_waysOf_47 : decode cX5_waysOf 47 = .ok (.istore 4, 2) := by decide +kernel
theorem dX5_waysOf_49 : decode cX5_waysOf 49 = .ok (.iinc 5 1, 3) := by decide +kernel
theorem dX5_waysOf_52 : decode cX5_waysOf 52 = .ok (.goto (-46), 3) := by decide +kernel
theorem dX5_waysOf_55 : decode cX5_waysOf 55 = .ok (.iload 4, 2) := by decide +kernel
theorem dX5_waysOf_57 : decode cX5_waysOf 57 = .ok (.ireturn, 1) := by decide +kernel
theorem dX5_powerOf_0 : decode cX5_powerOf 0 = .ok (.iconst 1, 1) := by decide +kernel
theorem dX5_powerOf_1 : decode cX5_powerOf 1 = .ok (.istore_n 1, 1) := by decide +kernel
theorem dX5_powerOf_2 : decode cX5_powerOf 2 = .ok (.iconst 0, 1) := by decide +kernel
theorem dX5_powerOf_3 : decode cX5_powerOf 3 = .ok (.istore_n 2, 1) := by decide +kernel
theorem dX5_powerOf_4 : decode cX5_powerOf 4 = .ok (.iload_n 2, 1) := by decide +kernel
theorem dX5_powerOf_5 : decode cX5_powerOf 5 = .ok (.iload_n 0, 1) := by decide +kernel
theorem dX5_powerOf_6 : decode cX5_powerOf 6 = .ok (.if_icmp .ge 14, 3) := by decide +kernel
theorem dX5_powerOf_9 : decode cX5_powerOf 9 = .ok (.iload_n 1, 1) := by decide +kernel
theorem dX5_powerOf_10 : decode cX5_powerOf 10 = .ok (.bipush 10, 2) := by decide +kernel
theorem dX5_powerOf_12 : decode cX5_powerOf 12 = .ok (.imul, 1) := by decide +kernel
theorem dX5_powerOf_13 : decode cX5_powerOf 13 = .ok (.istore_n 1, 1) := by decide +kernel
theorem dX5_powerOf_14 : decode cX5_powerOf 14 = .ok (.iinc 2 1, 3) := by decide +kernel
theorem dX5_powerOf_17 : decode cX5_powerOf 17 = .ok (.goto (-13), 3) := by decide +kernel
theorem dX5_powerOf_20 : decode cX5_powerOf 20 = .ok (.iload_n 1, 1) := by decide +kernel
theorem dX5_powerOf_21 : decode cX5_powerOf 21 = .ok (.ireturn, 1) := by decide +kernel
theorem dX5_score_0 : decode cX5_score 0 = .ok (.iload_n 1, 1) := by decide +kernel
theorem dX5_score_1 : decode cX5_score 1 = .ok (.i2l, 1) := by decide +kernel
theorem dX5_score_2 : decode cX5_score 2 = .ok (.lconst 0, 1) := by decide +kernel
theorem dX5_score_3 : decode cX5_score 3 = .ok (.iconst 1, 1) := by decide +kernel
theorem dX5_score_4 : decode cX5_score 4 = .ok (.aload_n 0, 1) := by decide +kernel
theorem dX5_score_5 : decode cX5_score 5 = .ok (.getfield 66, 3) := by decide +kernel
theorem dX5_score_8 : decode cX5_score 8 = .ok (.ishl, 1) := by decide +kernel
theorem dX5_score_9 : decode cX5_score 9 = .ok (.iconst 1, 1) := by decide +kernel
theorem dX5_score_10 : decode cX5_score 10 = .ok (.isub, 1) := by decide +kernel
theorem dX5_score_11 : decode cX5_score 11 = .ok (.i2l, 1) := by decide +kernel
theorem dX5_score_12 : decode cX5_score 12 = .ok (.invokestatic 40, 3) := by decide +kernel
theorem dX5_score_15 : decode cX5_score 15 = .ok (.ifCond .ne 6, 3) := by decide +kernel
theorem dX5_score_18 : decode cX5_score 18 = .ok (.bipush (-102), 2) := by decide +kernel
theorem dX5_score_20 : decode cX5_score 20 = .ok (.ireturn, 1) := by decide +kernel
theorem dX5_score_21 : decode cX5_score 21 = .ok (.aload_n 0, 1) := by decide +kernel
theorem dX5_score_22 : decode cX5_score 22 = .ok (.invokevirtual 117, 3) := by decide +kernel
theorem dX5_score_25 : decode cX5_score 25 = .ok (.ifCond .eq 8, 3) := by decide +kernel
theorem dX5_score_28 : decode cX5_score 28 = .ok (.bipush (-103), 2) := by decide +kernel
theorem dX5_score_30 : decode cX5_score 30 = .ok (.goto 20, 3) := by decide +kernel
theorem dX5_score_33 : decode cX5_score 33 = .ok (.aload_n 0, 1) := by decide +kernel
theorem dX5_score_34 : decode cX5_score 34 = .ok (.aload_n 0, 1) := by decide +kernel
theorem dX5_score_35 : decode cX5_score 35 = .ok (.getfield 16, 3) := by decide +kernel
theorem dX5_score_38 : decode cX5_score 38 = .ok (.aload_n 0, 1) := by decide +kernel
theorem dX5_score_39 : decode cX5_score 39 = .ok (.getfield 66, 3) := by decide +kernel
theorem dX5_score_42 : decode cX5_score 42 = .ok (.iload_n 1, 1) := by decide +kernel
theorem dX5_score_43 : decode cX5_score 43 = .ok (.invokevirtual 121, 3) := by decide +kernel
theorem dX5_score_46 : decode cX5_score 46 = .ok (.sipush 200, 3) := by decide +kernel
theorem dX5_score_49 : decode cX5_score 49 = .ok (.iadd, 1) := by decide +kernel
theorem dX5_score_50 : decode cX5_score 50 = .ok (.ireturn, 1) := by decide +kernel
theorem dX5_meanUp_0 : decode cX5_meanUp 0 = .ok (.iconst 0, 1) := by decide +kernel
theorem dX5_meanUp_1 : decode cX5_meanUp 1 = .ok (.istore_n 3, 1) := by decide +kernel
theorem dX5_meanUp_2 : decode cX5_meanUp 2 = .ok (.iconst 0, 1) := by decide +kernel
theorem dX5_meanUp_3 : decode cX5_meanUp 3 = .ok (.istore 4, 2) := by decide +kernel
theorem dX5_meanUp_5 : decode cX5_meanUp 5 = .ok (.iload 4, 2) := by decide +kernel
theorem dX5_meanUp_7 : decode cX5_meanUp 7 = .ok (.iconst 1, 1) := by decide +kernel
theorem dX5_meanUp_8 : decode cX5_meanUp 8 = .ok (.iload_n 2, 1) := by decide +kernel
theorem dX5_meanUp_9 : decode cX5_meanUp 9 = .ok (.ishl, 1) := by decide +kernel
theorem dX5_meanUp_10 : decode cX5_meanUp 10 = .ok (.if_icmp .ge 33, 3) := by decide +kernel
theorem dX5_meanUp_13 : decode cX5_meanUp 13 = .ok (.iload_n 3, 1) := by decide +kernel
theorem dX5_meanUp_14 : decode cX5_meanUp 14 = .ok (.aload_n 0, 1) := by decide +kernel
theorem dX5_meanUp_15 : decode cX5_meanUp 15 = .ok (.aload_n 1, 1) := by decide +kernel
theorem dX5_meanUp_16 : decode cX5_meanUp 16 = .ok (.iload_n 2, 1) := by decide +kernel
theorem dX5_meanUp_17 : decode cX5_meanUp 17 = .ok (.iload 4, 2) := by decide +kernel
theorem dX5_meanUp_19 : decode cX5_meanUp 19 = .ok (.invokevirtual 125, 3) := by decide +kernel
theorem dX5_meanUp_22 : decode cX5_meanUp 22 = .ok (.aload_n 0, 1) := by decide +kernel
theorem dX5_meanUp_23 : decode cX5_meanUp 23 = .ok (.aload_n 1, 1) := by decide +kernel
theorem dX5_meanUp_24 : decode cX5_meanUp 24 = .ok (.iload_n 2, 1) := by decide +kernel
theorem dX5_meanUp_25 : decode cX5_meanUp 25 = .ok (.iload 4, 2) := by decide +kernel
theorem dX5_meanUp_27 : decode cX5_meanUp 27 = .ok (.invokevirtual 121, 3) := by decide +kernel
end
section
theorem dX5_meanUp_30 : decode cX5_meanUp 30 = .ok (.sipush 200, 3) := by decide +kernel
theorem dX5_meanUp_33 : decode cX5_meanUp 33 = .ok (.iadd, 1) := by decide +kernel
theorem dX5_meanUp_34 : decode cX5_meanUp 34 = .ok (.imul, 1) := by decide +kernel
theorem dX5_meanUp_35 : decode cX5_meanUp 35 = .ok (.iadd, 1) := by decide +kernel
theorem dX5_meanUp_36 : decode cX5_meanUp 36 = .ok (.istore_n 3, 1) := by decide +kernel
theorem dX5_meanUp_37 : decode cX5_meanUp 37 = .ok (.iinc 4 1, 3) := by decide +kernel
theorem dX5_meanUp_40 : decode cX5_meanUp 40 = .ok (.goto (-35), 3) := by decide +kernel
theorem dX5_meanUp_43 : decode cX5_meanUp 43 = .ok (.iload_n 3, 1) := by decide +kernel
theorem dX5_meanUp_44 : decode cX5_meanUp 44 = .ok (.ireturn, 1) := by decide +kernel
theorem dX5_meanOf_0 : decode cX5_meanOf 0 = .ok (.aload_n 0, 1) := by decide +kernel
theorem dX5_meanOf_1 : decode cX5_meanOf 1 = .ok (.aload_n 1, 1) := by decide +kernel
theorem dX5_meanOf_2 : decode cX5_meanOf 2 = .ok (.iload_n 2, 1) := by decide +kernel
theorem dX5_meanOf_3 : decode cX5_meanOf 3 = .ok (.invokevirtual 128, 3) := by decide +kernel
theorem dX5_meanOf_6 : decode cX5_meanOf 6 = .ok (.istore 4, 2) := by decide +kernel
theorem dX5_meanOf_8 : decode cX5_meanOf 8 = .ok (.iload_n 2, 1) := by decide +kernel
theorem dX5_meanOf_9 : decode cX5_meanOf 9 = .ok (.invokestatic 132, 3) := by decide +kernel
theorem dX5_meanOf_12 : decode cX5_meanOf 12 = .ok (.iload 4, 2) := by decide +kernel
theorem dX5_meanOf_14 : decode cX5_meanOf 14 = .ok (.invokestatic 135, 3) := by decide +kernel
theorem dX5_meanOf_17 : decode cX5_meanOf 17 = .ok (.istore 5, 2) := by decide +kernel
theorem dX5_meanOf_19 : decode cX5_meanOf 19 = .ok (.iload_n 3, 1) := by decide +kernel
theorem dX5_meanOf_20 : decode cX5_meanOf 20 = .ok (.ifCond .ne 11, 3) := by decide +kernel
theorem dX5_meanOf_23 : decode cX5_meanOf 23 = .ok (.iload 4, 2) := by decide +kernel
theorem dX5_meanOf_25 : decode cX5_meanOf 25 = .ok (.iload 5, 2) := by decide +kernel
theorem dX5_meanOf_27 : decode cX5_meanOf 27 = .ok (.idiv, 1) := by decide +kernel
theorem dX5_meanOf_28 : decode cX5_meanOf 28 = .ok (.goto 10, 3) := by decide +kernel
theorem dX5_meanOf_31 : decode cX5_meanOf 31 = .ok (.iload_n 2, 1) := by decide +kernel
theorem dX5_meanOf_32 : decode cX5_meanOf 32 = .ok (.invokestatic 132, 3) := by decide +kernel
theorem dX5_meanOf_35 : decode cX5_meanOf 35 = .ok (.iload 5, 2) := by decide +kernel
theorem dX5_meanOf_37 : decode cX5_meanOf 37 = .ok (.idiv, 1) := by decide +kernel
theorem dX5_meanOf_38 : decode cX5_meanOf 38 = .ok (.ireturn, 1) := by decide +kernel
theorem dX5_mean_0 : decode cX5_mean 0 = .ok (.iload_n 1, 1) := by decide +kernel
theorem dX5_mean_1 : decode cX5_mean 1 = .ok (.i2l, 1) := by decide +kernel
theorem dX5_mean_2 : decode cX5_mean 2 = .ok (.lconst 0, 1) := by decide +kernel
theorem dX5_mean_3 : decode cX5_mean 3 = .ok (.lconst 1, 1) := by decide +kernel
theorem dX5_mean_4 : decode cX5_mean 4 = .ok (.invokestatic 40, 3) := by decide +kernel
theorem dX5_mean_7 : decode cX5_mean 7 = .ok (.ifCond .ne 6, 3) := by decide +kernel
theorem dX5_mean_10 : decode cX5_mean 10 = .ok (.bipush (-102), 2) := by decide +kernel
theorem dX5_mean_12 : decode cX5_mean 12 = .ok (.ireturn, 1) := by decide +kernel
theorem dX5_mean_13 : decode cX5_mean 13 = .ok (.aload_n 0, 1) := by decide +kernel
theorem dX5_mean_14 : decode cX5_mean 14 = .ok (.invokevirtual 117, 3) := by decide +kernel
theorem dX5_mean_17 : decode cX5_mean 17 = .ok (.ifCond .eq 8, 3) := by decide +kernel
theorem dX5_mean_20 : decode cX5_mean 20 = .ok (.bipush (-103), 2) := by decide +kernel
theorem dX5_mean_22 : decode cX5_mean 22 = .ok (.goto 16, 3) := by decide +kernel
theorem dX5_mean_25 : decode cX5_mean 25 = .ok (.aload_n 0, 1) := by decide +kernel
theorem dX5_mean_26 : decode cX5_mean 26 = .ok (.aload_n 0, 1) := by decide +kernel
theorem dX5_mean_27 : decode cX5_mean 27 = .ok (.getfield 16, 3) := by decide +kernel
theorem dX5_mean_30 : decode cX5_mean 30 = .ok (.aload_n 0, 1) := by decide +kernel
theorem dX5_mean_31 : decode cX5_mean 31 = .ok (.getfield 66, 3) := by decide +kernel
theorem dX5_mean_34 : decode cX5_mean 34 = .ok (.iload_n 1, 1) := by decide +kernel
theorem dX5_mean_35 : decode cX5_mean 35 = .ok (.invokevirtual 138, 3) := by decide +kernel
theorem dX5_mean_38 : decode cX5_mean 38 = .ok (.ireturn, 1) := by decide +kernel
theorem dX5_oddsUp_0 : decode cX5_oddsUp 0 = .ok (.iconst 0, 1) := by decide +kernel
theorem dX5_oddsUp_1 : decode cX5_oddsUp 1 = .ok (.istore 4, 2) := by decide +kernel
theorem dX5_oddsUp_3 : decode cX5_oddsUp 3 = .ok (.iconst 0, 1) := by decide +kernel
theorem dX5_oddsUp_4 : decode cX5_oddsUp 4 = .ok (.istore 5, 2) := by decide +kernel
theorem dX5_oddsUp_6 : decode cX5_oddsUp 6 = .ok (.iload 5, 2) := by decide +kernel
theorem dX5_oddsUp_8 : decode cX5_oddsUp 8 = .ok (.iconst 1, 1) := by decide +kernel
theorem dX5_oddsUp_9 : decode cX5_oddsUp 9 = .ok (.iload_n 2, 1) := by decide +kernel
theorem dX5_oddsUp_10 : decode cX5_oddsUp 10 = .ok (.ishl, 1) := by decide +kernel
theorem dX5_oddsUp_11 : decode cX5_oddsUp 11 = .ok (.if_icmp .ge 38, 3) := by decide +kernel
theorem dX5_oddsUp_14 : decode cX5_oddsUp 14 = .ok (.iload 4, 2) := by decide +kernel
theorem dX5_oddsUp_16 : decode cX5_oddsUp 16 = .ok (.aload_n 0, 1) := by decide +kernel
theorem dX5_oddsUp_17 : decode cX5_oddsUp 17 = .ok (.aload_n 1, 1) := by decide +kernel
theorem dX5_oddsUp_18 : decode cX5_oddsUp 18 = .ok (.iload_n 2, 1) := by decide +kernel
theorem dX5_oddsUp_19 : decode cX5_oddsUp 19 = .ok (.iload 5, 2) := by decide +kernel
theorem dX5_oddsUp_21 : decode cX5_oddsUp 21 = .ok (.invokevirtual 121, 3) := by decide +kernel
theorem dX5_oddsUp_24 : decode cX5_oddsUp 24 = .ok (.iload_n 3, 1) := by decide +kernel
theorem dX5_oddsUp_25 : decode cX5_oddsUp 25 = .ok (.if_icmp .lt 14, 3) := by decide +kernel
theorem dX5_oddsUp_28 : decode cX5_oddsUp 28 = .ok (.aload_n 0, 1) := by decide +kernel
theorem dX5_oddsUp_29 : decode cX5_oddsUp 29 = .ok (.aload_n 1, 1) := by decide +kernel
theorem dX5_oddsUp_30 : decode cX5_oddsUp 30 = .ok (.iload_n 2, 1) := by decide +kernel
theorem dX5_oddsUp_31 : decode cX5_oddsUp 31 = .ok (.iload 5, 2) := by decide +kernel
theorem dX5_oddsUp_33 : decode cX5_oddsUp 33 = .ok (.invokevirtual 125, 3) := by decide +kernel
theorem dX5_oddsUp_36 : decode cX5_oddsUp 36 = .ok (.goto 4, 3) := by decide +kernel
theorem dX5_oddsUp_39 : decode cX5_oddsUp 39 = .ok (.iconst 0, 1) := by decide +kernel
theorem dX5_oddsUp_40 : decode cX5_oddsUp 40 = .ok (.iadd, 1) := by decide +kernel
theorem dX5_oddsUp_41 : decode cX5_oddsUp 41 = .ok (.istore 4, 2) := by decide +kernel
theorem dX5_oddsUp_43 : decode cX5_oddsUp 43 = .ok (.iinc 5 1, 3) := by decide +kernel
theorem dX5_oddsUp_46 : decode cX5_oddsUp 46 = .ok (.goto (-40), 3) := by decide +kernel
theorem dX5_oddsUp_49 : decode cX5_oddsUp 49 = .ok (.iload 4, 2) := by decide +kernel
theorem dX5_oddsUp_51 : decode cX5_oddsUp 51 = .ok (.ireturn, 1) := by decide +kernel
theorem dX5_oddsOf_0 : decode cX5_oddsOf 0 = .ok (.aload_n 0, 1) := by decide +kernel
theorem dX5_oddsOf_1 : decode cX5_oddsOf 1 = .ok (.aload_n 0, 1) := by decide +kernel
theorem dX5_oddsOf_2 : decode cX5_oddsOf 2 = .ok (.getfield 16, 3) := by decide +kernel
theorem dX5_oddsOf_5 : decode cX5_oddsOf 5 = .ok (.aload_n 0, 1) := by decide +kernel
theorem dX5_oddsOf_6 : decode cX5_oddsOf 6 = .ok (.getfield 66, 3) := by decide +kernel
theorem dX5_oddsOf_9 : decode cX5_oddsOf 9 = .ok (.iload_n 1, 1) := by decide +kernel
theorem dX5_oddsOf_10 : decode cX5_oddsOf 10 = .ok (.invokevirtual 141, 3) := by decide +kernel
theorem dX5_oddsOf_13 : decode cX5_oddsOf 13 = .ok (.istore_n 3, 1) := by decide +kernel
theorem dX5_oddsOf_14 : decode cX5_oddsOf 14 = .ok (.aload_n 0, 1) := by decide +kernel
theorem dX5_oddsOf_15 : decode cX5_oddsOf 15 = .ok (.getfield 66, 3) := by decide +kernel
theorem dX5_oddsOf_18 : decode cX5_oddsOf 18 = .ok (.invokestatic 132, 3) := by decide +kernel
theorem dX5_oddsOf_21 : decode cX5_oddsOf 21 = .ok (.iload_n 3, 1) := by decide +kernel
theorem dX5_oddsOf_22 : decode cX5_oddsOf 22 = .ok (.invokestatic 135, 3) := by decide +kernel
theorem dX5_oddsOf_25 : decode cX5_oddsOf 25 = .ok (.istore 4, 2) := by decide +kernel
theorem dX5_oddsOf_27 : decode cX5_oddsOf 27 = .ok (.iload_n 2, 1) := by decide +kernel
theorem dX5_oddsOf_28 : decode cX5_oddsOf 28 = .ok (.ifCond .ne 10, 3) := by decide +kernel
theorem dX5_oddsOf_31 : decode cX5_oddsOf 31 = .ok (.iload_n 3, 1) := by decide +kernel
theorem dX5_oddsOf_32 : decode cX5_oddsOf 32 = .ok (.iload 4, 2) := by decide +kernel
theorem dX5_oddsOf_34 : decode cX5_oddsOf 34 = .ok (.idiv, 1) := by decide +kernel
theorem dX5_oddsOf_35 : decode cX5_oddsOf 35 = .ok (.goto 13, 3) := by decide +kernel
theorem dX5_oddsOf_38 : decode cX5_oddsOf 38 = .ok (.aload_n 0, 1) := by decide +kernel
theorem dX5_oddsOf_39 : decode cX5_oddsOf 39 = .ok (.getfield 66, 3) := by decide +kernel
theorem dX5_oddsOf_42 : decode cX5_oddsOf 42 = .ok (.invokestatic 132, 3) := by decide +kernel
theorem dX5_oddsOf_45 : decode cX5_oddsOf 45 = .ok (.iload 4, 2) := by decide +kernel
theorem dX5_oddsOf_47 : decode cX5_oddsOf 47 = .ok (.idiv, 1) := by decide +kernel
theorem dX5_oddsOf_48 : decode cX5_oddsOf 48 = .ok (.ireturn, 1) := by decide +kernel
theorem dX5_odds_0 : decode cX5_odds 0 = .ok (.iload_n 1, 1) := by decide +kernel
theorem dX5_odds_1 : decode cX5_odds 1 = .ok (.i2l, 1) := by decide +kernel
theorem dX5_odds_2 : decode cX5_odds 2 = .ok (.ldc2_w 144, 3) := by decide +kernel
theorem dX5_odds_5 : decode cX5_odds 5 = .ok (.ldc2_w 146, 3) := by decide +kernel
theorem dX5_odds_8 : decode cX5_odds 8 = .ok (.invokestatic 40, 3) := by decide +kernel
theorem dX5_odds_11 : decode cX5_odds 11 = .ok (.ifCond .eq 13, 3) := by decide +kernel
theorem dX5_odds_14 : decode cX5_odds 14 = .ok (.iload_n 2, 1) := by decide +kernel
theorem dX5_odds_15 : decode cX5_odds 15 = .ok (.i2l, 1) := by decide +kernel
theorem dX5_odds_16 : decode cX5_odds 16 = .ok (.lconst 0, 1) := by decide +kernel
theorem dX5_odds_17 : decode cX5_odds 17 = .ok (.lconst 1, 1) := by decide +kernel
theorem dX5_odds_18 : decode cX5_odds 18 = .ok (.invokestatic 40, 3) := by decide +kernel
theorem dX5_odds_21 : decode cX5_odds 21 = .ok (.ifCond .ne 6, 3) := by decide +kernel
theorem dX5_odds_24 : decode cX5_odds 24 = .ok (.bipush (-102), 2) := by decide +kernel
theorem dX5_odds_26 : decode cX5_odds 26 = .ok (.ireturn, 1) := by decide +kernel
theorem dX5_odds_27 : decode cX5_odds 27 = .ok (.aload_n 0, 1) := by decide +kernel
theorem dX5_odds_28 : decode cX5_odds 28 = .ok (.invokevirtual 117, 3) := by decide +kernel
theorem dX5_odds_31 : decode cX5_odds 31 = .ok (.ifCond .eq 8, 3) := by decide +kernel
theorem dX5_odds_34 : decode cX5_odds 34 = .ok (.bipush (-103), 2) := by decide +kernel
theorem dX5_odds_36 : decode cX5_odds 36 = .ok (.goto 9, 3) := by decide +kernel
theorem dX5_odds_39 : decode cX5_odds 39 = .ok (.aload_n 0, 1) := by decide +kernel
theorem dX5_odds_40 : decode cX5_odds 40 = .ok (.iload_n 1, 1) := by decide +kernel
theorem dX5_odds_41 : decode cX5_odds 41 = .ok (.iload_n 2, 1) := by decide +kernel
theorem dX5_odds_42 : decode cX5_odds 42 = .ok (.invokevirtual 148, 3) := by decide +kernel
theorem dX5_odds_45 : decode cX5_odds 45 = .ok (.ireturn, 1) := by decide +kernel
theorem dX5_layRow_0 : decode cX5_layRow 0 = .ok (.iload_n 1, 1) := by decide +kernel
theorem dX5_layRow_1 : decode cX5_layRow 1 = .ok (.istore_n 3, 1) := by decide +kernel
theorem dX5_layRow_2 : decode cX5_layRow 2 = .ok (.iconst 0, 1) := by decide +kernel
theorem dX5_layRow_3 : decode cX5_layRow 3 = .ok (.istore 4, 2) := by decide +kernel
theorem dX5_layRow_5 : decode cX5_layRow 5 = .ok (.iconst 0, 1) := by decide +kernel
theorem dX5_layRow_6 : decode cX5_layRow 6 = .ok (.istore 5, 2) := by decide +kernel
theorem dX5_layRow_8 : decode cX5_layRow 8 = .ok (.iload_n 2, 1) := by decide +kernel
theorem dX5_layRow_9 : decode cX5_layRow 9 = .ok (.iconst 1, 1) := by decide +kernel
theorem dX5_layRow_10 : decode cX5_layRow 10 = .ok (.isub, 1) := by decide +kernel
theorem dX5_layRow_11 : decode cX5_layRow 11 = .ok (.istore 6, 2) := by decide +kernel
theorem dX5_layRow_13 : decode cX5_layRow 13 = .ok (.iload 6, 2) := by decide +kernel
theorem dX5_layRow_15 : decode cX5_layRow 15 = .ok (.ifCond .lt 62, 3) := by decide +kernel
theorem dX5_layRow_18 : decode cX5_layRow 18 = .ok (.aload_n 0, 1) := by decide +kernel
theorem dX5_layRow_19 : decode cX5_layRow 19 = .ok (.getfield 19, 3) := by decide +kernel
theorem dX5_layRow_22 : decode cX5_layRow 22 = .ok (.iload 6, 2) := by decide +kernel
theorem dX5_layRow_24 : decode cX5_layRow 24 = .ok (.iload_n 3, 1) := by decide +kernel
theorem dX5_layRow_25 : decode cX5_layRow 25 = .ok (.aload_n 0, 1) := by decide +kernel
theorem dX5_layRow_26 : decode cX5_layRow 26 = .ok (.getfield 63, 3) := by decide +kernel
theorem dX5_layRow_29 : decode cX5_layRow 29 = .ok (.irem, 1) := by decide +kernel
theorem dX5_layRow_30 : decode cX5_layRow 30 = .ok (.iastore, 1) := by decide +kernel
theorem dX5_layRow_31 : decode cX5_layRow 31 = .ok (.iload 5, 2) := by decide +kernel
theorem dX5_layRow_33 : decode cX5_layRow 33 = .ok (.iconst 1, 1) := by decide +kernel
theorem dX5_layRow_34 : decode cX5_layRow 34 = .ok (.iload 4, 2) := by decide +kernel
theorem dX5_layRow_36 : decode cX5_layRow 36 = .ok (.aload_n 0, 1) := by decide +kernel
theorem dX5_layRow_37 : decode cX5_layRow 37 = .ok (.getfield 19, 3) := by decide +kernel
theorem dX5_layRow_40 : decode cX5_layRow 40 = .ok (.iload 6, 2) := by decide +kernel
theorem dX5_layRow_42 : decode cX5_layRow 42 = .ok (.iaload, 1) := by decide +kernel
theorem dX5_layRow_43 : decode cX5_layRow 43 = .ok (.ishr, 1) := by decide +kernel
theorem dX5_layRow_44 : decode cX5_layRow 44 = .ok (.iconst 1, 1) := by decide +kernel
theorem dX5_layRow_45 : decode cX5_layRow 45 = .ok (.iand, 1) := by decide +kernel
theorem dX5_layRow_46 : decode cX5_layRow 46 = .ok (.isub, 1) := by decide +kernel
theorem dX5_layRow_47 : decode cX5_layRow 47 = .ok (.iadd, 1) := by decide +kernel
theorem dX5_layRow_48 : decode cX5_layRow 48 = .ok (.istore 5, 2) := by decide +kernel
theorem dX5_layRow_50 : decode cX5_layRow 50 = .ok (.iload 4, 2) := by decide +kernel
theorem dX5_layRow_52 : decode cX5_layRow 52 = .ok (.iconst 1, 1) := by decide +kernel
theorem dX5_layRow_53 : decode cX5_layRow 53 = .ok (.aload_n 0, 1) := by decide +kernel
theorem dX5_layRow_54 : decode cX5_layRow 54 = .ok (.getfield 19, 3) := by decide +kernel
theorem dX5_layRow_57 : decode cX5_layRow 57 = .ok (.iload 6, 2) := by decide +kernel
theorem dX5_layRow_59 : decode cX5_layRow 59 = .ok (.iaload, 1) := by decide +kernel
theorem dX5_layRow_60 : decode cX5_layRow 60 = .ok (.ishl, 1) := by decide +kernel
theorem dX5_layRow_61 : decode cX5_layRow 61 = .ok (.ior, 1) := by decide +kernel
theorem dX5_layRow_62 : decode cX5_layRow 62 = .ok (.istore 4, 2) := by decide +kernel
theorem dX5_layRow_64 : decode cX5_layRow 64 = .ok (.iload_n 3, 1) := by decide +kernel
theorem dX5_layRow_65 : decode cX5_layRow 65 = .ok (.aload_n 0, 1) := by decide +kernel
theorem dX5_layRow_66 : decode cX5_layRow 66 = .ok (.getfield 63, 3) := by decide +kernel
theorem dX5_layRow_69 : decode cX5_layRow 69 = .ok (.idiv, 1) := by decide +kernel
theorem dX5_layRow_70 : decode cX5_layRow 70 = .ok (.istore_n 3, 1) := by decide +kernel
theorem dX5_layRow_71 : decode cX5_layRow 71 = .ok (.iinc 6 (-1), 3) := by decide +kernel
theorem dX5_layRow_74 : decode cX5_layRow 74 = .ok (.goto (-61), 3) := by decide +kernel
theorem dX5_layRow_77 : decode cX5_layRow 77 = .ok (.iload 5, 2) := by decide +kernel
theorem dX5_layRow_79 : decode cX5_layRow 79 = .ok (.iload_n 2, 1) := by decide +kernel
theorem dX5_layRow_80 : decode cX5_layRow 80 = .ok (.if_icmp .ne 7, 3) := by decide +kernel
theorem dX5_layRow_83 : decode cX5_layRow 83 = .ok (.iconst 1, 1) := by decide +kernel
theorem dX5_layRow_84 : decode cX5_layRow 84 = .ok (.goto 4, 3) := by decide +kernel
theorem dX5_layRow_87 : decode cX5_layRow 87 = .ok (.iconst 0, 1) := by decide +kernel
theorem dX5_layRow_88 : decode cX5_layRow 88 = .ok (.ireturn, 1) := by decide +kernel
theorem dX5_bestOf_0 : decode cX5_bestOf 0 = .ok (.iconst 1, 1) := by decide +kernel
theorem dX5_bestOf_1 : decode cX5_bestOf 1 = .ok (.istore_n 3, 1) := by decide +kernel
theorem dX5_bestOf_2 : decode cX5_bestOf 2 = .ok (.iconst 0, 1) := by decide +kernel
theorem dX5_bestOf_3 : decode cX5_bestOf 3 = .ok (.istore 4, 2) := by decide +kernel
theorem dX5_bestOf_5 : decode cX5_bestOf 5 = .ok (.iload 4, 2) := by decide +kernel
theorem dX5_bestOf_7 : decode cX5_bestOf 7 = .ok (.iload_n 1, 1) := by decide +kernel
theorem dX5_bestOf_8 : decode cX5_bestOf 8 = .ok (.if_icmp .ge 16, 3) := by decide +kernel
theorem dX5_bestOf_11 : decode cX5_bestOf 11 = .ok (.iload_n 3, 1) := by decide +kernel
theorem dX5_bestOf_12 : decode cX5_bestOf 12 = .ok (.aload_n 0, 1) := by decide +kernel
theorem dX5_bestOf_13 : decode cX5_bestOf 13 = .ok (.getfield 63, 3) := by decide +kernel
theorem dX5_bestOf_16 : decode cX5_bestOf 16 = .ok (.imul, 1) := by decide +kernel
theorem dX5_bestOf_17 : decode cX5_bestOf 17 = .ok (.istore_n 3, 1) := by decide +kernel
theorem dX5_bestOf_18 : decode cX5_bestOf 18 = .ok (.iinc 4 1, 3) := by decide +kernel
theorem dX5_bestOf_21 : decode cX5_bestOf 21 = .ok (.goto (-16), 3) := by decide +kernel
theorem dX5_bestOf_24 : decode cX5_bestOf 24 = .ok (.iconst (-1), 1) := by decide +kernel
theorem dX5_bestOf_25 : decode cX5_bestOf 25 = .ok (.istore 4, 2) := by decide +kernel
theorem dX5_bestOf_27 : decode cX5_bestOf 27 = .ok (.iconst 0, 1) := by decide +kernel
theorem dX5_bestOf_28 : decode cX5_bestOf 28 = .ok (.istore 5, 2) := by decide +kernel
theorem dX5_bestOf_30 : decode cX5_bestOf 30 = .ok (.iload 5, 2) := by decide +kernel
theorem dX5_bestOf_32 : decode cX5_bestOf 32 = .ok (.iload_n 3, 1) := by decide +kernel
theorem dX5_bestOf_33 : decode cX5_bestOf 33 = .ok (.if_icmp .ge 55, 3) := by decide +kernel
theorem dX5_bestOf_36 : decode cX5_bestOf 36 = .ok (.aload_n 0, 1) := by decide +kernel
theorem dX5_bestOf_37 : decode cX5_bestOf 37 = .ok (.iload 5, 2) := by decide +kernel
theorem dX5_bestOf_39 : decode cX5_bestOf 39 = .ok (.iload_n 1, 1) := by decide +kernel
theorem dX5_bestOf_40 : decode cX5_bestOf 40 = .ok (.invokevirtual 151, 3) := by decide +kernel
theorem dX5_bestOf_43 : decode cX5_bestOf 43 = .ok (.ifCond .eq 39, 3) := by decide +kernel
theorem dX5_bestOf_46 : decode cX5_bestOf 46 = .ok (.aload_n 0, 1) := by decide +kernel
theorem dX5_bestOf_47 : decode cX5_bestOf 47 = .ok (.aload_n 0, 1) := by decide +kernel
theorem dX5_bestOf_48 : decode cX5_bestOf 48 = .ok (.getfield 19, 3) := by decide +kernel
theorem dX5_bestOf_51 : decode cX5_bestOf 51 = .ok (.iload_n 1, 1) := by decide +kernel
theorem dX5_bestOf_52 : decode cX5_bestOf 52 = .ok (.invokevirtual 128, 3) := by decide +kernel
theorem dX5_bestOf_55 : decode cX5_bestOf 55 = .ok (.iload 4, 2) := by decide +kernel
theorem dX5_bestOf_57 : decode cX5_bestOf 57 = .ok (.if_icmp .le 25, 3) := by decide +kernel
theorem dX5_bestOf_60 : decode cX5_bestOf 60 = .ok (.aload_n 0, 1) := by decide +kernel
theorem dX5_bestOf_61 : decode cX5_bestOf 61 = .ok (.aload_n 0, 1) := by decide +kernel
theorem dX5_bestOf_62 : decode cX5_bestOf 62 = .ok (.getfield 19, 3) := by decide +kernel
theorem dX5_bestOf_65 : decode cX5_bestOf 65 = .ok (.iload_n 1, 1) := by decide +kernel
theorem dX5_bestOf_66 : decode cX5_bestOf 66 = .ok (.invokevirtual 128, 3) := by decide +kernel
theorem dX5_bestOf_69 : decode cX5_bestOf 69 = .ok (.istore 4, 2) := by decide +kernel
theorem dX5_bestOf_71 : decode cX5_bestOf 71 = .ok (.aload_n 0, 1) := by decide +kernel
theorem dX5_bestOf_72 : decode cX5_bestOf 72 = .ok (.getfield 19, 3) := by decide +kernel
theorem dX5_bestOf_75 : decode cX5_bestOf 75 = .ok (.aload_n 0, 1) := by decide +kernel
theorem dX5_bestOf_76 : decode cX5_bestOf 76 = .ok (.getfield 22, 3) := by decide +kernel
theorem dX5_bestOf_79 : decode cX5_bestOf 79 = .ok (.invokestatic 154, 3) := by decide +kernel
theorem dX5_bestOf_82 : decode cX5_bestOf 82 = .ok (.iinc 5 1, 3) := by decide +kernel
theorem dX5_bestOf_85 : decode cX5_bestOf 85 = .ok (.goto (-55), 3) := by decide +kernel
theorem dX5_bestOf_88 : decode cX5_bestOf 88 = .ok (.iload 4, 2) := by decide +kernel
theorem dX5_bestOf_90 : decode cX5_bestOf 90 = .ok (.iconst (-1), 1) := by decide +kernel
theorem dX5_bestOf_91 : decode cX5_bestOf 91 = .ok (.if_icmp .ne 5, 3) := by decide +kernel
theorem dX5_bestOf_94 : decode cX5_bestOf 94 = .ok (.iconst (-1), 1) := by decide +kernel
theorem dX5_bestOf_95 : decode cX5_bestOf 95 = .ok (.ireturn, 1) := by decide +kernel
theorem dX5_bestOf_96 : decode cX5_bestOf 96 = .ok (.iload_n 2, 1) := by decide +kernel
theorem dX5_bestOf_97 : decode cX5_bestOf 97 = .ok (.iconst 2, 1) := by decide +kernel
theorem dX5_bestOf_98 : decode cX5_bestOf 98 = .ok (.if_icmp .ge 16, 3) := by decide +kernel
theorem dX5_bestOf_101 : decode cX5_bestOf 101 = .ok (.aload_n 0, 1) := by decide +kernel
theorem dX5_bestOf_102 : decode cX5_bestOf 102 = .ok (.aload_n 0, 1) := by decide +kernel
theorem dX5_bestOf_103 : decode cX5_bestOf 103 = .ok (.getfield 22, 3) := by decide +kernel
theorem dX5_bestOf_106 : decode cX5_bestOf 106 = .ok (.iload_n 1, 1) := by decide +kernel
theorem dX5_bestOf_107 : decode cX5_bestOf 107 = .ok (.iload_n 2, 1) := by decide +kernel
theorem dX5_bestOf_108 : decode cX5_bestOf 108 = .ok (.invokevirtual 138, 3) := by decide +kernel
theorem dX5_bestOf_111 : decode cX5_bestOf 111 = .ok (.goto 24, 3) := by decide +kernel
theorem dX5_bestOf_114 : decode cX5_bestOf 114 = .ok (.iload_n 2, 1) := by decide +kernel
theorem dX5_bestOf_115 : decode cX5_bestOf 115 = .ok (.bipush 10, 2) := by decide +kernel
theorem dX5_bestOf_117 : decode cX5_bestOf 117 = .ok (.isub, 1) := by decide +kernel
theorem dX5_bestOf_118 : decode cX5_bestOf 118 = .ok (.iload_n 1, 1) := by decide +kernel
theorem dX5_bestOf_119 : decode cX5_bestOf 119 = .ok (.if_icmp .ge 15, 3) := by decide +kernel
theorem dX5_bestOf_122 : decode cX5_bestOf 122 = .ok (.aload_n 0, 1) := by decide +kernel
theorem dX5_bestOf_123 : decode cX5_bestOf 123 = .ok (.getfield 22, 3) := by decide +kernel
theorem dX5_bestOf_126 : decode cX5_bestOf 126 = .ok (.iload_n 2, 1) := by decide +kernel
theorem dX5_bestOf_127 : decode cX5_bestOf 127 = .ok (.bipush 10, 2) := by decide +kernel
theorem dX5_bestOf_129 : decode cX5_bestOf 129 = .ok (.isub, 1) := by decide +kernel
theorem dX5_bestOf_130 : decode cX5_bestOf 130 = .ok (.iaload, 1) := by decide +kernel
theorem dX5_bestOf_131 : decode cX5_bestOf 131 = .ok (.goto 4, 3) := by decide +kernel
theorem dX5_bestOf_134 : decode cX5_bestOf 134 = .ok (.iconst (-1), 1) := by decide +kernel
theorem dX5_bestOf_135 : decode cX5_bestOf 135 = .ok (.ireturn, 1) := by decide +kernel
theorem dX5_best_0 : decode cX5_best 0 = .ok (.iload_n 1, 1) := by decide +kernel
theorem dX5_best_1 : decode cX5_best 1 = .ok (.i2l, 1) := by decide +kernel
theorem dX5_best_2 : decode cX5_best 2 = .ok (.lconst 1, 1) := by decide +kernel
theorem dX5_best_3 : decode cX5_best 3 = .ok (.ldc2_w 158, 3) := by decide +kernel
theorem dX5_best_6 : decode cX5_best 6 = .ok (.invokestatic 40, 3) := by decide +kernel
theorem dX5_best_9 : decode cX5_best 9 = .ok (.ifCond .eq 27, 3) := by decide +kernel
theorem dX5_best_12 : decode cX5_best 12 = .ok (.iload_n 2, 1) := by decide +kernel
theorem dX5_best_13 : decode cX5_best 13 = .ok (.i2l, 1) := by decide +kernel
theorem dX5_best_14 : decode cX5_best 14 = .ok (.lconst 0, 1) := by decide +kernel
theorem dX5_best_15 : decode cX5_best 15 = .ok (.lconst 1, 1) := by decide +kernel
theorem dX5_best_16 : decode cX5_best 16 = .ok (.invokestatic 40, 3) := by decide +kernel
theorem dX5_best_19 : decode cX5_best 19 = .ok (.ifCond .ne 20, 3) := by decide +kernel
theorem dX5_best_22 : decode cX5_best 22 = .ok (.iload_n 2, 1) := by decide +kernel
theorem dX5_best_23 : decode cX5_best 23 = .ok (.i2l, 1) := by decide +kernel
theorem dX5_best_24 : decode cX5_best 24 = .ok (.ldc2_w 160, 3) := by decide +kernel
theorem dX5_best_27 : decode cX5_best 27 = .ok (.ldc2_w 162, 3) := by decide +kernel
theorem dX5_best_30 : decode cX5_best 30 = .ok (.invokestatic 40, 3) := by decide +kernel
theorem dX5_best_33 : decode cX5_best 33 = .ok (.ifCond .ne 6, 3) := by decide +kernel
theorem dX5_best_36 : decode cX5_best 36 = .ok (.bipush (-102), 2) := by decide +kernel
theorem dX5_best_38 : decode cX5_best 38 = .ok (.ireturn, 1) := by decide +kernel
theorem dX5_best_39 : decode cX5_best 39 = .ok (.aload_n 0, 1) := by decide +kernel
theorem dX5_best_40 : decode cX5_best 40 = .ok (.invokevirtual 117, 3) := by decide +kernel
theorem dX5_best_43 : decode cX5_best 43 = .ok (.ifCond .ne 12, 3) := by decide +kernel
theorem dX5_best_46 : decode cX5_best 46 = .ok (.aload_n 0, 1) := by decide +kernel
theorem dX5_best_47 : decode cX5_best 47 = .ok (.getfield 164, 3) := by decide +kernel
theorem dX5_best_50 : decode cX5_best 50 = .ok (.bipush 30, 2) := by decide +kernel
theorem dX5_best_52 : decode cX5_best 52 = .ok (.if_icmp .ne 6, 3) := by decide +kernel
theorem dX5_best_55 : decode cX5_best 55 = .ok (.bipush (-103), 2) := by decide +kernel
theorem dX5_best_57 : decode cX5_best 57 = .ok (.ireturn, 1) := by decide +kernel
theorem dX5_best_58 : decode cX5_best 58 = .ok (.aload_n 0, 1) := by decide +kernel
theorem dX5_best_59 : decode cX5_best 59 = .ok (.dup, 1) := by decide +kernel
theorem dX5_best_60 : decode cX5_best 60 = .ok (.getfield 164, 3) := by decide +kernel
theorem dX5_best_63 : decode cX5_best 63 = .ok (.iconst 1, 1) := by decide +kernel
theorem dX5_best_64 : decode cX5_best 64 = .ok (.iadd, 1) := by decide +kernel
theorem dX5_best_65 : decode cX5_best 65 = .ok (.putfield 164, 3) := by decide +kernel
theorem dX5_best_68 : decode cX5_best 68 = .ok (.aload_n 0, 1) := by decide +kernel
theorem dX5_best_69 : decode cX5_best 69 = .ok (.iload_n 1, 1) := by decide +kernel
theorem dX5_best_70 : decode cX5_best 70 = .ok (.iload_n 2, 1) := by decide +kernel
theorem dX5_best_71 : decode cX5_best 71 = .ok (.invokevirtual 167, 3) := by decide +kernel
theorem dX5_best_74 : decode cX5_best 74 = .ok (.ireturn, 1) := by decide +kernel
theorem dX5_moreOf_0 : decode cX5_moreOf 0 = .ok (.iconst (-1), 1) := by decide +kernel
theorem dX5_moreOf_1 : decode cX5_moreOf 1 = .ok (.istore_n 2, 1) := by decide +kernel
theorem dX5_moreOf_2 : decode cX5_moreOf 2 = .ok (.bipush 10, 2) := by decide +kernel
theorem dX5_moreOf_4 : decode cX5_moreOf 4 = .ok (.aload_n 0, 1) := by decide +kernel
theorem dX5_moreOf_5 : decode cX5_moreOf 5 = .ok (.aload_n 0, 1) := by decide +kernel
theorem dX5_moreOf_6 : decode cX5_moreOf 6 = .ok (.getfield 16, 3) := by decide +kernel
theorem dX5_moreOf_9 : decode cX5_moreOf 9 = .ok (.aload_n 0, 1) := by decide +kernel
theorem dX5_moreOf_10 : decode cX5_moreOf 10 = .ok (.getfield 66, 3) := by decide +kernel
theorem dX5_moreOf_13 : decode cX5_moreOf 13 = .ok (.iload_n 1, 1) := by decide +kernel
theorem dX5_moreOf_14 : decode cX5_moreOf 14 = .ok (.invokevirtual 141, 3) := by decide +kernel
theorem dX5_moreOf_17 : decode cX5_moreOf 17 = .ok (.imul, 1) := by decide +kernel
theorem dX5_moreOf_18 : decode cX5_moreOf 18 = .ok (.istore_n 3, 1) := by decide +kernel
theorem dX5_moreOf_19 : decode cX5_moreOf 19 = .ok (.iconst 0, 1) := by decide +kernel
theorem dX5_moreOf_20 : decode cX5_moreOf 20 = .ok (.istore 4, 2) := by decide +kernel
theorem dX5_moreOf_22 : decode cX5_moreOf 22 = .ok (.iload 4, 2) := by decide +kernel
theorem dX5_moreOf_24 : decode cX5_moreOf 24 = .ok (.aload_n 0, 1) := by decide +kernel
theorem dX5_moreOf_25 : decode cX5_moreOf 25 = .ok (.getfield 63, 3) := by decide +kernel
theorem dX5_moreOf_28 : decode cX5_moreOf 28 = .ok (.if_icmp .ge 84, 3) := by decide +kernel
theorem dX5_moreOf_31 : decode cX5_moreOf 31 = .ok (.aload_n 0, 1) := by decide +kernel
theorem dX5_moreOf_32 : decode cX5_moreOf 32 = .ok (.iload 4, 2) := by decide +kernel
theorem dX5_moreOf_34 : decode cX5_moreOf 34 = .ok (.invokevirtual 82, 3) := by decide +kernel
theorem dX5_moreOf_37 : decode cX5_moreOf 37 = .ok (.iconst (-1), 1) := by decide +kernel
theorem dX5_moreOf_38 : decode cX5_moreOf 38 = .ok (.if_icmp .ne 68, 3) := by decide +kernel
theorem dX5_moreOf_41 : decode cX5_moreOf 41 = .ok (.aload_n 0, 1) := by decide +kernel
theorem dX5_moreOf_42 : decode cX5_moreOf 42 = .ok (.getfield 16, 3) := by decide +kernel
theorem dX5_moreOf_45 : decode cX5_moreOf 45 = .ok (.aload_n 0, 1) := by decide +kernel
theorem dX5_moreOf_46 : decode cX5_moreOf 46 = .ok (.getfield 19, 3) := by decide +kernel
theorem dX5_moreOf_49 : decode cX5_moreOf 49 = .ok (.invokestatic 154, 3) := by decide +kernel
theorem dX5_moreOf_52 : decode cX5_moreOf 52 = .ok (.aload_n 0, 1) := by decide +kernel
theorem dX5_moreOf_53 : decode cX5_moreOf 53 = .ok (.getfield 19, 3) := by decide +kernel
theorem dX5_moreOf_56 : decode cX5_moreOf 56 = .ok (.aload_n 0, 1) := by decide +kernel
theorem dX5_moreOf_57 : decode cX5_moreOf 57 = .ok (.getfield 66, 3) := by decide +kernel
theorem dX5_moreOf_60 : decode cX5_moreOf 60 = .ok (.iload 4, 2) := by decide +kernel
theorem dX5_moreOf_62 : decode cX5_moreOf 62 = .ok (.iastore, 1) := by decide +kernel
theorem dX5_moreOf_63 : decode cX5_moreOf 63 = .ok (.aload_n 0, 1) := by decide +kernel
theorem dX5_moreOf_64 : decode cX5_moreOf 64 = .ok (.aload_n 0, 1) := by decide +kernel
theorem dX5_moreOf_65 : decode cX5_moreOf 65 = .ok (.getfield 19, 3) := by decide +kernel
theorem dX5_moreOf_68 : decode cX5_moreOf 68 = .ok (.aload_n 0, 1) := by decide +kernel
theorem dX5_moreOf_69 : decode cX5_moreOf 69 = .ok (.getfield 66, 3) := by decide +kernel
theorem dX5_moreOf_72 : decode cX5_moreOf 72 = .ok (.iconst 1, 1) := by decide +kernel
theorem dX5_moreOf_73 : decode cX5_moreOf 73 = .ok (.iadd, 1) := by decide +kernel
theorem dX5_moreOf_74 : decode cX5_moreOf 74 = .ok (.iload_n 1, 1) := by decide +kernel
theorem dX5_moreOf_75 : decode cX5_moreOf 75 = .ok (.invokevirtual 141, 3) := by decide +kernel
theorem dX5_moreOf_78 : decode cX5_moreOf 78 = .ok (.istore 5, 2) := by decide +kernel
theorem dX5_moreOf_80 : decode cX5_moreOf 80 = .ok (.iload 5, 2) := by decide +kernel
theorem dX5_moreOf_82 : decode cX5_moreOf 82 = .ok (.iload_n 3, 1) := by decide +kernel
theorem dX5_moreOf_83 : decode cX5_moreOf 83 = .ok (.if_icmp .le 8, 3) := by decide +kernel
theorem dX5_moreOf_86 : decode cX5_moreOf 86 = .ok (.iload 4, 2) := by decide +kernel
theorem dX5_moreOf_88 : decode cX5_moreOf 88 = .ok (.goto 4, 3) := by decide +kernel
theorem dX5_moreOf_91 : decode cX5_moreOf 91 = .ok (.iload_n 2, 1) := by decide +kernel
theorem dX5_moreOf_92 : decode cX5_moreOf 92 = .ok (.istore_n 2, 1) := by decide +kernel
theorem dX5_moreOf_93 : decode cX5_moreOf 93 = .ok (.iload 5, 2) := by decide +kernel
theorem dX5_moreOf_95 : decode cX5_moreOf 95 = .ok (.iload_n 3, 1) := by decide +kernel
theorem dX5_moreOf_96 : decode cX5_moreOf 96 = .ok (.if_icmp .le 8, 3) := by decide +kernel
theorem dX5_moreOf_99 : decode cX5_moreOf 99 = .ok (.iload 5, 2) := by decide +kernel
theorem dX5_moreOf_101 : decode cX5_moreOf 101 = .ok (.goto 4, 3) := by decide +kernel
theorem dX5_moreOf_104 : decode cX5_moreOf 104 = .ok (.iload_n 3, 1) := by decide +kernel
theorem dX5_moreOf_105 : decode cX5_moreOf 105 = .ok (.istore_n 3, 1) := by decide +kernel
theorem dX5_moreOf_106 : decode cX5_moreOf 106 = .ok (.iinc 4 1, 3) := by decide +kernel
theorem dX5_moreOf_109 : decode cX5_moreOf 109 = .ok (.goto (-87), 3) := by decide +kernel
theorem dX5_moreOf_112 : decode cX5_moreOf 112 = .ok (.iload_n 2, 1) := by decide +kernel
theorem dX5_moreOf_113 : decode cX5_moreOf 113 = .ok (.ireturn, 1) := by decide +kernel
theorem dX5_more_0 : decode cX5_more 0 = .ok (.iload_n 1, 1) := by decide +kernel
theorem dX5_more_1 : decode cX5_more 1 = .ok (.i2l, 1) := by decide +kernel
theorem dX5_more_2 : decode cX5_more 2 = .ok (.ldc2_w 144, 3) := by decide +kernel
theorem dX5_more_5 : decode cX5_more 5 = .ok (.ldc2_w 146, 3) := by decide +kernel
theorem dX5_more_8 : decode cX5_more 8 = .ok (.invokestatic 40, 3) := by decide +kernel
theorem dX5_more_11 : decode cX5_more 11 = .ok (.ifCond .ne 6, 3) := by decide +kernel
theorem dX5_more_14 : decode cX5_more 14 = .ok (.bipush (-102), 2) := by decide +kernel
theorem dX5_more_16 : decode cX5_more 16 = .ok (.ireturn, 1) := by decide +kernel
theorem dX5_more_17 : decode cX5_more 17 = .ok (.aload_n 0, 1) := by decide +kernel
theorem dX5_more_18 : decode cX5_more 18 = .ok (.invokevirtual 117, 3) := by decide +kernel
theorem dX5_more_21 : decode cX5_more 21 = .ok (.ifCond .ne 11, 3) := by decide +kernel
theorem dX5_more_24 : decode cX5_more 24 = .ok (.aload_n 0, 1) := by decide +kernel
theorem dX5_more_25 : decode cX5_more 25 = .ok (.getfield 66, 3) := by decide +kernel
theorem dX5_more_28 : decode cX5_more 28 = .ok (.iconst 5, 1) := by decide +kernel
theorem dX5_more_29 : decode cX5_more 29 = .ok (.if_icmp .ne 8, 3) := by decide +kernel
theorem dX5_more_32 : decode cX5_more 32 = .ok (.bipush (-103), 2) := by decide +kernel
theorem dX5_more_34 : decode cX5_more 34 = .ok (.goto 8, 3) := by decide +kernel
theorem dX5_more_37 : decode cX5_more 37 = .ok (.aload_n 0, 1) := by decide +kernel
theorem dX5_more_38 : decode cX5_more 38 = .ok (.iload_n 1, 1) := by decide +kernel
theorem dX5_more_39 : decode cX5_more 39 = .ok (.invokevirtual 170, 3) := by decide +kernel
theorem dX5_more_42 : decode cX5_more 42 = .ok (.ireturn, 1) := by decide +kernel
theorem dX5_tryIt_0 : decode cX5_tryIt 0 = .ok (.aload_n 0, 1) := by decide +kernel
theorem dX5_tryIt_1 : decode cX5_tryIt 1 = .ok (.iload_n 1, 1) := by decide +kernel
theorem dX5_tryIt_2 : decode cX5_tryIt 2 = .ok (.invokevirtual 95, 3) := by decide +kernel
theorem dX5_tryIt_5 : decode cX5_tryIt 5 = .ok (.ifCond .ne 6, 3) := by decide +kernel
theorem dX5_tryIt_8 : decode cX5_tryIt 8 = .ok (.bipush (-101), 2) := by decide +kernel
theorem dX5_tryIt_10 : decode cX5_tryIt 10 = .ok (.ireturn, 1) := by decide +kernel
theorem dX5_tryIt_11 : decode cX5_tryIt 11 = .ok (.iload_n 2, 1) := by decide +kernel
theorem dX5_tryIt_12 : decode cX5_tryIt 12 = .ok (.i2l, 1) := by decide +kernel
theorem dX5_tryIt_13 : decode cX5_tryIt 13 = .ok (.lconst 0, 1) := by decide +kernel
theorem dX5_tryIt_14 : decode cX5_tryIt 14 = .ok (.ldc2_w 102, 3) := by decide +kernel
theorem dX5_tryIt_17 : decode cX5_tryIt 17 = .ok (.invokestatic 40, 3) := by decide +kernel
theorem dX5_tryIt_20 : decode cX5_tryIt 20 = .ok (.ifCond .ne 6, 3) := by decide +kernel
theorem dX5_tryIt_23 : decode cX5_tryIt 23 = .ok (.bipush (-102), 2) := by decide +kernel
theorem dX5_tryIt_25 : decode cX5_tryIt 25 = .ok (.ireturn, 1) := by decide +kernel
theorem dX5_tryIt_26 : decode cX5_tryIt 26 = .ok (.aload_n 0, 1) := by decide +kernel
theorem dX5_tryIt_27 : decode cX5_tryIt 27 = .ok (.getfield 72, 3) := by decide +kernel
theorem dX5_tryIt_30 : decode cX5_tryIt 30 = .ok (.bipush 8, 2) := by decide +kernel
theorem dX5_tryIt_32 : decode cX5_tryIt 32 = .ok (.if_icmp .ne 6, 3) := by decide +kernel
theorem dX5_tryIt_35 : decode cX5_tryIt 35 = .ok (.bipush (-104), 2) := by decide +kernel
theorem dX5_tryIt_37 : decode cX5_tryIt 37 = .ok (.ireturn, 1) := by decide +kernel
theorem dX5_tryIt_38 : decode cX5_tryIt 38 = .ok (.aload_n 0, 1) := by decide +kernel
theorem dX5_tryIt_39 : decode cX5_tryIt 39 = .ok (.getfield 25, 3) := by decide +kernel
theorem dX5_tryIt_42 : decode cX5_tryIt 42 = .ok (.iconst 3, 1) := by decide +kernel
theorem dX5_tryIt_43 : decode cX5_tryIt 43 = .ok (.aload_n 0, 1) := by decide +kernel
theorem dX5_tryIt_44 : decode cX5_tryIt 44 = .ok (.getfield 72, 3) := by decide +kernel
theorem dX5_tryIt_47 : decode cX5_tryIt 47 = .ok (.imul, 1) := by decide +kernel
theorem dX5_tryIt_48 : decode cX5_tryIt 48 = .ok (.iload_n 1, 1) := by decide +kernel
theorem dX5_tryIt_49 : decode cX5_tryIt 49 = .ok (.iastore, 1) := by decide +kernel
theorem dX5_tryIt_50 : decode cX5_tryIt 50 = .ok (.aload_n 0, 1) := by decide +kernel
theorem dX5_tryIt_51 : decode cX5_tryIt 51 = .ok (.getfield 25, 3) := by decide +kernel
theorem dX5_tryIt_54 : decode cX5_tryIt 54 = .ok (.iconst 3, 1) := by decide +kernel
theorem dX5_tryIt_55 : decode cX5_tryIt 55 = .ok (.aload_n 0, 1) := by decide +kernel
theorem dX5_tryIt_56 : decode cX5_tryIt 56 = .ok (.getfield 72, 3) := by decide +kernel
theorem dX5_tryIt_59 : decode cX5_tryIt 59 = .ok (.imul, 1) := by decide +kernel
theorem dX5_tryIt_60 : decode cX5_tryIt 60 = .ok (.iconst 1, 1) := by decide +kernel
theorem dX5_tryIt_61 : decode cX5_tryIt 61 = .ok (.iadd, 1) := by decide +kernel
theorem dX5_tryIt_62 : decode cX5_tryIt 62 = .ok (.iload_n 2, 1) := by decide +kernel
theorem dX5_tryIt_63 : decode cX5_tryIt 63 = .ok (.iastore, 1) := by decide +kernel
theorem dX5_tryIt_64 : decode cX5_tryIt 64 = .ok (.aload_n 0, 1) := by decide +kernel
theorem dX5_tryIt_65 : decode cX5_tryIt 65 = .ok (.getfield 25, 3) := by decide +kernel
theorem dX5_tryIt_68 : decode cX5_tryIt 68 = .ok (.iconst 3, 1) := by decide +kernel
theorem dX5_tryIt_69 : decode cX5_tryIt 69 = .ok (.aload_n 0, 1) := by decide +kernel
theorem dX5_tryIt_70 : decode cX5_tryIt 70 = .ok (.getfield 72, 3) := by decide +kernel
theorem dX5_tryIt_73 : decode cX5_tryIt 73 = .ok (.imul, 1) := by decide +kernel
theorem dX5_tryIt_74 : decode cX5_tryIt 74 = .ok (.iconst 2, 1) := by decide +kernel
theorem dX5_tryIt_75 : decode cX5_tryIt 75 = .ok (.iadd, 1) := by decide +kernel
theorem dX5_tryIt_76 : decode cX5_tryIt 76 = .ok (.iload_n 3, 1) := by decide +kernel
theorem dX5_tryIt_77 : decode cX5_tryIt 77 = .ok (.ifCond .eq 7, 3) := by decide +kernel
theorem dX5_tryIt_80 : decode cX5_tryIt 80 = .ok (.iconst 1, 1) := by decide +kernel
theorem dX5_tryIt_81 : decode cX5_tryIt 81 = .ok (.goto 4, 3) := by decide +kernel
theorem dX5_tryIt_84 : decode cX5_tryIt 84 = .ok (.iconst 0, 1) := by decide +kernel
theorem dX5_tryIt_85 : decode cX5_tryIt 85 = .ok (.iastore, 1) := by decide +kernel
theorem dX5_tryIt_86 : decode cX5_tryIt 86 = .ok (.aload_n 0, 1) := by decide +kernel
theorem dX5_tryIt_87 : decode cX5_tryIt 87 = .ok (.dup, 1) := by decide +kernel
theorem dX5_tryIt_88 : decode cX5_tryIt 88 = .ok (.getfield 72, 3) := by decide +kernel
theorem dX5_tryIt_91 : decode cX5_tryIt 91 = .ok (.iconst 1, 1) := by decide +kernel
theorem dX5_tryIt_92 : decode cX5_tryIt 92 = .ok (.iadd, 1) := by decide +kernel
theorem dX5_tryIt_93 : decode cX5_tryIt 93 = .ok (.putfield 72, 3) := by decide +kernel
theorem dX5_tryIt_96 : decode cX5_tryIt 96 = .ok (.aload_n 0, 1) := by decide +kernel
theorem dX5_tryIt_97 : decode cX5_tryIt 97 = .ok (.getfield 72, 3) := by decide +kernel
theorem dX5_tryIt_100 : decode cX5_tryIt 100 = .ok (.ireturn, 1) := by decide +kernel
theorem dX5_forget_0 : decode cX5_forget 0 = .ok (.aload_n 0, 1) := by decide +kernel
theorem dX5_forget_1 : decode cX5_forget 1 = .ok (.getfield 72, 3) := by decide +kernel
theorem dX5_forget_4 : decode cX5_forget 4 = .ok (.istore_n 1, 1) := by decide +kernel
theorem dX5_forget_5 : decode cX5_forget 5 = .ok (.aload_n 0, 1) := by decide +kernel
theorem dX5_forget_6 : decode cX5_forget 6 = .ok (.iconst 0, 1) := by decide +kernel
theorem dX5_forget_7 : decode cX5_forget 7 = .ok (.putfield 72, 3) := by decide +kernel
theorem dX5_forget_10 : decode cX5_forget 10 = .ok (.iload_n 1, 1) := by decide +kernel
theorem dX5_forget_11 : decode cX5_forget 11 = .ok (.ireturn, 1) := by decide +kernel
theorem dX5_triedWays_0 : decode cX5_triedWays 0 = .ok (.lconst 1, 1) := by decide +kernel
theorem dX5_triedWays_1 : decode cX5_triedWays 1 = .ok (.lstore_n 3, 1) := by decide +kernel
theorem dX5_triedWays_2 : decode cX5_triedWays 2 = .ok (.iconst 0, 1) := by decide +kernel
theorem dX5_triedWays_3 : decode cX5_triedWays 3 = .ok (.istore 5, 2) := by decide +kernel
theorem dX5_triedWays_5 : decode cX5_triedWays 5 = .ok (.iload 5, 2) := by decide +kernel
theorem dX5_triedWays_7 : decode cX5_triedWays 7 = .ok (.aload_n 0, 1) := by decide +kernel
theorem dX5_triedWays_8 : decode cX5_triedWays 8 = .ok (.getfield 72, 3) := by decide +kernel
theorem dX5_triedWays_11 : decode cX5_triedWays 11 = .ok (.if_icmp .ge 81, 3) := by decide +kernel
theorem dX5_triedWays_14 : decode cX5_triedWays 14 = .ok (.aload_n 0, 1) := by decide +kernel
theorem dX5_triedWays_15 : decode cX5_triedWays 15 = .ok (.getfield 13, 3) := by decide +kernel
theorem dX5_triedWays_18 : decode cX5_triedWays 18 = .ok (.iconst 3, 1) := by decide +kernel
theorem dX5_triedWays_19 : decode cX5_triedWays 19 = .ok (.iload_n 1, 1) := by decide +kernel
theorem dX5_triedWays_20 : decode cX5_triedWays 20 = .ok (.imul, 1) := by decide +kernel
theorem dX5_triedWays_21 : decode cX5_triedWays 21 = .ok (.iaload, 1) := by decide +kernel
theorem dX5_triedWays_22 : decode cX5_triedWays 22 = .ok (.iload_n 2, 1) := by decide +kernel
theorem dX5_triedWays_23 : decode cX5_triedWays 23 = .ok (.aload_n 0, 1) := by decide +kernel
theorem dX5_triedWays_24 : decode cX5_triedWays 24 = .ok (.getfield 25, 3) := by decide +kernel
theorem dX5_triedWays_27 : decode cX5_triedWays 27 = .ok (.iconst 3, 1) := by decide +kernel
theorem dX5_triedWays_28 : decode cX5_triedWays 28 = .ok (.iload 5, 2) := by decide +kernel
theorem dX5_triedWays_30 : decode cX5_triedWays 30 = .ok (.imul, 1) := by decide +kernel
theorem dX5_triedWays_31 : decode cX5_triedWays 31 = .ok (.iconst 1, 1) := by decide +kernel
theorem dX5_triedWays_32 : decode cX5_triedWays 32 = .ok (.iadd, 1) := by decide +kernel
theorem dX5_triedWays_33 : decode cX5_triedWays 33 = .ok (.iaload, 1) := by decide +kernel
theorem dX5_triedWays_34 : decode cX5_triedWays 34 = .ok (.invokestatic 78, 3) := by decide +kernel
theorem dX5_triedWays_37 : decode cX5_triedWays 37 = .ok (.istore 6, 2) := by decide +kernel
theorem dX5_triedWays_39 : decode cX5_triedWays 39 = .ok (.lload_n 3, 1) := by decide +kernel
theorem dX5_triedWays_40 : decode cX5_triedWays 40 = .ok (.aload_n 0, 1) := by decide +kernel
theorem dX5_triedWays_41 : decode cX5_triedWays 41 = .ok (.getfield 25, 3) := by decide +kernel
theorem dX5_triedWays_44 : decode cX5_triedWays 44 = .ok (.iconst 3, 1) := by decide +kernel
theorem dX5_triedWays_45 : decode cX5_triedWays 45 = .ok (.iload 5, 2) := by decide +kernel
theorem dX5_triedWays_47 : decode cX5_triedWays 47 = .ok (.imul, 1) := by decide +kernel
theorem dX5_triedWays_48 : decode cX5_triedWays 48 = .ok (.iaload, 1) := by decide +kernel
theorem dX5_triedWays_49 : decode cX5_triedWays 49 = .ok (.iload_n 1, 1) := by decide +kernel
theorem dX5_triedWays_50 : decode cX5_triedWays 50 = .ok (.if_icmp .eq 7, 3) := by decide +kernel
theorem dX5_triedWays_53 : decode cX5_triedWays 53 = .ok (.lconst 1, 1) := by decide +kernel
theorem dX5_triedWays_54 : decode cX5_triedWays 54 = .ok (.goto 30, 3) := by decide +kernel
theorem dX5_triedWays_57 : decode cX5_triedWays 57 = .ok (.aload_n 0, 1) := by decide +kernel
theorem dX5_triedWays_58 : decode cX5_triedWays 58 = .ok (.getfield 25, 3) := by decide +kernel
theorem dX5_triedWays_61 : decode cX5_triedWays 61 = .ok (.iconst 3, 1) := by decide +kernel
theorem dX5_triedWays_62 : decode cX5_triedWays 62 = .ok (.iload 5, 2) := by decide +kernel
theorem dX5_triedWays_64 : decode cX5_triedWays 64 = .ok (.imul, 1) := by decide +kernel
theorem dX5_triedWays_65 : decode cX5_triedWays 65 = .ok (.iconst 2, 1) := by decide +kernel
theorem dX5_triedWays_66 : decode cX5_triedWays 66 = .ok (.iadd, 1) := by decide +kernel
theorem dX5_triedWays_67 : decode cX5_triedWays 67 = .ok (.iaload, 1) := by decide +kernel
theorem dX5_triedWays_68 : decode cX5_triedWays 68 = .ok (.iconst 1, 1) := by decide +kernel
theorem dX5_triedWays_69 : decode cX5_triedWays 69 = .ok (.if_icmp .ne 9, 3) := by decide +kernel
theorem dX5_triedWays_72 : decode cX5_triedWays 72 = .ok (.iload 6, 2) := by decide +kernel
theorem dX5_triedWays_74 : decode cX5_triedWays 74 = .ok (.i2l, 1) := by decide +kernel
theorem dX5_triedWays_75 : decode cX5_triedWays 75 = .ok (.goto 9, 3) := by decide +kernel
theorem dX5_triedWays_78 : decode cX5_triedWays 78 = .ok (.bipush 10, 2) := by decide +kernel
theorem dX5_triedWays_80 : decode cX5_triedWays 80 = .ok (.iload 6, 2) := by decide +kernel
theorem dX5_triedWays_82 : decode cX5_triedWays 82 = .ok (.isub, 1) := by decide +kernel
theorem dX5_triedWays_83 : decode cX5_triedWays 83 = .ok (.i2l, 1) := by decide +kernel
theorem dX5_triedWays_84 : decode cX5_triedWays 84 = .ok (.lmul, 1) := by decide +kernel
theorem dX5_triedWays_85 : decode cX5_triedWays 85 = .ok (.lstore_n 3, 1) := by decide +kernel
theorem dX5_triedWays_86 : decode cX5_triedWays 86 = .ok (.iinc 5 1, 3) := by decide +kernel
theorem dX5_triedWays_89 : decode cX5_triedWays 89 = .ok (.goto (-84), 3) := by decide +kernel
theorem dX5_triedWays_92 : decode cX5_triedWays 92 = .ok (.lload_n 3, 1) := by decide +kernel
theorem dX5_triedWays_93 : decode cX5_triedWays 93 = .ok (.lreturn, 1) := by decide +kernel
theorem dX5_sureOf_0 : decode cX5_sureOf 0 = .ok (.iconst 0, 1) := by decide +kernel
theorem dX5_sureOf_1 : decode cX5_sureOf 1 = .ok (.istore_n 2, 1) := by decide +kernel
theorem dX5_sureOf_2 : decode cX5_sureOf 2 = .ok (.iconst 1, 1) := by decide +kernel
theorem dX5_sureOf_3 : decode cX5_sureOf 3 = .ok (.istore_n 3, 1) := by decide +kernel
theorem dX5_sureOf_4 : decode cX5_sureOf 4 = .ok (.iload_n 3, 1) := by decide +kernel
theorem dX5_sureOf_5 : decode cX5_sureOf 5 = .ok (.bipush 10, 2) := by decide +kernel
theorem dX5_sureOf_7 : decode cX5_sureOf 7 = .ok (.if_icmp .ge 32, 3) := by decide +kernel
theorem dX5_sureOf_10 : decode cX5_sureOf 10 = .ok (.iload_n 2, 1) := by decide +kernel
theorem dX5_sureOf_11 : decode cX5_sureOf 11 = .ok (.aload_n 0, 1) := by decide +kernel
theorem dX5_sureOf_12 : decode cX5_sureOf 12 = .ok (.iload_n 1, 1) := by decide +kernel
theorem dX5_sureOf_13 : decode cX5_sureOf 13 = .ok (.iload_n 3, 1) := by decide +kernel
theorem dX5_sureOf_14 : decode cX5_sureOf 14 = .ok (.invokevirtual 173, 3) := by decide +kernel
theorem dX5_sureOf_17 : decode cX5_sureOf 17 = .ok (.lconst 0, 1) := by decide +kernel
theorem dX5_sureOf_18 : decode cX5_sureOf 18 = .ok (.lcmp, 1) := by decide +kernel
theorem dX5_sureOf_19 : decode cX5_sureOf 19 = .ok (.ifCond .le 11, 3) := by decide +kernel
theorem dX5_sureOf_22 : decode cX5_sureOf 22 = .ok (.iconst 1, 1) := by decide +kernel
theorem dX5_sureOf_23 : decode cX5_sureOf 23 = .ok (.iload_n 3, 1) := by decide +kernel
theorem dX5_sureOf_24 : decode cX5_sureOf 24 = .ok (.iconst 1, 1) := by decide +kernel
theorem dX5_sureOf_25 : decode cX5_sureOf 25 = .ok (.isub, 1) := by decide +kernel
theorem dX5_sureOf_26 : decode cX5_sureOf 26 = .ok (.ishl, 1) := by decide +kernel
theorem dX5_sureOf_27 : decode cX5_sureOf 27 = .ok (.goto 4, 3) := by decide +kernel
theorem dX5_sureOf_30 : decode cX5_sureOf 30 = .ok (.iconst 0, 1) := by decide +kernel
theorem dX5_sureOf_31 : decode cX5_sureOf 31 = .ok (.ior, 1) := by decide +kernel
theorem dX5_sureOf_32 : decode cX5_sureOf 32 = .ok (.istore_n 2, 1) := by decide +kernel
theorem dX5_sureOf_33 : decode cX5_sureOf 33 = .ok (.iinc 3 1, 3) := by decide +kernel
theorem dX5_sureOf_36 : decode cX5_sureOf 36 = .ok (.goto (-32), 3) := by decide +kernel
theorem dX5_sureOf_39 : decode cX5_sureOf 39 = .ok (.iload_n 2, 1) := by decide +kernel
theorem dX5_sureOf_40 : decode cX5_sureOf 40 = .ok (.ireturn, 1) := by decide +kernel
theorem dX5_likelyOf_0 : decode cX5_likelyOf 0 = .ok (.iconst (-1), 1) := by decide +kernel
theorem dX5_likelyOf_1 : decode cX5_likelyOf 1 = .ok (.istore_n 2, 1) := by decide +kernel
theorem dX5_likelyOf_2 : decode cX5_likelyOf 2 = .ok (.lconst 0, 1) := by decide +kernel
theorem dX5_likelyOf_3 : decode cX5_likelyOf 3 = .ok (.lstore_n 3, 1) := by decide +kernel
theorem dX5_likelyOf_4 : decode cX5_likelyOf 4 = .ok (.iconst 1, 1) := by decide +kernel
theorem dX5_likelyOf_5 : decode cX5_likelyOf 5 = .ok (.istore 5, 2) := by decide +kernel
theorem dX5_likelyOf_7 : decode cX5_likelyOf 7 = .ok (.iload 5, 2) := by decide +kernel
theorem dX5_likelyOf_9 : decode cX5_likelyOf 9 = .ok (.bipush 10, 2) := by decide +kernel
theorem dX5_likelyOf_11 : decode cX5_likelyOf 11 = .ok (.if_icmp .ge 46, 3) := by decide +kernel
theorem dX5_likelyOf_14 : decode cX5_likelyOf 14 = .ok (.aload_n 0, 1) := by decide +kernel
theorem dX5_likelyOf_15 : decode cX5_likelyOf 15 = .ok (.iload_n 1, 1) := by decide +kernel
theorem dX5_likelyOf_16 : decode cX5_likelyOf 16 = .ok (.iload 5, 2) := by decide +kernel
theorem dX5_likelyOf_18 : decode cX5_likelyOf 18 = .ok (.invokevirtual 173, 3) := by decide +kernel
theorem dX5_likelyOf_21 : decode cX5_likelyOf 21 = .ok (.lstore 6, 2) := by decide +kernel
theorem dX5_likelyOf_23 : decode cX5_likelyOf 23 = .ok (.lload 6, 2) := by decide +kernel
theorem dX5_likelyOf_25 : decode cX5_likelyOf 25 = .ok (.lload_n 3, 1) := by decide +kernel
theorem dX5_likelyOf_26 : decode cX5_likelyOf 26 = .ok (.lcmp, 1) := by decide +kernel
theorem dX5_likelyOf_27 : decode cX5_likelyOf 27 = .ok (.ifCond .le 8, 3) := by decide +kernel
theorem dX5_likelyOf_30 : decode cX5_likelyOf 30 = .ok (.iload 5, 2) := by decide +kernel
theorem dX5_likelyOf_32 : decode cX5_likelyOf 32 = .ok (.goto 4, 3) := by decide +kernel
theorem dX5_likelyOf_35 : decode cX5_likelyOf 35 = .ok (.iload_n 2, 1) := by decide +kernel
theorem dX5_likelyOf_36 : decode cX5_likelyOf 36 = .ok (.istore_n 2, 1) := by decide +kernel
theorem dX5_likelyOf_37 : decode cX5_likelyOf 37 = .ok (.lload 6, 2) := by decide +kernel
theorem dX5_likelyOf_39 : decode cX5_likelyOf 39 = .ok (.lload_n 3, 1) := by decide +kernel
theorem dX5_likelyOf_40 : decode cX5_likelyOf 40 = .ok (.lcmp, 1) := by decide +kernel
theorem dX5_likelyOf_41 : decode cX5_likelyOf 41 = .ok (.ifCond .le 8, 3) := by decide +kernel
theorem dX5_likelyOf_44 : decode cX5_likelyOf 44 = .ok (.lload 6, 2) := by decide +kernel
theorem dX5_likelyOf_46 : decode cX5_likelyOf 46 = .ok (.goto 4, 3) := by decide +kernel
theorem dX5_likelyOf_49 : decode cX5_likelyOf 49 = .ok (.lload_n 3, 1) := by decide +kernel
theorem dX5_likelyOf_50 : decode cX5_likelyOf 50 = .ok (.lstore_n 3, 1) := by decide +kernel
theorem dX5_likelyOf_51 : decode cX5_likelyOf 51 = .ok (.iinc 5 1, 3) := by decide +kernel
theorem dX5_likelyOf_54 : decode cX5_likelyOf 54 = .ok (.goto (-47), 3) := by decide +kernel
theorem dX5_likelyOf_57 : decode cX5_likelyOf 57 = .ok (.iload_n 2, 1) := by decide +kernel
theorem dX5_likelyOf_58 : decode cX5_likelyOf 58 = .ok (.ireturn, 1) := by decide +kernel
theorem dX5_draw_0 : decode cX5_draw 0 = .ok (.aload_n 0, 1) := by decide +kernel
theorem dX5_draw_1 : decode cX5_draw 1 = .ok (.ldc2_w 177, 3) := by decide +kernel
theorem dX5_draw_4 : decode cX5_draw 4 = .ok (.aload_n 0, 1) := by decide +kernel
theorem dX5_draw_5 : decode cX5_draw 5 = .ok (.getfield 179, 3) := by decide +kernel
theorem dX5_draw_8 : decode cX5_draw 8 = .ok (.i2l, 1) := by decide +kernel
theorem dX5_draw_9 : decode cX5_draw 9 = .ok (.lmul, 1) := by decide +kernel
theorem dX5_draw_10 : decode cX5_draw 10 = .ok (.ldc2_w 182, 3) := by decide +kernel
theorem dX5_draw_13 : decode cX5_draw 13 = .ok (.ladd, 1) := by decide +kernel
theorem dX5_draw_14 : decode cX5_draw 14 = .ok (.ldc2_w 184, 3) := by decide +kernel
theorem dX5_draw_17 : decode cX5_draw 17 = .ok (.land, 1) := by decide +kernel
theorem dX5_draw_18 : decode cX5_draw 18 = .ok (.l2i, 1) := by decide +kernel
theorem dX5_draw_19 : decode cX5_draw 19 = .ok (.putfield 179, 3) := by decide +kernel
theorem dX5_draw_22 : decode cX5_draw 22 = .ok (.aload_n 0, 1) := by decide +kernel
theorem dX5_draw_23 : decode cX5_draw 23 = .ok (.getfield 179, 3) := by decide +kernel
theorem dX5_draw_26 : decode cX5_draw 26 = .ok (.ldc 186, 2) := by decide +kernel
theorem dX5_draw_28 : decode cX5_draw 28 = .ok (.idiv, 1) := by decide +kernel
theorem dX5_draw_29 : decode cX5_draw 29 = .ok (.iload_n 1, 1) := by decide +kernel
theorem dX5_draw_30 : decode cX5_draw 30 = .ok (.irem, 1) := by decide +kernel
theorem dX5_draw_31 : decode cX5_draw 31 = .ok (.ireturn, 1) := by decide +kernel
theorem dX5_meets_0 : decode cX5_meets 0 = .ok (.iload_n 1, 1) := by decide +kernel
theorem dX5_meets_1 : decode cX5_meets 1 = .ok (.i2l, 1) := by decide +kernel
theorem dX5_meets_2 : decode cX5_meets 2 = .ok (.lconst 1, 1) := by decide +kernel
theorem dX5_meets_3 : decode cX5_meets 3 = .ok (.ldc2_w 187, 3) := by decide +kernel
theorem dX5_meets_6 : decode cX5_meets 6 = .ok (.invokestatic 40, 3) := by decide +kernel
theorem dX5_meets_9 : decode cX5_meets 9 = .ok (.ifCond .eq 19, 3) := by decide +kernel
theorem dX5_meets_12 : decode cX5_meets 12 = .ok (.iload_n 2, 1) := by decide +kernel
theorem dX5_meets_13 : decode cX5_meets 13 = .ok (.ifCond .lt 15, 3) := by decide +kernel
theorem dX5_meets_16 : decode cX5_meets 16 = .ok (.iload_n 3, 1) := by decide +kernel
theorem dX5_meets_17 : decode cX5_meets 17 = .ok (.i2l, 1) := by decide +kernel
theorem dX5_meets_18 : decode cX5_meets 18 = .ok (.lconst 0, 1) := by decide +kernel
theorem dX5_meets_19 : decode cX5_meets 19 = .ok (.ldc2_w 189, 3) := by decide +kernel
theorem dX5_meets_22 : decode cX5_meets 22 = .ok (.invokestatic 40, 3) := by decide +kernel
theorem dX5_meets_25 : decode cX5_meets 25 = .ok (.ifCond .ne 6, 3) := by decide +kernel
theorem dX5_meets_28 : decode cX5_meets 28 = .ok (.bipush (-102), 2) := by decide +kernel
theorem dX5_meets_30 : decode cX5_meets 30 = .ok (.ireturn, 1) := by decide +kernel
theorem dX5_meets_31 : decode cX5_meets 31 = .ok (.aload_n 0, 1) := by decide +kernel
theorem dX5_meets_32 : decode cX5_meets 32 = .ok (.invokevirtual 117, 3) := by decide +kernel
theorem dX5_meets_35 : decode cX5_meets 35 = .ok (.ifCond .eq 6, 3) := by decide +kernel
theorem dX5_meets_38 : decode cX5_meets 38 = .ok (.bipush (-103), 2) := by decide +kernel
theorem dX5_meets_40 : decode cX5_meets 40 = .ok (.ireturn, 1) := by decide +kernel
theorem dX5_meets_41 : decode cX5_meets 41 = .ok (.aload_n 0, 1) := by decide +kernel
theorem dX5_meets_42 : decode cX5_meets 42 = .ok (.iload_n 2, 1) := by decide +kernel
theorem dX5_meets_43 : decode cX5_meets 43 = .ok (.putfield 179, 3) := by decide +kernel
theorem dX5_meets_46 : decode cX5_meets 46 = .ok (.iconst 0, 1) := by decide +kernel
theorem dX5_meets_47 : decode cX5_meets 47 = .ok (.istore 4, 2) := by decide +kernel
theorem dX5_meets_49 : decode cX5_meets 49 = .ok (.sipush 20000, 3) := by decide +kernel
theorem dX5_meets_52 : decode cX5_meets 52 = .ok (.istore 5, 2) := by decide +kernel
theorem dX5_meets_54 : decode cX5_meets 54 = .ok (.iconst 0, 1) := by decide +kernel
theorem dX5_meets_55 : decode cX5_meets 55 = .ok (.istore 6, 2) := by decide +kernel
theorem dX5_meets_57 : decode cX5_meets 57 = .ok (.iload 6, 2) := by decide +kernel
theorem dX5_meets_59 : decode cX5_meets 59 = .ok (.iload_n 1, 1) := by decide +kernel
theorem dX5_meets_60 : decode cX5_meets 60 = .ok (.if_icmp .ge 99, 3) := by decide +kernel
theorem dX5_meets_63 : decode cX5_meets 63 = .ok (.iconst 0, 1) := by decide +kernel
theorem dX5_meets_64 : decode cX5_meets 64 = .ok (.istore 7, 2) := by decide +kernel
theorem dX5_meets_66 : decode cX5_meets 66 = .ok (.iconst 0, 1) := by decide +kernel
theorem dX5_meets_67 : decode cX5_meets 67 = .ok (.istore 8, 2) := by decide +kernel
theorem dX5_meets_69 : decode cX5_meets 69 = .ok (.iload 8, 2) := by decide +kernel
theorem dX5_meets_71 : decode cX5_meets 71 = .ok (.aload_n 0, 1) := by decide +kernel
theorem dX5_meets_72 : decode cX5_meets 72 = .ok (.getfield 66, 3) := by decide +kernel
theorem dX5_meets_75 : decode cX5_meets 75 = .ok (.if_icmp .ge 44, 3) := by decide +kernel
theorem dX5_meets_78 : decode cX5_meets 78 = .ok (.iload 7, 2) := by decide +kernel
theorem dX5_meets_80 : decode cX5_meets 80 = .ok (.aload_n 0, 1) := by decide +kernel
theorem dX5_meets_81 : decode cX5_meets 81 = .ok (.bipush 10, 2) := by decide +kernel
theorem dX5_meets_83 : decode cX5_meets 83 = .ok (.invokevirtual 191, 3) := by decide +kernel
theorem dX5_meets_86 : decode cX5_meets 86 = .ok (.aload_n 0, 1) := by decide +kernel
theorem dX5_meets_87 : decode cX5_meets 87 = .ok (.aload_n 0, 1) := by decide +kernel
theorem dX5_meets_88 : decode cX5_meets 88 = .ok (.getfield 16, 3) := by decide +kernel
theorem dX5_meets_91 : decode cX5_meets 91 = .ok (.iload 8, 2) := by decide +kernel
theorem dX5_meets_93 : decode cX5_meets 93 = .ok (.iaload, 1) := by decide +kernel
theorem dX5_meets_94 : decode cX5_meets 94 = .ok (.iload 8, 2) := by decide +kernel
theorem dX5_meets_96 : decode cX5_meets 96 = .ok (.invokevirtual 85, 3) := by decide +kernel
theorem dX5_meets_99 : decode cX5_meets 99 = .ok (.if_icmp .ge 7, 3) := by decide +kernel
theorem dX5_meets_102 : decode cX5_meets 102 = .ok (.iconst 0, 1) := by decide +kernel
theorem dX5_meets_103 : decode cX5_meets 103 = .ok (.goto 7, 3) := by decide +kernel
theorem dX5_meets_106 : decode cX5_meets 106 = .ok (.iconst 1, 1) := by decide +kernel
theorem dX5_meets_107 : decode cX5_meets 107 = .ok (.iload 8, 2) := by decide +kernel
theorem dX5_meets_109 : decode cX5_meets 109 = .ok (.ishl, 1) := by decide +kernel
theorem dX5_meets_110 : decode cX5_meets 110 = .ok (.ior, 1) := by decide +kernel
theorem dX5_meets_111 : decode cX5_meets 111 = .ok (.istore 7, 2) := by decide +kernel
theorem dX5_meets_113 : decode cX5_meets 113 = .ok (.iinc 8 1, 3) := by decide +kernel
theorem dX5_meets_116 : decode cX5_meets 116 = .ok (.goto (-47), 3) := by decide +kernel
theorem dX5_meets_119 : decode cX5_meets 119 = .ok (.iload 4, 2) := by decide +kernel
theorem dX5_meets_121 : decode cX5_meets 121 = .ok (.iload 7, 2) := by decide +kernel
theorem dX5_meets_123 : decode cX5_meets 123 = .ok (.ifCond .ne 7, 3) := by decide +kernel
theorem dX5_meets_126 : decode cX5_meets 126 = .ok (.iconst 1, 1) := by decide +kernel
theorem dX5_meets_127 : decode cX5_meets 127 = .ok (.goto 4, 3) := by decide +kernel
theorem dX5_meets_130 : decode cX5_meets 130 = .ok (.iconst 0, 1) := by decide +kernel
theorem dX5_meets_131 : decode cX5_meets 131 = .ok (.iadd, 1) := by decide +kernel
theorem dX5_meets_132 : decode cX5_meets 132 = .ok (.istore 4, 2) := by decide +kernel
theorem dX5_meets_134 : decode cX5_meets 134 = .ok (.iload 5, 2) := by decide +kernel
theorem dX5_meets_136 : decode cX5_meets 136 = .ok (.aload_n 0, 1) := by decide +kernel
theorem dX5_meets_137 : decode cX5_meets 137 = .ok (.aload_n 0, 1) := by decide +kernel
theorem dX5_meets_138 : decode cX5_meets 138 = .ok (.getfield 16, 3) := by decide +kernel
theorem dX5_meets_141 : decode cX5_meets 141 = .ok (.aload_n 0, 1) := by decide +kernel
theorem dX5_meets_142 : decode cX5_meets 142 = .ok (.getfield 66, 3) := by decide +kernel
theorem dX5_meets_145 : decode cX5_meets 145 = .ok (.iload 7, 2) := by decide +kernel
theorem dX5_meets_147 : decode cX5_meets 147 = .ok (.invokevirtual 121, 3) := by decide +kernel
theorem dX5_meets_150 : decode cX5_meets 150 = .ok (.iadd, 1) := by decide +kernel
theorem dX5_meets_151 : decode cX5_meets 151 = .ok (.istore 5, 2) := by decide +kernel
theorem dX5_meets_153 : decode cX5_meets 153 = .ok (.iinc 6 1, 3) := by decide +kernel
theorem dX5_meets_156 : decode cX5_meets 156 = .ok (.goto (-99), 3) := by decide +kernel
theorem dX5_meets_159 : decode cX5_meets 159 = .ok (.iload_n 3, 1) := by decide +kernel
theorem dX5_meets_160 : decode cX5_meets 160 = .ok (.ifCond .ne 8, 3) := by decide +kernel
theorem dX5_meets_163 : decode cX5_meets 163 = .ok (.iload 4, 2) := by decide +kernel
theorem dX5_meets_165 : decode cX5_meets 165 = .ok (.goto 17, 3) := by decide +kernel
theorem dX5_meets_168 : decode cX5_meets 168 = .ok (.iload_n 3, 1) := by decide +kernel
theorem dX5_meets_169 : decode cX5_meets 169 = .ok (.iconst 1, 1) := by decide +kernel
theorem dX5_meets_170 : decode cX5_meets 170 = .ok (.if_icmp .ne 8, 3) := by decide +kernel
theorem dX5_meets_173 : decode cX5_meets 173 = .ok (.iload 5, 2) := by decide +kernel
theorem dX5_meets_175 : decode cX5_meets 175 = .ok (.goto 7, 3) := by decide +kernel
theorem dX5_meets_178 : decode cX5_meets 178 = .ok (.aload_n 0, 1) := by decide +kernel
theorem dX5_meets_179 : decode cX5_meets 179 = .ok (.getfield 179, 3) := by decide +kernel
theorem dX5_meets_182 : decode cX5_meets 182 = .ok (.ireturn, 1) := by decide +kernel
theorem dX5_image_0 : decode cX5_image 0 = .ok (.aload_n 0, 1) := by decide +kernel
theorem dX5_image_1 : decode cX5_image 1 = .ok (.invokevirtual 117, 3) := by decide +kernel
theorem dX5_image_4 : decode cX5_image 4 = .ok (.ifCond .eq 6, 3) := by decide +kernel
theorem dX5_image_7 : decode cX5_image 7 = .ok (.bipush (-103), 2) := by decide +kernel
theorem dX5_image_9 : decode cX5_image 9 = .ok (.ireturn, 1) := by decide +kernel
theorem dX5_image_10 : decode cX5_image 10 = .ok (.aload_n 0, 1) := by decide +kernel
theorem dX5_image_11 : decode cX5_image 11 = .ok (.getfield 16, 3) := by decide +kernel
theorem dX5_image_14 : decode cX5_image 14 = .ok (.aload_n 0, 1) := by decide +kernel
theorem dX5_image_15 : decode cX5_image 15 = .ok (.getfield 28, 3) := by decide +kernel
theorem dX5_image_18 : decode cX5_image 18 = .ok (.invokestatic 154, 3) := by decide +kernel
theorem dX5_image_21 : decode cX5_image 21 = .ok (.aload_n 0, 1) := by decide +kernel
theorem dX5_image_22 : decode cX5_image 22 = .ok (.getfield 25, 3) := by decide +kernel
theorem dX5_image_25 : decode cX5_image 25 = .ok (.aload_n 0, 1) := by decide +kernel
theorem dX5_image_26 : decode cX5_image 26 = .ok (.getfield 31, 3) := by decide +kernel
theorem dX5_image_29 : decode cX5_image 29 = .ok (.invokestatic 154, 3) := by decide +kernel
theorem dX5_image_32 : decode cX5_image 32 = .ok (.aload_n 0, 1) := by decide +kernel
theorem dX5_image_33 : decode cX5_image 33 = .ok (.aload_n 0, 1) := by decide +kernel
theorem dX5_image_34 : decode cX5_image 34 = .ok (.getfield 66, 3) := by decide +kernel
theorem dX5_image_37 : decode cX5_image 37 = .ok (.putfield 194, 3) := by decide +kernel
theorem dX5_image_40 : decode cX5_image 40 = .ok (.aload_n 0, 1) := by decide +kernel
theorem dX5_image_41 : decode cX5_image 41 = .ok (.aload_n 0, 1) := by decide +kernel
theorem dX5_image_42 : decode cX5_image 42 = .ok (.getfield 69, 3) := by decide +kernel
theorem dX5_image_45 : decode cX5_image 45 = .ok (.putfield 197, 3) := by decide +kernel
theorem dX5_image_48 : decode cX5_image 48 = .ok (.aload_n 0, 1) := by decide +kernel
theorem dX5_image_49 : decode cX5_image 49 = .ok (.aload_n 0, 1) := by decide +kernel
theorem dX5_image_50 : decode cX5_image 50 = .ok (.getfield 72, 3) := by decide +kernel
theorem dX5_image_53 : decode cX5_image 53 = .ok (.putfield 200, 3) := by decide +kernel
theorem dX5_image_56 : decode cX5_image 56 = .ok (.aload_n 0, 1) := by decide +kernel
theorem dX5_image_57 : decode cX5_image 57 = .ok (.aload_n 0, 1) := by decide +kernel
theorem dX5_image_58 : decode cX5_image 58 = .ok (.getfield 75, 3) := by decide +kernel
theorem dX5_image_61 : decode cX5_image 61 = .ok (.putfield 34, 3) := by decide +kernel
theorem dX5_image_64 : decode cX5_image 64 = .ok (.aload_n 0, 1) := by decide +kernel
theorem dX5_image_65 : decode cX5_image 65 = .ok (.getfield 69, 3) := by decide +kernel
theorem dX5_image_68 : decode cX5_image 68 = .ok (.ireturn, 1) := by decide +kernel
theorem dX5_restore_0 : decode cX5_restore 0 = .ok (.aload_n 0, 1) := by decide +kernel
theorem dX5_restore_1 : decode cX5_restore 1 = .ok (.getfield 34, 3) := by decide +kernel
theorem dX5_restore_4 : decode cX5_restore 4 = .ok (.aload_n 0, 1) := by decide +kernel
theorem dX5_restore_5 : decode cX5_restore 5 = .ok (.getfield 75, 3) := by decide +kernel
theorem dX5_restore_8 : decode cX5_restore 8 = .ok (.if_icmp .eq 6, 3) := by decide +kernel
theorem dX5_restore_11 : decode cX5_restore 11 = .ok (.bipush (-103), 2) := by decide +kernel
theorem dX5_restore_13 : decode cX5_restore 13 = .ok (.ireturn, 1) := by decide +kernel
theorem dX5_restore_14 : decode cX5_restore 14 = .ok (.aload_n 0, 1) := by decide +kernel
theorem dX5_restore_15 : decode cX5_restore 15 = .ok (.getfield 28, 3) := by decide +kernel
theorem dX5_restore_18 : decode cX5_restore 18 = .ok (.aload_n 0, 1) := by decide +kernel
theorem dX5_restore_19 : decode cX5_restore 19 = .ok (.getfield 16, 3) := by decide +kernel
theorem dX5_restore_22 : decode cX5_restore 22 = .ok (.invokestatic 154, 3) := by decide +kernel
theorem dX5_restore_25 : decode cX5_restore 25 = .ok (.aload_n 0, 1) := by decide +kernel
theorem dX5_restore_26 : decode cX5_restore 26 = .ok (.getfield 31, 3) := by decide +kernel
theorem dX5_restore_29 : decode cX5_restore 29 = .ok (.aload_n 0, 1) := by decide +kernel
theorem dX5_restore_30 : decode cX5_restore 30 = .ok (.getfield 25, 3) := by decide +kernel
theorem dX5_restore_33 : decode cX5_restore 33 = .ok (.invokestatic 154, 3) := by decide +kernel
theorem dX5_restore_36 : decode cX5_restore 36 = .ok (.aload_n 0, 1) := by decide +kernel
theorem dX5_restore_37 : decode cX5_restore 37 = .ok (.aload_n 0, 1) := by decide +kernel
theorem dX5_restore_38 : decode cX5_restore 38 = .ok (.getfield 194, 3) := by decide +kernel
theorem dX5_restore_41 : decode cX5_restore 41 = .ok (.putfield 66, 3) := by decide +kernel
theorem dX5_restore_44 : decode cX5_restore 44 = .ok (.aload_n 0, 1) := by decide +kernel
theorem dX5_restore_45 : decode cX5_restore 45 = .ok (.aload_n 0, 1) := by decide +kernel
theorem dX5_restore_46 : decode cX5_restore 46 = .ok (.getfield 197, 3) := by decide +kernel
theorem dX5_restore_49 : decode cX5_restore 49 = .ok (.putfield 69, 3) := by decide +kernel
theorem dX5_restore_52 : decode cX5_restore 52 = .ok (.aload_n 0, 1) := by decide +kernel
theorem dX5_restore_53 : decode cX5_restore 53 = .ok (.aload_n 0, 1) := by decide +kernel
theorem dX5_restore_54 : decode cX5_restore 54 = .ok (.getfield 200, 3) := by decide +kernel
theorem dX5_restore_57 : decode cX5_restore 57 = .ok (.putfield 72, 3) := by decide +kernel
theorem dX5_restore_60 : decode cX5_restore 60 = .ok (.aload_n 0, 1) := by decide +kernel
theorem dX5_restore_61 : decode cX5_restore 61 = .ok (.getfield 69, 3) := by decide +kernel
theorem dX5_restore_64 : decode cX5_restore 64 = .ok (.ireturn, 1) := by decide +kernel
theorem dX5_flightsIn_0 : decode cX5_flightsIn 0 = .ok (.iconst 0, 1) := by decide +kernel
theorem dX5_flightsIn_1 : decode cX5_flightsIn 1 = .ok (.istore_n 1, 1) := by decide +kernel
theorem dX5_flightsIn_2 : decode cX5_flightsIn 2 = .ok (.iconst 0, 1) := by decide +kernel
theorem dX5_flightsIn_3 : decode cX5_flightsIn 3 = .ok (.istore_n 2, 1) := by decide +kernel
theorem dX5_flightsIn_4 : decode cX5_flightsIn 4 = .ok (.iload_n 2, 1) := by decide +kernel
theorem dX5_flightsIn_5 : decode cX5_flightsIn 5 = .ok (.aload_n 0, 1) := by decide +kernel
theorem dX5_flightsIn_6 : decode cX5_flightsIn 6 = .ok (.getfield 66, 3) := by decide +kernel
theorem dX5_flightsIn_9 : decode cX5_flightsIn 9 = .ok (.if_icmp .ge 30, 3) := by decide +kernel
theorem dX5_flightsIn_12 : decode cX5_flightsIn 12 = .ok (.iload_n 1, 1) := by decide +kernel
theorem dX5_flightsIn_13 : decode cX5_flightsIn 13 = .ok (.aload_n 0, 1) := by decide +kernel
theorem dX5_flightsIn_14 : decode cX5_flightsIn 14 = .ok (.aload_n 0, 1) := by decide +kernel
theorem dX5_flightsIn_15 : decode cX5_flightsIn 15 = .ok (.getfield 16, 3) := by decide +kernel
theorem dX5_flightsIn_18 : decode cX5_flightsIn 18 = .ok (.iload_n 2, 1) := by decide +kernel
theorem dX5_flightsIn_19 : decode cX5_flightsIn 19 = .ok (.iaload, 1) := by decide +kernel
theorem dX5_flightsIn_20 : decode cX5_flightsIn 20 = .ok (.invokevirtual 107, 3) := by decide +kernel
theorem dX5_flightsIn_23 : decode cX5_flightsIn 23 = .ok (.ifCond .eq 7, 3) := by decide +kernel
theorem dX5_flightsIn_26 : decode cX5_flightsIn 26 = .ok (.iconst 1, 1) := by decide +kernel
theorem dX5_flightsIn_27 : decode cX5_flightsIn 27 = .ok (.goto 4, 3) := by decide +kernel
theorem dX5_flightsIn_30 : decode cX5_flightsIn 30 = .ok (.iconst 0, 1) := by decide +kernel
theorem dX5_flightsIn_31 : decode cX5_flightsIn 31 = .ok (.iadd, 1) := by decide +kernel
theorem dX5_flightsIn_32 : decode cX5_flightsIn 32 = .ok (.istore_n 1, 1) := by decide +kernel
theorem dX5_flightsIn_33 : decode cX5_flightsIn 33 = .ok (.iinc 2 1, 3) := by decide +kernel
theorem dX5_flightsIn_36 : decode cX5_flightsIn 36 = .ok (.goto (-32), 3) := by decide +kernel
theorem dX5_flightsIn_39 : decode cX5_flightsIn 39 = .ok (.iload_n 1, 1) := by decide +kernel
theorem dX5_flightsIn_40 : decode cX5_flightsIn 40 = .ok (.ireturn, 1) := by decide +kernel
theorem dX5_turnsIn_0 : decode cX5_turnsIn 0 = .ok (.iconst 0, 1) := by decide +kernel
theorem dX5_turnsIn_1 : decode cX5_turnsIn 1 = .ok (.istore_n 1, 1) := by decide +kernel
theorem dX5_turnsIn_2 : decode cX5_turnsIn 2 = .ok (.iconst 0, 1) := by decide +kernel
theorem dX5_turnsIn_3 : decode cX5_turnsIn 3 = .ok (.istore_n 2, 1) := by decide +kernel
theorem dX5_turnsIn_4 : decode cX5_turnsIn 4 = .ok (.iload_n 2, 1) := by decide +kernel
theorem dX5_turnsIn_5 : decode cX5_turnsIn 5 = .ok (.aload_n 0, 1) := by decide +kernel
theorem dX5_turnsIn_6 : decode cX5_turnsIn 6 = .ok (.getfield 66, 3) := by decide +kernel
theorem dX5_turnsIn_9 : decode cX5_turnsIn 9 = .ok (.if_icmp .ge 30, 3) := by decide +kernel
theorem dX5_turnsIn_12 : decode cX5_turnsIn 12 = .ok (.iload_n 1, 1) := by decide +kernel
theorem dX5_turnsIn_13 : decode cX5_turnsIn 13 = .ok (.aload_n 0, 1) := by decide +kernel
theorem dX5_turnsIn_14 : decode cX5_turnsIn 14 = .ok (.aload_n 0, 1) := by decide +kernel
theorem dX5_turnsIn_15 : decode cX5_turnsIn 15 = .ok (.getfield 16, 3) := by decide +kernel
theorem dX5_turnsIn_18 : decode cX5_turnsIn 18 = .ok (.iload_n 2, 1) := by decide +kernel
theorem dX5_turnsIn_19 : decode cX5_turnsIn 19 = .ok (.iaload, 1) := by decide +kernel
theorem dX5_turnsIn_20 : decode cX5_turnsIn 20 = .ok (.invokevirtual 110, 3) := by decide +kernel
theorem dX5_turnsIn_23 : decode cX5_turnsIn 23 = .ok (.ifCond .eq 7, 3) := by decide +kernel
theorem dX5_turnsIn_26 : decode cX5_turnsIn 26 = .ok (.iconst 1, 1) := by decide +kernel
theorem dX5_turnsIn_27 : decode cX5_turnsIn 27 = .ok (.goto 4, 3) := by decide +kernel
theorem dX5_turnsIn_30 : decode cX5_turnsIn 30 = .ok (.iconst 0, 1) := by decide +kernel
theorem dX5_turnsIn_31 : decode cX5_turnsIn 31 = .ok (.iadd, 1) := by decide +kernel
theorem dX5_turnsIn_32 : decode cX5_turnsIn 32 = .ok (.istore_n 1, 1) := by decide +kernel
theorem dX5_turnsIn_33 : decode cX5_turnsIn 33 = .ok (.iinc 2 1, 3) := by decide +kernel
theorem dX5_turnsIn_36 : decode cX5_turnsIn 36 = .ok (.goto (-32), 3) := by decide +kernel
theorem dX5_turnsIn_39 : decode cX5_turnsIn 39 = .ok (.iload_n 1, 1) := by decide +kernel
theorem dX5_turnsIn_40 : decode cX5_turnsIn 40 = .ok (.ireturn, 1) := by decide +kernel
theorem dX5_joinsIn_0 : decode cX5_joinsIn 0 = .ok (.iconst 0, 1) := by decide +kernel
theorem dX5_joinsIn_1 : decode cX5_joinsIn 1 = .ok (.istore_n 1, 1) := by decide +kernel
theorem dX5_joinsIn_2 : decode cX5_joinsIn 2 = .ok (.iconst 0, 1) := by decide +kernel
theorem dX5_joinsIn_3 : decode cX5_joinsIn 3 = .ok (.istore_n 2, 1) := by decide +kernel
theorem dX5_joinsIn_4 : decode cX5_joinsIn 4 = .ok (.iload_n 2, 1) := by decide +kernel
theorem dX5_joinsIn_5 : decode cX5_joinsIn 5 = .ok (.aload_n 0, 1) := by decide +kernel
theorem dX5_joinsIn_6 : decode cX5_joinsIn 6 = .ok (.getfield 66, 3) := by decide +kernel
theorem dX5_joinsIn_9 : decode cX5_joinsIn 9 = .ok (.if_icmp .ge 33, 3) := by decide +kernel
theorem dX5_joinsIn_12 : decode cX5_joinsIn 12 = .ok (.iload_n 1, 1) := by decide +kernel
theorem dX5_joinsIn_13 : decode cX5_joinsIn 13 = .ok (.aload_n 0, 1) := by decide +kernel
theorem dX5_joinsIn_14 : decode cX5_joinsIn 14 = .ok (.aload_n 0, 1) := by decide +kernel
theorem dX5_joinsIn_15 : decode cX5_joinsIn 15 = .ok (.getfield 16, 3) := by decide +kernel
theorem dX5_joinsIn_18 : decode cX5_joinsIn 18 = .ok (.aload_n 0, 1) := by decide +kernel
theorem dX5_joinsIn_19 : decode cX5_joinsIn 19 = .ok (.getfield 66, 3) := by decide +kernel
theorem dX5_joinsIn_22 : decode cX5_joinsIn 22 = .ok (.iload_n 2, 1) := by decide +kernel
theorem dX5_joinsIn_23 : decode cX5_joinsIn 23 = .ok (.invokevirtual 113, 3) := by decide +kernel
theorem dX5_joinsIn_26 : decode cX5_joinsIn 26 = .ok (.ifCond .eq 7, 3) := by decide +kernel
theorem dX5_joinsIn_29 : decode cX5_joinsIn 29 = .ok (.iconst 1, 1) := by decide +kernel
theorem dX5_joinsIn_30 : decode cX5_joinsIn 30 = .ok (.goto 4, 3) := by decide +kernel
theorem dX5_joinsIn_33 : decode cX5_joinsIn 33 = .ok (.iconst 0, 1) := by decide +kernel
theorem dX5_joinsIn_34 : decode cX5_joinsIn 34 = .ok (.iadd, 1) := by decide +kernel
theorem dX5_joinsIn_35 : decode cX5_joinsIn 35 = .ok (.istore_n 1, 1) := by decide +kernel
theorem dX5_joinsIn_36 : decode cX5_joinsIn 36 = .ok (.iinc 2 1, 3) := by decide +kernel
theorem dX5_joinsIn_39 : decode cX5_joinsIn 39 = .ok (.goto (-35), 3) := by decide +kernel
theorem dX5_joinsIn_42 : decode cX5_joinsIn 42 = .ok (.iload_n 1, 1) := by decide +kernel
theorem dX5_joinsIn_43 : decode cX5_joinsIn 43 = .ok (.ireturn, 1) := by decide +kernel
theorem dX5_countOf_0 : decode cX5_countOf 0 = .ok (.iload_n 1, 1) := by decide +kernel
theorem dX5_countOf_1 : decode cX5_countOf 1 = .ok (.tableswitch 105 0 9 #[55, 60, 65, 70, 75, 80, 85, 90, 95, 100], 55) := by decide +kernel
theorem dX5_countOf_56 : decode cX5_countOf 56 = .ok (.aload_n 0, 1) := by decide +kernel
theorem dX5_countOf_57 : decode cX5_countOf 57 = .ok (.getfield 63, 3) := by decide +kernel
theorem dX5_countOf_60 : decode cX5_countOf 60 = .ok (.ireturn, 1) := by decide +kernel
theorem dX5_countOf_61 : decode cX5_countOf 61 = .ok (.aload_n 0, 1) := by decide +kernel
theorem dX5_countOf_62 : decode cX5_countOf 62 = .ok (.getfield 66, 3) := by decide +kernel
theorem dX5_countOf_65 : decode cX5_countOf 65 = .ok (.ireturn, 1) := by decide +kernel
theorem dX5_countOf_66 : decode cX5_countOf 66 = .ok (.aload_n 0, 1) := by decide +kernel
theorem dX5_countOf_67 : decode cX5_countOf 67 = .ok (.invokevirtual 203, 3) := by decide +kernel
theorem dX5_countOf_70 : decode cX5_countOf 70 = .ok (.ireturn, 1) := by decide +kernel
theorem dX5_countOf_71 : decode cX5_countOf 71 = .ok (.aload_n 0, 1) := by decide +kernel
theorem dX5_countOf_72 : decode cX5_countOf 72 = .ok (.invokevirtual 206, 3) := by decide +kernel
theorem dX5_countOf_75 : decode cX5_countOf 75 = .ok (.ireturn, 1) := by decide +kernel
theorem dX5_countOf_76 : decode cX5_countOf 76 = .ok (.aload_n 0, 1) := by decide +kernel
theorem dX5_countOf_77 : decode cX5_countOf 77 = .ok (.invokevirtual 209, 3) := by decide +kernel
theorem dX5_countOf_80 : decode cX5_countOf 80 = .ok (.ireturn, 1) := by decide +kernel
theorem dX5_countOf_81 : decode cX5_countOf 81 = .ok (.aload_n 0, 1) := by decide +kernel
theorem dX5_countOf_82 : decode cX5_countOf 82 = .ok (.getfield 69, 3) := by decide +kernel
theorem dX5_countOf_85 : decode cX5_countOf 85 = .ok (.ireturn, 1) := by decide +kernel
theorem dX5_countOf_86 : decode cX5_countOf 86 = .ok (.aload_n 0, 1) := by decide +kernel
theorem dX5_countOf_87 : decode cX5_countOf 87 = .ok (.getfield 72, 3) := by decide +kernel
theorem dX5_countOf_90 : decode cX5_countOf 90 = .ok (.ireturn, 1) := by decide +kernel
theorem dX5_countOf_91 : decode cX5_countOf 91 = .ok (.aload_n 0, 1) := by decide +kernel
theorem dX5_countOf_92 : decode cX5_countOf 92 = .ok (.getfield 44, 3) := by decide +kernel
theorem dX5_countOf_95 : decode cX5_countOf 95 = .ok (.ireturn, 1) := by decide +kernel
theorem dX5_countOf_96 : decode cX5_countOf 96 = .ok (.aload_n 0, 1) := by decide +kernel
theorem dX5_countOf_97 : decode cX5_countOf 97 = .ok (.getfield 75, 3) := by decide +kernel
theorem dX5_countOf_100 : decode cX5_countOf 100 = .ok (.ireturn, 1) := by decide +kernel
theorem dX5_countOf_101 : decode cX5_countOf 101 = .ok (.aload_n 0, 1) := by decide +kernel
theorem dX5_countOf_102 : decode cX5_countOf 102 = .ok (.getfield 164, 3) := by decide +kernel
theorem dX5_countOf_105 : decode cX5_countOf 105 = .ok (.ireturn, 1) := by decide +kernel
theorem dX5_countOf_106 : decode cX5_countOf 106 = .ok (.bipush (-102), 2) := by decide +kernel
theorem dX5_countOf_108 : decode cX5_countOf 108 = .ok (.ireturn, 1) := by decide +kernel
theorem dX5_count_0 : decode cX5_count 0 = .ok (.aload_n 0, 1) := by decide +kernel
theorem dX5_count_1 : decode cX5_count 1 = .ok (.iload_n 1, 1) := by decide +kernel
theorem dX5_count_2 : decode cX5_count 2 = .ok (.invokevirtual 212, 3) := by decide +kernel
theorem dX5_count_5 : decode cX5_count 5 = .ok (.ireturn, 1) := by decide +kernel
theorem dX5_say_0 : decode cX5_say 0 = .ok (.aload_n 0, 1) := by decide +kernel
theorem dX5_say_1 : decode cX5_say 1 = .ok (.ldc2_w 215, 3) := by decide +kernel
theorem dX5_say_4 : decode cX5_say 4 = .ok (.aload_n 0, 1) := by decide +kernel
theorem dX5_say_5 : decode cX5_say 5 = .ok (.getfield 217, 3) := by decide +kernel
theorem dX5_say_8 : decode cX5_say 8 = .ok (.lmul, 1) := by decide +kernel
theorem dX5_say_9 : decode cX5_say 9 = .ok (.lload_n 1, 1) := by decide +kernel
theorem dX5_say_10 : decode cX5_say 10 = .ok (.ladd, 1) := by decide +kernel
theorem dX5_say_11 : decode cX5_say 11 = .ok (.putfield 217, 3) := by decide +kernel
theorem dX5_say_14 : decode cX5_say 14 = .ok (.return_, 1) := by decide +kernel
theorem dX5_digest_0 : decode cX5_digest 0 = .ok (.aload_n 0, 1) := by decide +kernel
theorem dX5_digest_1 : decode cX5_digest 1 = .ok (.ldc2_w 221, 3) := by decide +kernel
theorem dX5_digest_4 : decode cX5_digest 4 = .ok (.putfield 217, 3) := by decide +kernel
theorem dX5_digest_7 : decode cX5_digest 7 = .ok (.iconst 0, 1) := by decide +kernel
theorem dX5_digest_8 : decode cX5_digest 8 = .ok (.istore_n 1, 1) := by decide +kernel
theorem dX5_digest_9 : decode cX5_digest 9 = .ok (.iload_n 1, 1) := by decide +kernel
theorem dX5_digest_10 : decode cX5_digest 10 = .ok (.aload_n 0, 1) := by decide +kernel
theorem dX5_digest_11 : decode cX5_digest 11 = .ok (.getfield 63, 3) := by decide +kernel
theorem dX5_digest_14 : decode cX5_digest 14 = .ok (.if_icmp .ge 34, 3) := by decide +kernel
theorem dX5_digest_17 : decode cX5_digest 17 = .ok (.iconst 0, 1) := by decide +kernel
theorem dX5_digest_18 : decode cX5_digest 18 = .ok (.istore_n 2, 1) := by decide +kernel
theorem dX5_digest_19 : decode cX5_digest 19 = .ok (.iload_n 2, 1) := by decide +kernel
theorem dX5_digest_20 : decode cX5_digest 20 = .ok (.bipush 7, 2) := by decide +kernel
theorem dX5_digest_22 : decode cX5_digest 22 = .ok (.if_icmp .ge 20, 3) := by decide +kernel
theorem dX5_digest_25 : decode cX5_digest 25 = .ok (.aload_n 0, 1) := by decide +kernel
theorem dX5_digest_26 : decode cX5_digest 26 = .ok (.aload_n 0, 1) := by decide +kernel
theorem dX5_digest_27 : decode cX5_digest 27 = .ok (.iload_n 1, 1) := by decide +kernel
theorem dX5_digest_28 : decode cX5_digest 28 = .ok (.iload_n 2, 1) := by decide +kernel
theorem dX5_digest_29 : decode cX5_digest 29 = .ok (.invokevirtual 99, 3) := by decide +kernel
theorem dX5_digest_32 : decode cX5_digest 32 = .ok (.i2l, 1) := by decide +kernel
theorem dX5_digest_33 : decode cX5_digest 33 = .ok (.invokevirtual 223, 3) := by decide +kernel
theorem dX5_digest_36 : decode cX5_digest 36 = .ok (.iinc 2 1, 3) := by decide +kernel
theorem dX5_digest_39 : decode cX5_digest 39 = .ok (.goto (-20), 3) := by decide +kernel
theorem dX5_digest_42 : decode cX5_digest 42 = .ok (.iinc 1 1, 3) := by decide +kernel
theorem dX5_digest_45 : decode cX5_digest 45 = .ok (.goto (-36), 3) := by decide +kernel
theorem dX5_digest_48 : decode cX5_digest 48 = .ok (.iconst 0, 1) := by decide +kernel
theorem dX5_digest_49 : decode cX5_digest 49 = .ok (.istore_n 1, 1) := by decide +kernel
theorem dX5_digest_50 : decode cX5_digest 50 = .ok (.iload_n 1, 1) := by decide +kernel
theorem dX5_digest_51 : decode cX5_digest 51 = .ok (.aload_n 0, 1) := by decide +kernel
theorem dX5_digest_52 : decode cX5_digest 52 = .ok (.getfield 66, 3) := by decide +kernel
theorem dX5_digest_55 : decode cX5_digest 55 = .ok (.if_icmp .ge 20, 3) := by decide +kernel
theorem dX5_digest_58 : decode cX5_digest 58 = .ok (.aload_n 0, 1) := by decide +kernel
theorem dX5_digest_59 : decode cX5_digest 59 = .ok (.aload_n 0, 1) := by decide +kernel
theorem dX5_digest_60 : decode cX5_digest 60 = .ok (.getfield 16, 3) := by decide +kernel
theorem dX5_digest_63 : decode cX5_digest 63 = .ok (.iload_n 1, 1) := by decide +kernel
theorem dX5_digest_64 : decode cX5_digest 64 = .ok (.iaload, 1) := by decide +kernel
theorem dX5_digest_65 : decode cX5_digest 65 = .ok (.i2l, 1) := by decide +kernel
theorem dX5_digest_66 : decode cX5_digest 66 = .ok (.invokevirtual 223, 3) := by decide +kernel
theorem dX5_digest_69 : decode cX5_digest 69 = .ok (.iinc 1 1, 3) := by decide +kernel
theorem dX5_digest_72 : decode cX5_digest 72 = .ok (.goto (-22), 3) := by decide +kernel
theorem dX5_digest_75 : decode cX5_digest 75 = .ok (.aload_n 0, 1) := by decide +kernel
theorem dX5_digest_76 : decode cX5_digest 76 = .ok (.invokevirtual 117, 3) := by decide +kernel
theorem dX5_digest_79 : decode cX5_digest 79 = .ok (.ifCond .ne 85, 3) := by decide +kernel
theorem dX5_digest_82 : decode cX5_digest 82 = .ok (.aload_n 0, 1) := by decide +kernel
theorem dX5_digest_83 : decode cX5_digest 83 = .ok (.aload_n 0, 1) := by decide +kernel
theorem dX5_digest_84 : decode cX5_digest 84 = .ok (.aload_n 0, 1) := by decide +kernel
theorem dX5_digest_85 : decode cX5_digest 85 = .ok (.getfield 16, 3) := by decide +kernel
theorem dX5_digest_88 : decode cX5_digest 88 = .ok (.aload_n 0, 1) := by decide +kernel
theorem dX5_digest_89 : decode cX5_digest 89 = .ok (.getfield 66, 3) := by decide +kernel
theorem dX5_digest_92 : decode cX5_digest 92 = .ok (.iconst 0, 1) := by decide +kernel
theorem dX5_digest_93 : decode cX5_digest 93 = .ok (.invokevirtual 121, 3) := by decide +kernel
theorem dX5_digest_96 : decode cX5_digest 96 = .ok (.sipush 200, 3) := by decide +kernel
theorem dX5_digest_99 : decode cX5_digest 99 = .ok (.iadd, 1) := by decide +kernel
theorem dX5_digest_100 : decode cX5_digest 100 = .ok (.i2l, 1) := by decide +kernel
theorem dX5_digest_101 : decode cX5_digest 101 = .ok (.invokevirtual 223, 3) := by decide +kernel
theorem dX5_digest_104 : decode cX5_digest 104 = .ok (.aload_n 0, 1) := by decide +kernel
theorem dX5_digest_105 : decode cX5_digest 105 = .ok (.aload_n 0, 1) := by decide +kernel
theorem dX5_digest_106 : decode cX5_digest 106 = .ok (.aload_n 0, 1) := by decide +kernel
theorem dX5_digest_107 : decode cX5_digest 107 = .ok (.getfield 16, 3) := by decide +kernel
theorem dX5_digest_110 : decode cX5_digest 110 = .ok (.aload_n 0, 1) := by decide +kernel
theorem dX5_digest_111 : decode cX5_digest 111 = .ok (.getfield 66, 3) := by decide +kernel
theorem dX5_digest_114 : decode cX5_digest 114 = .ok (.iconst 0, 1) := by decide +kernel
theorem dX5_digest_115 : decode cX5_digest 115 = .ok (.invokevirtual 138, 3) := by decide +kernel
theorem dX5_digest_118 : decode cX5_digest 118 = .ok (.i2l, 1) := by decide +kernel
theorem dX5_digest_119 : decode cX5_digest 119 = .ok (.invokevirtual 223, 3) := by decide +kernel
theorem dX5_digest_122 : decode cX5_digest 122 = .ok (.aload_n 0, 1) := by decide +kernel
theorem dX5_digest_123 : decode cX5_digest 123 = .ok (.aload_n 0, 1) := by decide +kernel
theorem dX5_digest_124 : decode cX5_digest 124 = .ok (.aload_n 0, 1) := by decide +kernel
theorem dX5_digest_125 : decode cX5_digest 125 = .ok (.getfield 16, 3) := by decide +kernel
theorem dX5_digest_128 : decode cX5_digest 128 = .ok (.aload_n 0, 1) := by decide +kernel
theorem dX5_digest_129 : decode cX5_digest 129 = .ok (.getfield 66, 3) := by decide +kernel
theorem dX5_digest_132 : decode cX5_digest 132 = .ok (.iconst 1, 1) := by decide +kernel
theorem dX5_digest_133 : decode cX5_digest 133 = .ok (.invokevirtual 138, 3) := by decide +kernel
theorem dX5_digest_136 : decode cX5_digest 136 = .ok (.i2l, 1) := by decide +kernel
theorem dX5_digest_137 : decode cX5_digest 137 = .ok (.invokevirtual 223, 3) := by decide +kernel
theorem dX5_digest_140 : decode cX5_digest 140 = .ok (.aload_n 0, 1) := by decide +kernel
theorem dX5_digest_141 : decode cX5_digest 141 = .ok (.aload_n 0, 1) := by decide +kernel
theorem dX5_digest_142 : decode cX5_digest 142 = .ok (.bipush 10, 2) := by decide +kernel
theorem dX5_digest_144 : decode cX5_digest 144 = .ok (.iconst 0, 1) := by decide +kernel
theorem dX5_digest_145 : decode cX5_digest 145 = .ok (.invokevirtual 148, 3) := by decide +kernel
theorem dX5_digest_148 : decode cX5_digest 148 = .ok (.i2l, 1) := by decide +kernel
theorem dX5_digest_149 : decode cX5_digest 149 = .ok (.invokevirtual 223, 3) := by decide +kernel
theorem dX5_digest_152 : decode cX5_digest 152 = .ok (.aload_n 0, 1) := by decide +kernel
theorem dX5_digest_153 : decode cX5_digest 153 = .ok (.aload_n 0, 1) := by decide +kernel
theorem dX5_digest_154 : decode cX5_digest 154 = .ok (.bipush 10, 2) := by decide +kernel
theorem dX5_digest_156 : decode cX5_digest 156 = .ok (.iconst 1, 1) := by decide +kernel
theorem dX5_digest_157 : decode cX5_digest 157 = .ok (.invokevirtual 148, 3) := by decide +kernel
theorem dX5_digest_160 : decode cX5_digest 160 = .ok (.i2l, 1) := by decide +kernel
theorem dX5_digest_161 : decode cX5_digest 161 = .ok (.invokevirtual 223, 3) := by decide +kernel
theorem dX5_digest_164 : decode cX5_digest 164 = .ok (.iconst 0, 1) := by decide +kernel
theorem dX5_digest_165 : decode cX5_digest 165 = .ok (.istore_n 1, 1) := by decide +kernel
theorem dX5_digest_166 : decode cX5_digest 166 = .ok (.iload_n 1, 1) := by decide +kernel
theorem dX5_digest_167 : decode cX5_digest 167 = .ok (.aload_n 0, 1) := by decide +kernel
theorem dX5_digest_168 : decode cX5_digest 168 = .ok (.getfield 44, 3) := by decide +kernel
theorem dX5_digest_171 : decode cX5_digest 171 = .ok (.if_icmp .ge 20, 3) := by decide +kernel
theorem dX5_digest_174 : decode cX5_digest 174 = .ok (.aload_n 0, 1) := by decide +kernel
theorem dX5_digest_175 : decode cX5_digest 175 = .ok (.aload_n 0, 1) := by decide +kernel
theorem dX5_digest_176 : decode cX5_digest 176 = .ok (.getfield 7, 3) := by decide +kernel
theorem dX5_digest_179 : decode cX5_digest 179 = .ok (.iload_n 1, 1) := by decide +kernel
theorem dX5_digest_180 : decode cX5_digest 180 = .ok (.iaload, 1) := by decide +kernel
theorem dX5_digest_181 : decode cX5_digest 181 = .ok (.i2l, 1) := by decide +kernel
theorem dX5_digest_182 : decode cX5_digest 182 = .ok (.invokevirtual 223, 3) := by decide +kernel
theorem dX5_digest_185 : decode cX5_digest 185 = .ok (.iinc 1 1, 3) := by decide +kernel
theorem dX5_digest_188 : decode cX5_digest 188 = .ok (.goto (-22), 3) := by decide +kernel
theorem dX5_digest_191 : decode cX5_digest 191 = .ok (.iconst 0, 1) := by decide +kernel
theorem dX5_digest_192 : decode cX5_digest 192 = .ok (.istore_n 1, 1) := by decide +kernel
theorem dX5_digest_193 : decode cX5_digest 193 = .ok (.iload_n 1, 1) := by decide +kernel
theorem dX5_digest_194 : decode cX5_digest 194 = .ok (.bipush 10, 2) := by decide +kernel
theorem dX5_digest_196 : decode cX5_digest 196 = .ok (.if_icmp .ge 19, 3) := by decide +kernel
theorem dX5_digest_199 : decode cX5_digest 199 = .ok (.aload_n 0, 1) := by decide +kernel
theorem dX5_digest_200 : decode cX5_digest 200 = .ok (.aload_n 0, 1) := by decide +kernel
theorem dX5_digest_201 : decode cX5_digest 201 = .ok (.iload_n 1, 1) := by decide +kernel
theorem dX5_digest_202 : decode cX5_digest 202 = .ok (.invokevirtual 212, 3) := by decide +kernel
theorem dX5_digest_205 : decode cX5_digest 205 = .ok (.i2l, 1) := by decide +kernel
theorem dX5_digest_206 : decode cX5_digest 206 = .ok (.invokevirtual 223, 3) := by decide +kernel
theorem dX5_digest_209 : decode cX5_digest 209 = .ok (.iinc 1 1, 3) := by decide +kernel
theorem dX5_digest_212 : decode cX5_digest 212 = .ok (.goto (-19), 3) := by decide +kernel
theorem dX5_digest_215 : decode cX5_digest 215 = .ok (.aload_n 0, 1) := by decide +kernel
theorem dX5_digest_216 : decode cX5_digest 216 = .ok (.getfield 217, 3) := by decide +kernel
theorem dX5_digest_219 : decode cX5_digest 219 = .ok (.lreturn, 1) := by decide +kernel
theorem dJ9_max_7cf53_0 : decode cJ9_max_7cf53 0 = .ok (.iload_n 0, 1) := by decide +kernel
theorem dJ9_max_7cf53_1 : decode cJ9_max_7cf53 1 = .ok (.iload_n 1, 1) := by decide +kernel
theorem dJ9_max_7cf53_2 : decode cJ9_max_7cf53 2 = .ok (.if_icmp .lt 7, 3) := by decide +kernel
theorem dJ9_max_7cf53_5 : decode cJ9_max_7cf53 5 = .ok (.iload_n 0, 1) := by decide +kernel
theorem dJ9_max_7cf53_6 : decode cJ9_max_7cf53 6 = .ok (.goto 4, 3) := by decide +kernel
theorem dJ9_max_7cf53_9 : decode cJ9_max_7cf53 9 = .ok (.iload_n 1, 1) := by decide +kernel
theorem dJ9_max_7cf53_10 : decode cJ9_max_7cf53 10 = .ok (.ireturn, 1) := by decide +kernel
theorem dL_law_0 : decode cL_law 0 = .ok (.new 7, 3) := by decide +kernel
theorem dL_law_3 : decode cL_law 3 = .ok (.dup, 1) := by decide +kernel
theorem dL_law_4 : decode cL_law 4 = .ok (.invokespecial 9, 3) := by decide +kernel
theorem dL_law_7 : decode cL_law 7 = .ok (.astore_n 1, 1) := by decide +kernel
theorem dL_law_8 : decode cL_law 8 = .ok (.new 10, 3) := by decide +kernel
theorem dL_law_11 : decode cL_law 11 = .ok (.dup, 1) := by decide +kernel
theorem dL_law_12 : decode cL_law 12 = .ok (.invokespecial 12, 3) := by decide +kernel
theorem dL_law_15 : decode cL_law 15 = .ok (.astore_n 2, 1) := by decide +kernel
theorem dL_law_16 : decode cL_law 16 = .ok (.iconst 0, 1) := by decide +kernel
theorem dL_law_17 : decode cL_law 17 = .ok (.istore_n 3, 1) := by decide +kernel
theorem dL_law_18 : decode cL_law 18 = .ok (.iload_n 3, 1) := by decide +kernel
theorem dL_law_19 : decode cL_law 19 = .ok (.aload_n 0, 1) := by decide +kernel
theorem dL_law_20 : decode cL_law 20 = .ok (.arraylength, 1) := by decide +kernel
theorem dL_law_21 : decode cL_law 21 = .ok (.iconst 4, 1) := by decide +kernel
theorem dL_law_22 : decode cL_law 22 = .ok (.isub, 1) := by decide +kernel
theorem dL_law_23 : decode cL_law 23 = .ok (.if_icmp .gt 662, 3) := by decide +kernel
theorem dL_law_26 : decode cL_law 26 = .ok (.aload_n 0, 1) := by decide +kernel
theorem dL_law_27 : decode cL_law 27 = .ok (.iload_n 3, 1) := by decide +kernel
theorem dL_law_28 : decode cL_law 28 = .ok (.iaload, 1) := by decide +kernel
theorem dL_law_29 : decode cL_law 29 = .ok (.bipush 31, 2) := by decide +kernel
theorem dL_law_31 : decode cL_law 31 = .ok (.iand, 1) := by decide +kernel
theorem dL_law_32 : decode cL_law 32 = .ok (.tableswitch 647 0 21 #[104, 127, 140, 153, 166, 199, 232, 255, 278, 311, 334, 357, 380, 413, 446, 469, 528, 541, 584, 597, 610, 633], 104) := by decide +kernel
theorem dL_law_136 : decode cL_law 136 = .ok (.aload_n 1, 1) := by decide +kernel
theorem dL_law_137 : decode cL_law 137 = .ok (.aload_n 0, 1) := by decide +kernel
theorem dL_law_138 : decode cL_law 138 = .ok (.iload_n 3, 1) := by decide +kernel
theorem dL_law_139 : decode cL_law 139 = .ok (.iconst 1, 1) := by decide +kernel
theorem dL_law_140 : decode cL_law 140 = .ok (.iadd, 1) := by decide +kernel
theorem dL_law_141 : decode cL_law 141 = .ok (.iaload, 1) := by decide +kernel
theorem dL_law_142 : decode cL_law 142 = .ok (.invokevirtual 13, 3) := by decide +kernel
theorem dL_law_145 : decode cL_law 145 = .ok (.aload_n 2, 1) := by decide +kernel
theorem dL_law_146 : decode cL_law 146 = .ok (.aload_n 0, 1) := by decide +kernel
theorem dL_law_147 : decode cL_law 147 = .ok (.iload_n 3, 1) := by decide +kernel
theorem dL_law_148 : decode cL_law 148 = .ok (.iconst 1, 1) := by decide +kernel
theorem dL_law_149 : decode cL_law 149 = .ok (.iadd, 1) := by decide +kernel
theorem dL_law_150 : decode cL_law 150 = .ok (.iaload, 1) := by decide +kernel
theorem dL_law_151 : decode cL_law 151 = .ok (.invokevirtual 17, 3) := by decide +kernel
theorem dL_law_154 : decode cL_law 154 = .ok (.if_icmp .eq 525, 3) := by decide +kernel
theorem dL_law_157 : decode cL_law 157 = .ok (.iconst 0, 1) := by decide +kernel
theorem dL_law_158 : decode cL_law 158 = .ok (.ireturn, 1) := by decide +kernel
theorem dL_law_159 : decode cL_law 159 = .ok (.aload_n 1, 1) := by decide +kernel
theorem dL_law_160 : decode cL_law 160 = .ok (.invokevirtual 18, 3) := by decide +kernel
theorem dL_law_163 : decode cL_law 163 = .ok (.aload_n 2, 1) := by decide +kernel
theorem dL_law_164 : decode cL_law 164 = .ok (.invokevirtual 22, 3) := by decide +kernel
theorem dL_law_167 : decode cL_law 167 = .ok (.if_icmp .eq 512, 3) := by decide +kernel
theorem dL_law_170 : decode cL_law 170 = .ok (.iconst 0, 1) := by decide +kernel
theorem dL_law_171 : decode cL_law 171 = .ok (.ireturn, 1) := by decide +kernel
theorem dL_law_172 : decode cL_law 172 = .ok (.aload_n 1, 1) := by decide +kernel
theorem dL_law_173 : decode cL_law 173 = .ok (.invokevirtual 23, 3) := by decide +kernel
theorem dL_law_176 : decode cL_law 176 = .ok (.aload_n 2, 1) := by decide +kernel
theorem dL_law_177 : decode cL_law 177 = .ok (.invokevirtual 26, 3) := by decide +kernel
theorem dL_law_180 : decode cL_law 180 = .ok (.if_icmp .eq 499, 3) := by decide +kernel
theorem dL_law_183 : decode cL_law 183 = .ok (.iconst 0, 1) := by decide +kernel
theorem dL_law_184 : decode cL_law 184 = .ok (.ireturn, 1) := by decide +kernel
theorem dL_law_185 : decode cL_law 185 = .ok (.aload_n 1, 1) := by decide +kernel
theorem dL_law_186 : decode cL_law 186 = .ok (.invokevirtual 27, 3) := by decide +kernel
theorem dL_law_189 : decode cL_law 189 = .ok (.aload_n 2, 1) := by decide +kernel
theorem dL_law_190 : decode cL_law 190 = .ok (.invokevirtual 30, 3) := by decide +kernel
theorem dL_law_193 : decode cL_law 193 = .ok (.if_icmp .eq 486, 3) := by decide +kernel
theorem dL_law_196 : decode cL_law 196 = .ok (.iconst 0, 1) := by decide +kernel
theorem dL_law_197 : decode cL_law 197 = .ok (.ireturn, 1) := by decide +kernel
theorem dL_law_198 : decode cL_law 198 = .ok (.aload_n 1, 1) := by decide +kernel
theorem dL_law_199 : decode cL_law 199 = .ok (.aload_n 0, 1) := by decide +kernel
theorem dL_law_200 : decode cL_law 200 = .ok (.iload_n 3, 1) := by decide +kernel
theorem dL_law_201 : decode cL_law 201 = .ok (.iconst 1, 1) := by decide +kernel
theorem dL_law_202 : decode cL_law 202 = .ok (.iadd, 1) := by decide +kernel
theorem dL_law_203 : decode cL_law 203 = .ok (.iaload, 1) := by decide +kernel
theorem dL_law_204 : decode cL_law 204 = .ok (.aload_n 0, 1) := by decide +kernel
theorem dL_law_205 : decode cL_law 205 = .ok (.iload_n 3, 1) := by decide +kernel
theorem dL_law_206 : decode cL_law 206 = .ok (.iconst 2, 1) := by decide +kernel
theorem dL_law_207 : decode cL_law 207 = .ok (.iadd, 1) := by decide +kernel
theorem dL_law_208 : decode cL_law 208 = .ok (.iaload, 1) := by decide +kernel
theorem dL_law_209 : decode cL_law 209 = .ok (.invokevirtual 31, 3) := by decide +kernel
theorem dL_law_212 : decode cL_law 212 = .ok (.aload_n 2, 1) := by decide +kernel
theorem dL_law_213 : decode cL_law 213 = .ok (.aload_n 0, 1) := by decide +kernel
theorem dL_law_214 : decode cL_law 214 = .ok (.iload_n 3, 1) := by decide +kernel
theorem dL_law_215 : decode cL_law 215 = .ok (.iconst 1, 1) := by decide +kernel
theorem dL_law_216 : decode cL_law 216 = .ok (.iadd, 1) := by decide +kernel
theorem dL_law_217 : decode cL_law 217 = .ok (.iaload, 1) := by decide +kernel
theorem dL_law_218 : decode cL_law 218 = .ok (.aload_n 0, 1) := by decide +kernel
theorem dL_law_219 : decode cL_law 219 = .ok (.iload_n 3, 1) := by decide +kernel
theorem dL_law_220 : decode cL_law 220 = .ok (.iconst 2, 1) := by decide +kernel
theorem dL_law_221 : decode cL_law 221 = .ok (.iadd, 1) := by decide +kernel
theorem dL_law_222 : decode cL_law 222 = .ok (.iaload, 1) := by decide +kernel
theorem dL_law_223 : decode cL_law 223 = .ok (.invokevirtual 35, 3) := by decide +kernel
theorem dL_law_226 : decode cL_law 226 = .ok (.if_icmp .eq 453, 3) := by decide +kernel
theorem dL_law_229 : decode cL_law 229 = .ok (.iconst 0, 1) := by decide +kernel
theorem dL_law_230 : decode cL_law 230 = .ok (.ireturn, 1) := by decide +kernel
theorem dL_law_231 : decode cL_law 231 = .ok (.aload_n 1, 1) := by decide +kernel
theorem dL_law_232 : decode cL_law 232 = .ok (.aload_n 0, 1) := by decide +kernel
theorem dL_law_233 : decode cL_law 233 = .ok (.iload_n 3, 1) := by decide +kernel
theorem dL_law_234 : decode cL_law 234 = .ok (.iconst 1, 1) := by decide +kernel
theorem dL_law_235 : decode cL_law 235 = .ok (.iadd, 1) := by decide +kernel
theorem dL_law_236 : decode cL_law 236 = .ok (.iaload, 1) := by decide +kernel
theorem dL_law_237 : decode cL_law 237 = .ok (.aload_n 0, 1) := by decide +kernel
theorem dL_law_238 : decode cL_law 238 = .ok (.iload_n 3, 1) := by decide +kernel
theorem dL_law_239 : decode cL_law 239 = .ok (.iconst 2, 1) := by decide +kernel
theorem dL_law_240 : decode cL_law 240 = .ok (.iadd, 1) := by decide +kernel
theorem dL_law_241 : decode cL_law 241 = .ok (.iaload, 1) := by decide +kernel
theorem dL_law_242 : decode cL_law 242 = .ok (.invokevirtual 36, 3) := by decide +kernel
theorem dL_law_245 : decode cL_law 245 = .ok (.aload_n 2, 1) := by decide +kernel
theorem dL_law_246 : decode cL_law 246 = .ok (.aload_n 0, 1) := by decide +kernel
theorem dL_law_247 : decode cL_law 247 = .ok (.iload_n 3, 1) := by decide +kernel
theorem dL_law_248 : decode cL_law 248 = .ok (.iconst 1, 1) := by decide +kernel
theorem dL_law_249 : decode cL_law 249 = .ok (.iadd, 1) := by decide +kernel
theorem dL_law_250 : decode cL_law 250 = .ok (.iaload, 1) := by decide +kernel
theorem dL_law_251 : decode cL_law 251 = .ok (.aload_n 0, 1) := by decide +kernel
theorem dL_law_252 : decode cL_law 252 = .ok (.iload_n 3, 1) := by decide +kernel
theorem dL_law_253 : decode cL_law 253 = .ok (.iconst 2, 1) := by decide +kernel
theorem dL_law_254 : decode cL_law 254 = .ok (.iadd, 1) := by decide +kernel
theorem dL_law_255 : decode cL_law 255 = .ok (.iaload, 1) := by decide +kernel
theorem dL_law_256 : decode cL_law 256 = .ok (.invokevirtual 39, 3) := by decide +kernel
theorem dL_law_259 : decode cL_law 259 = .ok (.if_icmp .eq 420, 3) := by decide +kernel
theorem dL_law_262 : decode cL_law 262 = .ok (.iconst 0, 1) := by decide +kernel
theorem dL_law_263 : decode cL_law 263 = .ok (.ireturn, 1) := by decide +kernel
theorem dL_law_264 : decode cL_law 264 = .ok (.aload_n 1, 1) := by decide +kernel
theorem dL_law_265 : decode cL_law 265 = .ok (.aload_n 0, 1) := by decide +kernel
theorem dL_law_266 : decode cL_law 266 = .ok (.iload_n 3, 1) := by decide +kernel
theorem dL_law_267 : decode cL_law 267 = .ok (.iconst 1, 1) := by decide +kernel
theorem dL_law_268 : decode cL_law 268 = .ok (.iadd, 1) := by decide +kernel
theorem dL_law_269 : decode cL_law 269 = .ok (.iaload, 1) := by decide +kernel
theorem dL_law_270 : decode cL_law 270 = .ok (.invokevirtual 40, 3) := by decide +kernel
theorem dL_law_273 : decode cL_law 273 = .ok (.aload_n 2, 1) := by decide +kernel
theorem dL_law_274 : decode cL_law 274 = .ok (.aload_n 0, 1) := by decide +kernel
theorem dL_law_275 : decode cL_law 275 = .ok (.iload_n 3, 1) := by decide +kernel
theorem dL_law_276 : decode cL_law 276 = .ok (.iconst 1, 1) := by decide +kernel
theorem dL_law_277 : decode cL_law 277 = .ok (.iadd, 1) := by decide +kernel
theorem dL_law_278 : decode cL_law 278 = .ok (.iaload, 1) := by decide +kernel
theorem dL_law_279 : decode cL_law 279 = .ok (.invokevirtual 43, 3) := by decide +kernel
theorem dL_law_282 : decode cL_law 282 = .ok (.if_icmp .eq 397, 3) := by decide +kernel
theorem dL_law_285 : decode cL_law 285 = .ok (.iconst 0, 1) := by decide +kernel
theorem dL_law_286 : decode cL_law 286 = .ok (.ireturn, 1) := by decide +kernel
theorem dL_law_287 : decode cL_law 287 = .ok (.aload_n 1, 1) := by decide +kernel
theorem dL_law_288 : decode cL_law 288 = .ok (.aload_n 0, 1) := by decide +kernel
theorem dL_law_289 : decode cL_law 289 = .ok (.iload_n 3, 1) := by decide +kernel
theorem dL_law_290 : decode cL_law 290 = .ok (.iconst 1, 1) := by decide +kernel
theorem dL_law_291 : decode cL_law 291 = .ok (.iadd, 1) := by decide +kernel
theorem dL_law_292 : decode cL_law 292 = .ok (.iaload, 1) := by decide +kernel
theorem dL_law_293 : decode cL_law 293 = .ok (.invokevirtual 44, 3) := by decide +kernel
theorem dL_law_296 : decode cL_law 296 = .ok (.aload_n 2, 1) := by decide +kernel
theorem dL_law_297 : decode cL_law 297 = .ok (.aload_n 0, 1) := by decide +kernel
theorem dL_law_298 : decode cL_law 298 = .ok (.iload_n 3, 1) := by decide +kernel
theorem dL_law_299 : decode cL_law 299 = .ok (.iconst 1, 1) := by decide +kernel
theorem dL_law_300 : decode cL_law 300 = .ok (.iadd, 1) := by decide +kernel
theorem dL_law_301 : decode cL_law 301 = .ok (.iaload, 1) := by decide +kernel
theorem dL_law_302 : decode cL_law 302 = .ok (.invokevirtual 47, 3) := by decide +kernel
theorem dL_law_305 : decode cL_law 305 = .ok (.if_icmp .eq 374, 3) := by decide +kernel
theorem dL_law_308 : decode cL_law 308 = .ok (.iconst 0, 1) := by decide +kernel
theorem dL_law_309 : decode cL_law 309 = .ok (.ireturn, 1) := by decide +kernel
theorem dL_law_310 : decode cL_law 310 = .ok (.aload_n 1, 1) := by decide +kernel
theorem dL_law_311 : decode cL_law 311 = .ok (.aload_n 0, 1) := by decide +kernel
theorem dL_law_312 : decode cL_law 312 = .ok (.iload_n 3, 1) := by decide +kernel
theorem dL_law_313 : decode cL_law 313 = .ok (.iconst 1, 1) := by decide +kernel
theorem dL_law_314 : decode cL_law 314 = .ok (.iadd, 1) := by decide +kernel
theorem dL_law_315 : decode cL_law 315 = .ok (.iaload, 1) := by decide +kernel
theorem dL_law_316 : decode cL_law 316 = .ok (.aload_n 0, 1) := by decide +kernel
theorem dL_law_317 : decode cL_law 317 = .ok (.iload_n 3, 1) := by decide +kernel
theorem dL_law_318 : decode cL_law 318 = .ok (.iconst 2, 1) := by decide +kernel
theorem dL_law_319 : decode cL_law 319 = .ok (.iadd, 1) := by decide +kernel
theorem dL_law_320 : decode cL_law 320 = .ok (.iaload, 1) := by decide +kernel
theorem dL_law_321 : decode cL_law 321 = .ok (.invokevirtual 48, 3) := by decide +kernel
theorem dL_law_324 : decode cL_law 324 = .ok (.aload_n 2, 1) := by decide +kernel
theorem dL_law_325 : decode cL_law 325 = .ok (.aload_n 0, 1) := by decide +kernel
theorem dL_law_326 : decode cL_law 326 = .ok (.iload_n 3, 1) := by decide +kernel
theorem dL_law_327 : decode cL_law 327 = .ok (.iconst 1, 1) := by decide +kernel
theorem dL_law_328 : decode cL_law 328 = .ok (.iadd, 1) := by decide +kernel
theorem dL_law_329 : decode cL_law 329 = .ok (.iaload, 1) := by decide +kernel
theorem dL_law_330 : decode cL_law 330 = .ok (.aload_n 0, 1) := by decide +kernel
theorem dL_law_331 : decode cL_law 331 = .ok (.iload_n 3, 1) := by decide +kernel
theorem dL_law_332 : decode cL_law 332 = .ok (.iconst 2, 1) := by decide +kernel
theorem dL_law_333 : decode cL_law 333 = .ok (.iadd, 1) := by decide +kernel
theorem dL_law_334 : decode cL_law 334 = .ok (.iaload, 1) := by decide +kernel
theorem dL_law_335 : decode cL_law 335 = .ok (.invokevirtual 51, 3) := by decide +kernel
theorem dL_law_338 : decode cL_law 338 = .ok (.if_icmp .eq 341, 3) := by decide +kernel
theorem dL_law_341 : decode cL_law 341 = .ok (.iconst 0, 1) := by decide +kernel
theorem dL_law_342 : decode cL_law 342 = .ok (.ireturn, 1) := by decide +kernel
theorem dL_law_343 : decode cL_law 343 = .ok (.aload_n 1, 1) := by decide +kernel
theorem dL_law_344 : decode cL_law 344 = .ok (.aload_n 0, 1) := by decide +kernel
theorem dL_law_345 : decode cL_law 345 = .ok (.iload_n 3, 1) := by decide +kernel
theorem dL_law_346 : decode cL_law 346 = .ok (.iconst 1, 1) := by decide +kernel
theorem dL_law_347 : decode cL_law 347 = .ok (.iadd, 1) := by decide +kernel
theorem dL_law_348 : decode cL_law 348 = .ok (.iaload, 1) := by decide +kernel
theorem dL_law_349 : decode cL_law 349 = .ok (.invokevirtual 52, 3) := by decide +kernel
theorem dL_law_352 : decode cL_law 352 = .ok (.aload_n 2, 1) := by decide +kernel
theorem dL_law_353 : decode cL_law 353 = .ok (.aload_n 0, 1) := by decide +kernel
theorem dL_law_354 : decode cL_law 354 = .ok (.iload_n 3, 1) := by decide +kernel
theorem dL_law_355 : decode cL_law 355 = .ok (.iconst 1, 1) := by decide +kernel
theorem dL_law_356 : decode cL_law 356 = .ok (.iadd, 1) := by decide +kernel
theorem dL_law_357 : decode cL_law 357 = .ok (.iaload, 1) := by decide +kernel
theorem dL_law_358 : decode cL_law 358 = .ok (.invokevirtual 55, 3) := by decide +kernel
theorem dL_law_361 : decode cL_law 361 = .ok (.if_icmp .eq 318, 3) := by decide +kernel
theorem dL_law_364 : decode cL_law 364 = .ok (.iconst 0, 1) := by decide +kernel
theorem dL_law_365 : decode cL_law 365 = .ok (.ireturn, 1) := by decide +kernel
theorem dL_law_366 : decode cL_law 366 = .ok (.aload_n 1, 1) := by decide +kernel
theorem dL_law_367 : decode cL_law 367 = .ok (.aload_n 0, 1) := by decide +kernel
theorem dL_law_368 : decode cL_law 368 = .ok (.iload_n 3, 1) := by decide +kernel
theorem dL_law_369 : decode cL_law 369 = .ok (.iconst 1, 1) := by decide +kernel
theorem dL_law_370 : decode cL_law 370 = .ok (.iadd, 1) := by decide +kernel
theorem dL_law_371 : decode cL_law 371 = .ok (.iaload, 1) := by decide +kernel
theorem dL_law_372 : decode cL_law 372 = .ok (.invokevirtual 56, 3) := by decide +kernel
theorem dL_law_375 : decode cL_law 375 = .ok (.aload_n 2, 1) := by decide +kernel
theorem dL_law_376 : decode cL_law 376 = .ok (.aload_n 0, 1) := by decide +kernel
theorem dL_law_377 : decode cL_law 377 = .ok (.iload_n 3, 1) := by decide +kernel
theorem dL_law_378 : decode cL_law 378 = .ok (.iconst 1, 1) := by decide +kernel
theorem dL_law_379 : decode cL_law 379 = .ok (.iadd, 1) := by decide +kernel
theorem dL_law_380 : decode cL_law 380 = .ok (.iaload, 1) := by decide +kernel
theorem dL_law_381 : decode cL_law 381 = .ok (.invokevirtual 59, 3) := by decide +kernel
theorem dL_law_384 : decode cL_law 384 = .ok (.if_icmp .eq 295, 3) := by decide +kernel
theorem dL_law_387 : decode cL_law 387 = .ok (.iconst 0, 1) := by decide +kernel
theorem dL_law_388 : decode cL_law 388 = .ok (.ireturn, 1) := by decide +kernel
theorem dL_law_389 : decode cL_law 389 = .ok (.aload_n 1, 1) := by decide +kernel
theorem dL_law_390 : decode cL_law 390 = .ok (.aload_n 0, 1) := by decide +kernel
theorem dL_law_391 : decode cL_law 391 = .ok (.iload_n 3, 1) := by decide +kernel
theorem dL_law_392 : decode cL_law 392 = .ok (.iconst 1, 1) := by decide +kernel
theorem dL_law_393 : decode cL_law 393 = .ok (.iadd, 1) := by decide +kernel
theorem dL_law_394 : decode cL_law 394 = .ok (.iaload, 1) := by decide +kernel
theorem dL_law_395 : decode cL_law 395 = .ok (.invokevirtual 60, 3) := by decide +kernel
theorem dL_law_398 : decode cL_law 398 = .ok (.aload_n 2, 1) := by decide +kernel
theorem dL_law_399 : decode cL_law 399 = .ok (.aload_n 0, 1) := by decide +kernel
theorem dL_law_400 : decode cL_law 400 = .ok (.iload_n 3, 1) := by decide +kernel
theorem dL_law_401 : decode cL_law 401 = .ok (.iconst 1, 1) := by decide +kernel
theorem dL_law_402 : decode cL_law 402 = .ok (.iadd, 1) := by decide +kernel
theorem dL_law_403 : decode cL_law 403 = .ok (.iaload, 1) := by decide +kernel
theorem dL_law_404 : decode cL_law 404 = .ok (.invokevirtual 63, 3) := by decide +kernel
theorem dL_law_407 : decode cL_law 407 = .ok (.if_icmp .eq 272, 3) := by decide +kernel
theorem dL_law_410 : decode cL_law 410 = .ok (.iconst 0, 1) := by decide +kernel
theorem dL_law_411 : decode cL_law 411 = .ok (.ireturn, 1) := by decide +kernel
theorem dL_law_412 : decode cL_law 412 = .ok (.aload_n 1, 1) := by decide +kernel
theorem dL_law_413 : decode cL_law 413 = .ok (.aload_n 0, 1) := by decide +kernel
theorem dL_law_414 : decode cL_law 414 = .ok (.iload_n 3, 1) := by decide +kernel
theorem dL_law_415 : decode cL_law 415 = .ok (.iconst 1, 1) := by decide +kernel
theorem dL_law_416 : decode cL_law 416 = .ok (.iadd, 1) := by decide +kernel
theorem dL_law_417 : decode cL_law 417 = .ok (.iaload, 1) := by decide +kernel
theorem dL_law_418 : decode cL_law 418 = .ok (.aload_n 0, 1) := by decide +kernel
theorem dL_law_419 : decode cL_law 419 = .ok (.iload_n 3, 1) := by decide +kernel
theorem dL_law_420 : decode cL_law 420 = .ok (.iconst 2, 1) := by decide +kernel
theorem dL_law_421 : decode cL_law 421 = .ok (.iadd, 1) := by decide +kernel
theorem dL_law_422 : decode cL_law 422 = .ok (.iaload, 1) := by decide +kernel
theorem dL_law_423 : decode cL_law 423 = .ok (.invokevirtual 64, 3) := by decide +kernel
theorem dL_law_426 : decode cL_law 426 = .ok (.aload_n 2, 1) := by decide +kernel
theorem dL_law_427 : decode cL_law 427 = .ok (.aload_n 0, 1) := by decide +kernel
theorem dL_law_428 : decode cL_law 428 = .ok (.iload_n 3, 1) := by decide +kernel
theorem dL_law_429 : decode cL_law 429 = .ok (.iconst 1, 1) := by decide +kernel
theorem dL_law_430 : decode cL_law 430 = .ok (.iadd, 1) := by decide +kernel
theorem dL_law_431 : decode cL_law 431 = .ok (.iaload, 1) := by decide +kernel
theorem dL_law_432 : decode cL_law 432 = .ok (.aload_n 0, 1) := by decide +kernel
theorem dL_law_433 : decode cL_law 433 = .ok (.iload_n 3, 1) := by decide +kernel
theorem dL_law_434 : decode cL_law 434 = .ok (.iconst 2, 1) := by decide +kernel
theorem dL_law_435 : decode cL_law 435 = .ok (.iadd, 1) := by decide +kernel
theorem dL_law_436 : decode cL_law 436 = .ok (.iaload, 1) := by decide +kernel
theorem dL_law_437 : decode cL_law 437 = .ok (.invokevirtual 67, 3) := by decide +kernel
theorem dL_law_440 : decode cL_law 440 = .ok (.if_icmp .eq 239, 3) := by decide +kernel
theorem dL_law_443 : decode cL_law 443 = .ok (.iconst 0, 1) := by decide +kernel
theorem dL_law_444 : decode cL_law 444 = .ok (.ireturn, 1) := by decide +kernel
theorem dL_law_445 : decode cL_law 445 = .ok (.aload_n 1, 1) := by decide +kernel
theorem dL_law_446 : decode cL_law 446 = .ok (.aload_n 0, 1) := by decide +kernel
theorem dL_law_447 : decode cL_law 447 = .ok (.iload_n 3, 1) := by decide +kernel
theorem dL_law_448 : decode cL_law 448 = .ok (.iconst 1, 1) := by decide +kernel
theorem dL_law_449 : decode cL_law 449 = .ok (.iadd, 1) := by decide +kernel
theorem dL_law_450 : decode cL_law 450 = .ok (.iaload, 1) := by decide +kernel
theorem dL_law_451 : decode cL_law 451 = .ok (.aload_n 0, 1) := by decide +kernel
theorem dL_law_452 : decode cL_law 452 = .ok (.iload_n 3, 1) := by decide +kernel
theorem dL_law_453 : decode cL_law 453 = .ok (.iconst 2, 1) := by decide +kernel
theorem dL_law_454 : decode cL_law 454 = .ok (.iadd, 1) := by decide +kernel
theorem dL_law_455 : decode cL_law 455 = .ok (.iaload, 1) := by decide +kernel
theorem dL_law_456 : decode cL_law 456 = .ok (.invokevirtual 68, 3) := by decide +kernel
theorem dL_law_459 : decode cL_law 459 = .ok (.aload_n 2, 1) := by decide +kernel
theorem dL_law_460 : decode cL_law 460 = .ok (.aload_n 0, 1) := by decide +kernel
theorem dL_law_461 : decode cL_law 461 = .ok (.iload_n 3, 1) := by decide +kernel
theorem dL_law_462 : decode cL_law 462 = .ok (.iconst 1, 1) := by decide +kernel
theorem dL_law_463 : decode cL_law 463 = .ok (.iadd, 1) := by decide +kernel
theorem dL_law_464 : decode cL_law 464 = .ok (.iaload, 1) := by decide +kernel
theorem dL_law_465 : decode cL_law 465 = .ok (.aload_n 0, 1) := by decide +kernel
theorem dL_law_466 : decode cL_law 466 = .ok (.iload_n 3, 1) := by decide +kernel
theorem dL_law_467 : decode cL_law 467 = .ok (.iconst 2, 1) := by decide +kernel
theorem dL_law_468 : decode cL_law 468 = .ok (.iadd, 1) := by decide +kernel
theorem dL_law_469 : decode cL_law 469 = .ok (.iaload, 1) := by decide +kernel
theorem dL_law_470 : decode cL_law 470 = .ok (.invokevirtual 71, 3) := by decide +kernel
theorem dL_law_473 : decode cL_law 473 = .ok (.if_icmp .eq 206, 3) := by decide +kernel
theorem dL_law_476 : decode cL_law 476 = .ok (.iconst 0, 1) := by decide +kernel
theorem dL_law_477 : decode cL_law 477 = .ok (.ireturn, 1) := by decide +kernel
theorem dL_law_478 : decode cL_law 478 = .ok (.aload_n 1, 1) := by decide +kernel
theorem dL_law_479 : decode cL_law 479 = .ok (.aload_n 0, 1) := by decide +kernel
theorem dL_law_480 : decode cL_law 480 = .ok (.iload_n 3, 1) := by decide +kernel
theorem dL_law_481 : decode cL_law 481 = .ok (.iconst 1, 1) := by decide +kernel
theorem dL_law_482 : decode cL_law 482 = .ok (.iadd, 1) := by decide +kernel
theorem dL_law_483 : decode cL_law 483 = .ok (.iaload, 1) := by decide +kernel
theorem dL_law_484 : decode cL_law 484 = .ok (.invokevirtual 72, 3) := by decide +kernel
theorem dL_law_487 : decode cL_law 487 = .ok (.aload_n 2, 1) := by decide +kernel
theorem dL_law_488 : decode cL_law 488 = .ok (.aload_n 0, 1) := by decide +kernel
theorem dL_law_489 : decode cL_law 489 = .ok (.iload_n 3, 1) := by decide +kernel
theorem dL_law_490 : decode cL_law 490 = .ok (.iconst 1, 1) := by decide +kernel
theorem dL_law_491 : decode cL_law 491 = .ok (.iadd, 1) := by decide +kernel
theorem dL_law_492 : decode cL_law 492 = .ok (.iaload, 1) := by decide +kernel
theorem dL_law_493 : decode cL_law 493 = .ok (.invokevirtual 75, 3) := by decide +kernel
theorem dL_law_496 : decode cL_law 496 = .ok (.if_icmp .eq 183, 3) := by decide +kernel
theorem dL_law_499 : decode cL_law 499 = .ok (.iconst 0, 1) := by decide +kernel
theorem dL_law_500 : decode cL_law 500 = .ok (.ireturn, 1) := by decide +kernel
theorem dL_law_501 : decode cL_law 501 = .ok (.aload_n 1, 1) := by decide +kernel
theorem dL_law_502 : decode cL_law 502 = .ok (.aload_n 0, 1) := by decide +kernel
theorem dL_law_503 : decode cL_law 503 = .ok (.iload_n 3, 1) := by decide +kernel
theorem dL_law_504 : decode cL_law 504 = .ok (.iconst 1, 1) := by decide +kernel
theorem dL_law_505 : decode cL_law 505 = .ok (.iadd, 1) := by decide +kernel
theorem dL_law_506 : decode cL_law 506 = .ok (.iaload, 1) := by decide +kernel
theorem dL_law_507 : decode cL_law 507 = .ok (.aload_n 0, 1) := by decide +kernel
theorem dL_law_508 : decode cL_law 508 = .ok (.iload_n 3, 1) := by decide +kernel
theorem dL_law_509 : decode cL_law 509 = .ok (.iconst 2, 1) := by decide +kernel
theorem dL_law_510 : decode cL_law 510 = .ok (.iadd, 1) := by decide +kernel
theorem dL_law_511 : decode cL_law 511 = .ok (.iaload, 1) := by decide +kernel
theorem dL_law_512 : decode cL_law 512 = .ok (.aload_n 0, 1) := by decide +kernel
theorem dL_law_513 : decode cL_law 513 = .ok (.iload_n 3, 1) := by decide +kernel
theorem dL_law_514 : decode cL_law 514 = .ok (.iconst 3, 1) := by decide +kernel
theorem dL_law_515 : decode cL_law 515 = .ok (.iadd, 1) := by decide +kernel
theorem dL_law_516 : decode cL_law 516 = .ok (.iaload, 1) := by decide +kernel
theorem dL_law_517 : decode cL_law 517 = .ok (.ifCond .eq 7, 3) := by decide +kernel
theorem dL_law_520 : decode cL_law 520 = .ok (.iconst 1, 1) := by decide +kernel
theorem dL_law_521 : decode cL_law 521 = .ok (.goto 4, 3) := by decide +kernel
theorem dL_law_524 : decode cL_law 524 = .ok (.iconst 0, 1) := by decide +kernel
theorem dL_law_525 : decode cL_law 525 = .ok (.invokevirtual 76, 3) := by decide +kernel
theorem dL_law_528 : decode cL_law 528 = .ok (.aload_n 2, 1) := by decide +kernel
theorem dL_law_529 : decode cL_law 529 = .ok (.aload_n 0, 1) := by decide +kernel
theorem dL_law_530 : decode cL_law 530 = .ok (.iload_n 3, 1) := by decide +kernel
theorem dL_law_531 : decode cL_law 531 = .ok (.iconst 1, 1) := by decide +kernel
theorem dL_law_532 : decode cL_law 532 = .ok (.iadd, 1) := by decide +kernel
theorem dL_law_533 : decode cL_law 533 = .ok (.iaload, 1) := by decide +kernel
theorem dL_law_534 : decode cL_law 534 = .ok (.aload_n 0, 1) := by decide +kernel
theorem dL_law_535 : decode cL_law 535 = .ok (.iload_n 3, 1) := by decide +kernel
theorem dL_law_536 : decode cL_law 536 = .ok (.iconst 2, 1) := by decide +kernel
theorem dL_law_537 : decode cL_law 537 = .ok (.iadd, 1) := by decide +kernel
theorem dL_law_538 : decode cL_law 538 = .ok (.iaload, 1) := by decide +kernel
theorem dL_law_539 : decode cL_law 539 = .ok (.aload_n 0, 1) := by decide +kernel
theorem dL_law_540 : decode cL_law 540 = .ok (.iload_n 3, 1) := by decide +kernel
theorem dL_law_541 : decode cL_law 541 = .ok (.iconst 3, 1) := by decide +kernel
theorem dL_law_542 : decode cL_law 542 = .ok (.iadd, 1) := by decide +kernel
theorem dL_law_543 : decode cL_law 543 = .ok (.iaload, 1) := by decide +kernel
theorem dL_law_544 : decode cL_law 544 = .ok (.ifCond .eq 7, 3) := by decide +kernel
theorem dL_law_547 : decode cL_law 547 = .ok (.iconst 1, 1) := by decide +kernel
theorem dL_law_548 : decode cL_law 548 = .ok (.goto 4, 3) := by decide +kernel
theorem dL_law_551 : decode cL_law 551 = .ok (.iconst 0, 1) := by decide +kernel
theorem dL_law_552 : decode cL_law 552 = .ok (.invokevirtual 80, 3) := by decide +kernel
theorem dL_law_555 : decode cL_law 555 = .ok (.if_icmp .eq 124, 3) := by decide +kernel
theorem dL_law_558 : decode cL_law 558 = .ok (.iconst 0, 1) := by decide +kernel
theorem dL_law_559 : decode cL_law 559 = .ok (.ireturn, 1) := by decide +kernel
theorem dL_law_560 : decode cL_law 560 = .ok (.aload_n 1, 1) := by decide +kernel
theorem dL_law_561 : decode cL_law 561 = .ok (.invokevirtual 81, 3) := by decide +kernel
theorem dL_law_564 : decode cL_law 564 = .ok (.aload_n 2, 1) := by decide +kernel
theorem dL_law_565 : decode cL_law 565 = .ok (.invokevirtual 84, 3) := by decide +kernel
theorem dL_law_568 : decode cL_law 568 = .ok (.if_icmp .eq 111, 3) := by decide +kernel
theorem dL_law_571 : decode cL_law 571 = .ok (.iconst 0, 1) := by decide +kernel
theorem dL_law_572 : decode cL_law 572 = .ok (.ireturn, 1) := by decide +kernel
theorem dL_law_573 : decode cL_law 573 = .ok (.aload_n 1, 1) := by decide +kernel
theorem dL_law_574 : decode cL_law 574 = .ok (.aload_n 0, 1) := by decide +kernel
theorem dL_law_575 : decode cL_law 575 = .ok (.iload_n 3, 1) := by decide +kernel
theorem dL_law_576 : decode cL_law 576 = .ok (.iconst 1, 1) := by decide +kernel
theorem dL_law_577 : decode cL_law 577 = .ok (.iadd, 1) := by decide +kernel
theorem dL_law_578 : decode cL_law 578 = .ok (.iaload, 1) := by decide +kernel
theorem dL_law_579 : decode cL_law 579 = .ok (.aload_n 0, 1) := by decide +kernel
theorem dL_law_580 : decode cL_law 580 = .ok (.iload_n 3, 1) := by decide +kernel
theorem dL_law_581 : decode cL_law 581 = .ok (.iconst 2, 1) := by decide +kernel
theorem dL_law_582 : decode cL_law 582 = .ok (.iadd, 1) := by decide +kernel
theorem dL_law_583 : decode cL_law 583 = .ok (.iaload, 1) := by decide +kernel
theorem dL_law_584 : decode cL_law 584 = .ok (.aload_n 0, 1) := by decide +kernel
theorem dL_law_585 : decode cL_law 585 = .ok (.iload_n 3, 1) := by decide +kernel
theorem dL_law_586 : decode cL_law 586 = .ok (.iconst 3, 1) := by decide +kernel
theorem dL_law_587 : decode cL_law 587 = .ok (.iadd, 1) := by decide +kernel
theorem dL_law_588 : decode cL_law 588 = .ok (.iaload, 1) := by decide +kernel
theorem dL_law_589 : decode cL_law 589 = .ok (.invokevirtual 85, 3) := by decide +kernel
theorem dL_law_592 : decode cL_law 592 = .ok (.aload_n 2, 1) := by decide +kernel
theorem dL_law_593 : decode cL_law 593 = .ok (.aload_n 0, 1) := by decide +kernel
theorem dL_law_594 : decode cL_law 594 = .ok (.iload_n 3, 1) := by decide +kernel
theorem dL_law_595 : decode cL_law 595 = .ok (.iconst 1, 1) := by decide +kernel
theorem dL_law_596 : decode cL_law 596 = .ok (.iadd, 1) := by decide +kernel
theorem dL_law_597 : decode cL_law 597 = .ok (.iaload, 1) := by decide +kernel
theorem dL_law_598 : decode cL_law 598 = .ok (.aload_n 0, 1) := by decide +kernel
theorem dL_law_599 : decode cL_law 599 = .ok (.iload_n 3, 1) := by decide +kernel
theorem dL_law_600 : decode cL_law 600 = .ok (.iconst 2, 1) := by decide +kernel
theorem dL_law_601 : decode cL_law 601 = .ok (.iadd, 1) := by decide +kernel
theorem dL_law_602 : decode cL_law 602 = .ok (.iaload, 1) := by decide +kernel
theorem dL_law_603 : decode cL_law 603 = .ok (.aload_n 0, 1) := by decide +kernel
theorem dL_law_604 : decode cL_law 604 = .ok (.iload_n 3, 1) := by decide +kernel
theorem dL_law_605 : decode cL_law 605 = .ok (.iconst 3, 1) := by decide +kernel
theorem dL_law_606 : decode cL_law 606 = .ok (.iadd, 1) := by decide +kernel
theorem dL_law_607 : decode cL_law 607 = .ok (.iaload, 1) := by decide +kernel
theorem dL_law_608 : decode cL_law 608 = .ok (.invokevirtual 89, 3) := by decide +kernel
theorem dL_law_611 : decode cL_law 611 = .ok (.if_icmp .eq 68, 3) := by decide +kernel
theorem dL_law_614 : decode cL_law 614 = .ok (.iconst 0, 1) := by decide +kernel
theorem dL_law_615 : decode cL_law 615 = .ok (.ireturn, 1) := by decide +kernel
theorem dL_law_616 : decode cL_law 616 = .ok (.aload_n 1, 1) := by decide +kernel
theorem dL_law_617 : decode cL_law 617 = .ok (.invokevirtual 90, 3) := by decide +kernel
theorem dL_law_620 : decode cL_law 620 = .ok (.aload_n 2, 1) := by decide +kernel
theorem dL_law_621 : decode cL_law 621 = .ok (.invokevirtual 93, 3) := by decide +kernel
theorem dL_law_624 : decode cL_law 624 = .ok (.if_icmp .eq 55, 3) := by decide +kernel
theorem dL_law_627 : decode cL_law 627 = .ok (.iconst 0, 1) := by decide +kernel
theorem dL_law_628 : decode cL_law 628 = .ok (.ireturn, 1) := by decide +kernel
theorem dL_law_629 : decode cL_law 629 = .ok (.aload_n 1, 1) := by decide +kernel
theorem dL_law_630 : decode cL_law 630 = .ok (.invokevirtual 94, 3) := by decide +kernel
theorem dL_law_633 : decode cL_law 633 = .ok (.aload_n 2, 1) := by decide +kernel
theorem dL_law_634 : decode cL_law 634 = .ok (.invokevirtual 97, 3) := by decide +kernel
theorem dL_law_637 : decode cL_law 637 = .ok (.if_icmp .eq 42, 3) := by decide +kernel
theorem dL_law_640 : decode cL_law 640 = .ok (.iconst 0, 1) := by decide +kernel
theorem dL_law_641 : decode cL_law 641 = .ok (.ireturn, 1) := by decide +kernel
theorem dL_law_642 : decode cL_law 642 = .ok (.aload_n 1, 1) := by decide +kernel
theorem dL_law_643 : decode cL_law 643 = .ok (.aload_n 0, 1) := by decide +kernel
theorem dL_law_644 : decode cL_law 644 = .ok (.iload_n 3, 1) := by decide +kernel
theorem dL_law_645 : decode cL_law 645 = .ok (.iconst 1, 1) := by decide +kernel
theorem dL_law_646 : decode cL_law 646 = .ok (.iadd, 1) := by decide +kernel
theorem dL_law_647 : decode cL_law 647 = .ok (.iaload, 1) := by decide +kernel
theorem dL_law_648 : decode cL_law 648 = .ok (.invokevirtual 98, 3) := by decide +kernel
theorem dL_law_651 : decode cL_law 651 = .ok (.aload_n 2, 1) := by decide +kernel
theorem dL_law_652 : decode cL_law 652 = .ok (.aload_n 0, 1) := by decide +kernel
theorem dL_law_653 : decode cL_law 653 = .ok (.iload_n 3, 1) := by decide +kernel
theorem dL_law_654 : decode cL_law 654 = .ok (.iconst 1, 1) := by decide +kernel
theorem dL_law_655 : decode cL_law 655 = .ok (.iadd, 1) := by decide +kernel
theorem dL_law_656 : decode cL_law 656 = .ok (.iaload, 1) := by decide +kernel
theorem dL_law_657 : decode cL_law 657 = .ok (.invokevirtual 101, 3) := by decide +kernel
theorem dL_law_660 : decode cL_law 660 = .ok (.if_icmp .eq 19, 3) := by decide +kernel
theorem dL_law_663 : decode cL_law 663 = .ok (.iconst 0, 1) := by decide +kernel
theorem dL_law_664 : decode cL_law 664 = .ok (.ireturn, 1) := by decide +kernel
theorem dL_law_665 : decode cL_law 665 = .ok (.aload_n 1, 1) := by decide +kernel
theorem dL_law_666 : decode cL_law 666 = .ok (.invokevirtual 102, 3) := by decide +kernel
theorem dL_law_669 : decode cL_law 669 = .ok (.aload_n 2, 1) := by decide +kernel
theorem dL_law_670 : decode cL_law 670 = .ok (.invokevirtual 106, 3) := by decide +kernel
theorem dL_law_673 : decode cL_law 673 = .ok (.lcmp, 1) := by decide +kernel
theorem dL_law_674 : decode cL_law 674 = .ok (.ifCond .eq 5, 3) := by decide +kernel
theorem dL_law_677 : decode cL_law 677 = .ok (.iconst 0, 1) := by decide +kernel
theorem dL_law_678 : decode cL_law 678 = .ok (.ireturn, 1) := by decide +kernel
theorem dL_law_679 : decode cL_law 679 = .ok (.iinc 3 4, 3) := by decide +kernel
theorem dL_law_682 : decode cL_law 682 = .ok (.goto (-664), 3) := by decide +kernel
theorem dL_law_685 : decode cL_law 685 = .ok (.iconst 1, 1) := by decide +kernel
theorem dL_law_686 : decode cL_law 686 = .ok (.ireturn, 1) := by decide +kernel
end
section
/-- an int by a whole number; a long by one -/
def br_J (z : Int) : Int32 := Int32.ofInt z
def br_K (z : Int) : Int64 := Int64.ofInt z
theorem br_J_add (a b : Int) : br_J a + br_J b = br_J (a + b) := (Int32.ofInt_add a b).symm
theorem br_J_sub (a b : Int) : br_J a - br_J b = br_J (a - b) := (Int32.ofInt_sub a b).symm
theorem br_J_mul (a b : Int) : br_J a * br_J b = br_J (a * b) := (Int32.ofInt_mul a b).symm
theorem br_K_add (a b : Int) : br_K a + br_K b = br_K (a + b) := (Int64.ofInt_add a b).symm
theorem br_K_sub (a b : Int) : br_K a - br_K b = br_K (a - b) := (Int64.ofInt_sub a b).symm
theorem br_K_mul (a b : Int) : br_K a * br_K b = br_K (a * b) := (Int64.ofInt_mul a b).symm
theorem br_J_toInt {z : Int} (h : -2147483648 ≤ z ∧ z < 2147483648) : (br_J z).toInt = z := Int32.toInt_ofInt_of_le (by omega) (by omega)
theorem br_K_toInt {z : Int} (h : -9223372036854775808 ≤ z ∧ z < 9223372036854775808) : (br_K z).toInt = z := Int64.toInt_ofInt_of_le (by omega) (by omega)
theorem br_J_of (x : Int32) : x = br_J x.toInt := (Int32.ofInt_toInt x).symm
theorem br_J_bnd (x : Int32) : -2147483648 ≤ x.toInt ∧ x.toInt < 2147483648 := ⟨by have := Int32.le_toInt x; omega, by have := Int32.toInt_lt x; omega⟩
theorem br_J_ex (x : Int32) : ∃ z : Int, x = br_J z ∧ -2147483648 ≤ z ∧ z < 2147483648 := ⟨x.toInt, br_J_of x, br_J_bnd x⟩
theorem br_J_nat {z : Int} (h : 0 ≤ z ∧ z < 2147483648) : (br_J z).toNatClampNeg = z.toNat := Int32.toNatClampNeg_ofInt_of_le (by omega) (by omega)
theorem br_J_le {a b : Int} (ha : -2147483648 ≤ a ∧ a < 2147483648) (hb : -2147483648 ≤ b ∧ b < 2147483648) : br_J a ≤ br_J b ↔ a ≤ b := by rw [Int32.le_iff_toInt_le, br_J_toInt ha, br_J_toInt hb]
theorem br_J_lt {a b : Int} (ha : -2147483648 ≤ a ∧ a < 2147483648) (hb : -2147483648 ≤ b ∧ b < 2147483648) : br_J a < br_J b ↔ a < b := by rw [Int32.lt_iff_toInt_lt, br_J_toInt ha, br_J_toInt hb]
theorem br_J_eq {a b : Int} (ha : -2147483648 ≤ a ∧ a < 2147483648) (hb : -2147483648 ≤ b ∧ b < 2147483648) : br_J a = br_J b ↔ a = b := by rw [← Int32.toInt_inj, br_J_toInt ha, br_J_toInt hb]
theorem br_K_lt {a b : Int} (ha : -9223372036854775808 ≤ a ∧ a < 9223372036854775808) (hb : -9223372036854775808 ≤ b ∧ b < 9223372036854775808) : br_K a < br_K b ↔ a < b := by rw [Int64.lt_iff_toInt_lt, br_K_toInt ha, br_K_toInt hb]
theorem br_K_eq {a b : Int} (ha : -9223372036854775808 ≤ a ∧ a < 9223372036854775808) (hb : -9223372036854775808 ≤ b ∧ b < 9223372036854775808) : br_K a = br_K b ↔ a = b := by rw [← Int64.toInt_inj, br_K_toInt ha, br_K_toInt hb]
theorem br_J_in {z : Int} {n : Nat} (h0 : 0 ≤ z) (h1 : z < n) (hn : n < 2147483648) : vp_in (br_J z) n := by
  intro h
  rw [br_J_nat ⟨h0, by omega⟩, show (0 : Int32) = br_J 0 from rfl, br_J_lt ⟨by omega, by omega⟩ ⟨by omega, by omega⟩] at h
  omega
theorem br_J_div {a b : Int} (ha : 0 ≤ a ∧ a < 2147483648) (hb : 0 < b ∧ b < 2147483648) : br_J a / br_J b = br_J (a / b) := by
  have h := Int32.ofInt_tdiv (a := a) (b := b) (by rw [show Int32.minValue.toInt = -2147483648 from rfl]; omega) (by rw [show Int32.maxValue.toInt = 2147483647 from rfl]; omega) (by rw [show Int32.minValue.toInt = -2147483648 from rfl]; omega) (by rw [show Int32.maxValue.toInt = 2147483647 from rfl]; omega)
  rw [Int.tdiv_eq_ediv_of_nonneg ha.1] at h
  exact h.symm
theorem br_J_rem {a b : Int} (ha : 0 ≤ a ∧ a < 2147483648) (hb : 0 < b ∧ b < 2147483648) : br_J a - br_J a / br_J b * br_J b = br_J (a % b) := by
  rw [br_J_div ha hb, br_J_mul, br_J_sub]
  congr 1
  have := Int.emod_def a b
  rw [this, Int.mul_comm]
theorem br_K_rem {a b : Int} (ha : 0 ≤ a ∧ a < 9223372036854775808) (hb : 0 < b ∧ b < 9223372036854775808) : br_K a - br_K a / br_K b * br_K b = br_K (a % b) := by
  have h := Int64.ofInt_tdiv (a := a) (b := b) (by rw [show Int64.minValue.toInt = -9223372036854775808 from rfl]; omega) (by rw [show Int64.maxValue.toInt = 9223372036854775807 from rfl]; omega) (by rw [show Int64.minValue.toInt = -9223372036854775808 from rfl]; omega) (by rw [show Int64.maxValue.toInt = 9223372036854775807 from rfl]; omega)
  rw [Int.tdiv_eq_ediv_of_nonneg ha.1] at h
  have h2 : br_K a / br_K b = br_K (a / b) := h.symm
  rw [h2, br_K_mul, br_K_sub]
  congr 1
  have := Int.emod_def a b
  rw [this, Int.mul_comm]
theorem br_J_ne0 {b : Int} (hb : 0 < b ∧ b < 2147483648) : ¬ br_J b = 0 := by
  rw [show (0 : Int32) = br_J 0 from rfl, br_J_eq ⟨by omega, by omega⟩ ⟨by omega, by omega⟩]
  omega
theorem br_J_long {z : Int} (h : -2147483648 ≤ z ∧ z < 2147483648) : (br_J z).toInt64 = br_K z := Int32.toInt64_ofInt (by rw [show Int32.minValue.toInt = -2147483648 from rfl]; omega) (by rw [show Int32.maxValue.toInt = 2147483647 from rfl]; omega)
theorem br_K_int (z : Int) : (br_K z).toInt32 = br_J z := Int64.toInt32_ofInt
/-- what lcmp answers -/
def br_sg (a b : Int) : Int := if b < a then 1 else if a = b then 0 else -1
theorem br_K_cmp {a b : Int} (ha : -9223372036854775808 ≤ a ∧ a < 9223372036854775808) (hb : -9223372036854775808 ≤ b ∧ b < 9223372036854775808) : lg_cmp (br_K a) (br_K b) = br_J (br_sg a b) := by
  unfold lg_cmp br_sg
  by_cases h1 : b < a
  · rw [if_pos ((br_K_lt hb ha).mpr h1), if_pos h1]; rfl
  · rw [if_neg (fun h => h1 ((br_K_lt hb ha).mp h)), if_neg h1]
    by_cases h2 : a = b
    · rw [if_pos ((br_K_eq ha hb).mpr h2), if_pos h2]; rfl
    · rw [if_neg (fun h => h2 ((br_K_eq ha hb).mp h)), if_neg h2]; rfl
theorem br_iconstJ {Y : br_Y} {d : Nat} {P : br_post} {G : br_Jg} (C : br_Ok Y d P G) {n : Int} {pc : Nat} {L : List (Option br_V)} {st : List br_V} {σ : br_Wd} (hd : decode Y.2.1 pc = .ok (.iconst n, 1)) (kk : G (pc + 1) L (br_i (br_J n) :: st) σ) : G pc L st σ := br_iconst C hd rfl kk
theorem br_bipushJ {Y : br_Y} {d : Nat} {P : br_post} {G : br_Jg} (C : br_Ok Y d P G) {n : Int} {pc : Nat} {L : List (Option br_V)} {st : List br_V} {σ : br_Wd} (hn : (Int8.ofInt n).toInt32 = Int32.ofInt n) (hd : decode Y.2.1 pc = .ok (.bipush n, 2)) (kk : G (pc + 2) L (br_i (br_J n) :: st) σ) : G pc L st σ := br_bipush C hd hn kk
theorem br_sipushJ {Y : br_Y} {d : Nat} {P : br_post} {G : br_Jg} (C : br_Ok Y d P G) {n : Int} {pc : Nat} {L : List (Option br_V)} {st : List br_V} {σ : br_Wd} (hn : (Int16.ofInt n).toInt32 = Int32.ofInt n) (hd : decode Y.2.1 pc = .ok (.sipush n, 3)) (kk : G (pc + 3) L (br_i (br_J n) :: st) σ) : G pc L st σ := br_sipush C hd hn kk
theorem br_ldcJ {Y : br_Y} {d : Nat} {P : br_post} {G : br_Jg} (C : br_Ok Y d P G) {index : Nat} {v : Int32} {z : Int} {pc : Nat} {L : List (Option br_V)} {st : List br_V} {σ : br_Wd} (hw : Cond.constant Y.1.cls index v ∈ br_W0) (hv : v = br_J z) (hd : decode Y.2.1 pc = .ok (.ldc index, 2)) (kk : G (pc + 2) L (br_i (br_J z) :: st) σ) : G pc L st σ := br_ldc C hd hw (by rw [hv]; exact kk)
theorem br_ldc2K {Y : br_Y} {d : Nat} {P : br_post} {G : br_Jg} (C : br_Ok Y d P G) {index : Nat} {v : Int64} {z : Int} {pc : Nat} {L : List (Option br_V)} {st : List br_V} {σ : br_Wd} (hw : Cond.constantLong Y.1.cls index v ∈ br_W0) (hv : v = br_K z) (hd : decode Y.2.1 pc = .ok (.ldc2_w index, 3)) (kk : G (pc + 3) L (br_l (br_K z) :: st) σ) : G pc L st σ := br_ldc2 C hd hw (by rw [hv]; exact kk)
theorem br_lconstK {Y : br_Y} {d : Nat} {P : br_post} {G : br_Jg} (C : br_Ok Y d P G) {n : Fin 2} {pc : Nat} {L : List (Option br_V)} {st : List br_V} {σ : br_Wd} (hd : decode Y.2.1 pc = .ok (.lconst n, 1)) (kk : G (pc + 1) L (br_l (br_K ((n : Nat) : Int)) :: st) σ) : G pc L st σ := br_lconst C hd (by rw [← Int64.ofInt_eq_ofNat]; rfl) kk
theorem br_iaddJ {Y : br_Y} {d : Nat} {P : br_post} {G : br_Jg} (C : br_Ok Y d P G) {a b : Int} {pc : Nat} {L : List (Option br_V)} {st : List br_V} {σ : br_Wd} (hd : decode Y.2.1 pc = .ok (.iadd, 1)) (kk : G (pc + 1) L (br_i (br_J (a + b)) :: st) σ) : G pc L (br_i (br_J b) :: br_i (br_J a) :: st) σ := br_iadd C hd (by rw [br_J_add]; exact kk)
theorem br_isubJ {Y : br_Y} {d : Nat} {P : br_post} {G : br_Jg} (C : br_Ok Y d P G) {a b : Int} {pc : Nat} {L : List (Option br_V)} {st : List br_V} {σ : br_Wd} (hd : decode Y.2.1 pc = .ok (.isub, 1)) (kk : G (pc + 1) L (br_i (br_J (a - b)) :: st) σ) : G pc L (br_i (br_J b) :: br_i (br_J a) :: st) σ := br_isub C hd (by rw [br_J_sub]; exact kk)
theorem br_imulJ {Y : br_Y} {d : Nat} {P : br_post} {G : br_Jg} (C : br_Ok Y d P G) {a b : Int} {pc : Nat} {L : List (Option br_V)} {st : List br_V} {σ : br_Wd} (hd : decode Y.2.1 pc = .ok (.imul, 1)) (kk : G (pc + 1) L (br_i (br_J (a * b)) :: st) σ) : G pc L (br_i (br_J b) :: br_i (br_J a) :: st) σ := br_imul C hd (by rw [br_J_mul]; exact kk)
theorem br_laddK {Y : br_Y} {d : Nat} {P : br_post} {G : br_Jg} (C : br_Ok Y d P G) {a b : Int} {pc : Nat} {L : List (Option br_V)} {st : List br_V} {σ : br_Wd} (hd : decode Y.2.1 pc = .ok (.ladd, 1)) (kk : G (pc + 1) L (br_l (br_K (a + b)) :: st) σ) : G pc L (br_l (br_K b) :: br_l (br_K a) :: st) σ := br_ladd C hd (by rw [br_K_add]; exact kk)
theorem br_lmulK {Y : br_Y} {d : Nat} {P : br_post} {G : br_Jg} (C : br_Ok Y d P G) {a b : Int} {pc : Nat} {L : List (Option br_V)} {st : List br_V} {σ : br_Wd} (hd : decode Y.2.1 pc = .ok (.lmul, 1)) (kk : G (pc + 1) L (br_l (br_K (a * b)) :: st) σ) : G pc L (br_l (br_K b) :: br_l (br_K a) :: st) σ := br_lmul C hd (by rw [br_K_mul]; exact kk)
theorem br_idivJ {Y : br_Y} {d : Nat} {P : br_post} {G : br_Jg} (C : br_Ok Y d P G) {a b : Int} {pc : Nat} {L : List (Option br_V)} {st : List br_V} {σ : br_Wd} (ha : 0 ≤ a ∧ a < 2147483648) (hb : 0 < b ∧ b < 2147483648) (hd : decode Y.2.1 pc = .ok (.idiv, 1)) (kk : G (pc + 1) L (br_i (br_J (a / b)) :: st) σ) : G pc L (br_i (br_J b) :: br_i (br_J a) :: st) σ := br_idiv C (br_J_ne0 hb) hd (by rw [br_J_div ha hb]; exact kk)
theorem br_iremJ {Y : br_Y} {d : Nat} {P : br_post} {G : br_Jg} (C : br_Ok Y d P G) {a b : Int} {pc : Nat} {L : List (Option br_V)} {st : List br_V} {σ : br_Wd} (ha : 0 ≤ a ∧ a < 2147483648) (hb : 0 < b ∧ b < 2147483648) (hd : decode Y.2.1 pc = .ok (.irem, 1)) (kk : G (pc + 1) L (br_i (br_J (a % b)) :: st) σ) : G pc L (br_i (br_J b) :: br_i (br_J a) :: st) σ := br_irem C (br_J_ne0 hb) hd (by rw [br_J_rem ha hb]; exact kk)
theorem br_iandE {Y : br_Y} {d : Nat} {P : br_post} {G : br_Jg} (C : br_Ok Y d P G) {x y v : Int32} {pc : Nat} {L : List (Option br_V)} {st : List br_V} {σ : br_Wd} (hv : x &&& y = v) (hd : decode Y.2.1 pc = .ok (.iand, 1)) (kk : G (pc + 1) L (br_i v :: st) σ) : G pc L (br_i y :: br_i x :: st) σ := br_iand C hd (by rw [hv]; exact kk)
theorem br_iorE {Y : br_Y} {d : Nat} {P : br_post} {G : br_Jg} (C : br_Ok Y d P G) {x y v : Int32} {pc : Nat} {L : List (Option br_V)} {st : List br_V} {σ : br_Wd} (hv : x ||| y = v) (hd : decode Y.2.1 pc = .ok (.ior, 1)) (kk : G (pc + 1) L (br_i v :: st) σ) : G pc L (br_i y :: br_i x :: st) σ := br_ior C hd (by rw [hv]; exact kk)
theorem br_ishlE {Y : br_Y} {d : Nat} {P : br_post} {G : br_Jg} (C : br_Ok Y d P G) {x y v : Int32} {pc : Nat} {L : List (Option br_V)} {st : List br_V} {σ : br_Wd} (hv : x <<< (y &&& 31) = v) (hd : decode Y.2.1 pc = .ok (.ishl, 1)) (kk : G (pc + 1) L (br_i v :: st) σ) : G pc L (br_i y :: br_i x :: st) σ := br_ishl C hd (by rw [hv]; exact kk)
theorem br_ishrE {Y : br_Y} {d : Nat} {P : br_post} {G : br_Jg} (C : br_Ok Y d P G) {x y v : Int32} {pc : Nat} {L : List (Option br_V)} {st : List br_V} {σ : br_Wd} (hv : x >>> (y &&& 31) = v) (hd : decode Y.2.1 pc = .ok (.ishr, 1)) (kk : G (pc + 1) L (br_i v :: st) σ) : G pc L (br_i y :: br_i x :: st) σ := br_ishr C hd (by rw [hv]; exact kk)
theorem br_landE {Y : br_Y} {d : Nat} {P : br_post} {G : br_Jg} (C : br_Ok Y d P G) {x y v : Int64} {pc : Nat} {L : List (Option br_V)} {st : List br_V} {σ : br_Wd} (hv : x &&& y = v) (hd : decode Y.2.1 pc = .ok (.land, 1)) (kk : G (pc + 1) L (br_l v :: st) σ) : G pc L (br_l y :: br_l x :: st) σ := br_land C hd (by rw [hv]; exact kk)
theorem br_lremK {Y : br_Y} {d : Nat} {P : br_post} {G : br_Jg} (C : br_Ok Y d P G) {a b : Int} {pc : Nat} {L : List (Option br_V)} {st : List br_V} {σ : br_Wd} (ha : 0 ≤ a ∧ a < 9223372036854775808) (hb : 0 < b ∧ b < 9223372036854775808) (hd : decode Y.2.1 pc = .ok (.lrem, 1)) (kk : G (pc + 1) L (br_l (br_K (a % b)) :: st) σ) : G pc L (br_l (br_K b) :: br_l (br_K a) :: st) σ := br_lrem C (fun h => by have h2 := congrArg Int64.toInt h; rw [br_K_toInt ⟨by omega, by omega⟩] at h2; have : (0 : Int64).toInt = 0 := rfl; omega) hd (by rw [br_K_rem ha hb]; exact kk)
theorem br_i2lK {Y : br_Y} {d : Nat} {P : br_post} {G : br_Jg} (C : br_Ok Y d P G) {z : Int} {pc : Nat} {L : List (Option br_V)} {st : List br_V} {σ : br_Wd} (hz : -2147483648 ≤ z ∧ z < 2147483648) (hd : decode Y.2.1 pc = .ok (.i2l, 1)) (kk : G (pc + 1) L (br_l (br_K z) :: st) σ) : G pc L (br_i (br_J z) :: st) σ := br_i2l C hd (by rw [br_J_long hz]; exact kk)
theorem br_l2iK {Y : br_Y} {d : Nat} {P : br_post} {G : br_Jg} (C : br_Ok Y d P G) {z : Int} {pc : Nat} {L : List (Option br_V)} {st : List br_V} {σ : br_Wd} (hd : decode Y.2.1 pc = .ok (.l2i, 1)) (kk : G (pc + 1) L (br_i (br_J z) :: st) σ) : G pc L (br_l (br_K z) :: st) σ := br_l2i C hd (by rw [br_K_int]; exact kk)
theorem br_lcmpK {Y : br_Y} {d : Nat} {P : br_post} {G : br_Jg} (C : br_Ok Y d P G) {a b : Int} {pc : Nat} {L : List (Option br_V)} {st : List br_V} {σ : br_Wd} (ha : -9223372036854775808 ≤ a ∧ a < 9223372036854775808) (hb : -9223372036854775808 ≤ b ∧ b < 9223372036854775808) (hd : decode Y.2.1 pc = .ok (.lcmp, 1)) (kk : G (pc + 1) L (br_i (br_J (br_sg a b)) :: st) σ) : G pc L (br_l (br_K b) :: br_l (br_K a) :: st) σ := br_lcmp C hd (by rw [br_K_cmp ha hb]; exact kk)
theorem br_iincJ {Y : br_Y} {d : Nat} {P : br_post} {G : br_Jg} (C : br_Ok Y d P G) {i : Nat} {n z : Int} {L' : List (Option br_V)} {pc : Nat} {L : List (Option br_V)} {st : List br_V} {σ : br_Wd} (hd : decode Y.2.1 pc = .ok (.iinc i n, 3)) (hl : L[i]? = some (some (br_i (br_J z)))) (hn : i < Y.2.2.1) (ho : br_okst L i = true) (hL : L.set i (some (br_i (br_J (z + n)))) = L') (kk : G (pc + 3) L' st σ) : G pc L st σ := br_iinc C hd hl (br_J_add z n) hn ho hL kk
theorem br_if_eqJ {Y : br_Y} {d : Nat} {P : br_post} {G : br_Jg} (C : br_Ok Y d P G) {x : Int} {off : Int} {tgt : Nat} {pc : Nat} {L : List (Option br_V)} {st : List br_V} {σ : br_Wd} (hx : -2147483648 ≤ x ∧ x < 2147483648) (hd : decode Y.2.1 pc = .ok (.ifCond .eq off, 3)) (ht : (pc : Int) + off = (tgt : Int)) (kt : x = 0 → G tgt L st σ) (kf : ¬ x = 0 → G (pc + 3) L st σ) : G pc L (br_i (br_J x) :: st) σ := by
  have h0 : (0 : Int32) = br_J 0 := rfl
  have hy : -2147483648 ≤ (0 : Int) ∧ (0 : Int) < 2147483648 := ⟨by omega, by omega⟩
  refine br_if_eq C hd ht (fun h => kt ?_) (fun h => kf ?_) <;> (rw [h0] at h; first | rw [br_J_eq hx hy] at h | rw [br_J_eq hy hx] at h) <;> omega
theorem br_icmp_eqJ {Y : br_Y} {d : Nat} {P : br_post} {G : br_Jg} (C : br_Ok Y d P G) {x y : Int} {off : Int} {tgt : Nat} {pc : Nat} {L : List (Option br_V)} {st : List br_V} {σ : br_Wd} (hx : -2147483648 ≤ x ∧ x < 2147483648) (hy : -2147483648 ≤ y ∧ y < 2147483648) (hd : decode Y.2.1 pc = .ok (.if_icmp .eq off, 3)) (ht : (pc : Int) + off = (tgt : Int)) (kt : x = y → G tgt L st σ) (kf : ¬ x = y → G (pc + 3) L st σ) : G pc L (br_i (br_J y) :: br_i (br_J x) :: st) σ := by
  refine br_icmp_eq C hd ht (fun h => kt ?_) (fun h => kf ?_) <;> (first | rw [br_J_eq hx hy] at h | rw [br_J_eq hy hx] at h) <;> omega
theorem br_if_neJ {Y : br_Y} {d : Nat} {P : br_post} {G : br_Jg} (C : br_Ok Y d P G) {x : Int} {off : Int} {tgt : Nat} {pc : Nat} {L : List (Option br_V)} {st : List br_V} {σ : br_Wd} (hx : -2147483648 ≤ x ∧ x < 2147483648) (hd : decode Y.2.1 pc = .ok (.ifCond .ne off, 3)) (ht : (pc : Int) + off = (tgt : Int)) (kt : ¬ x = 0 → G tgt L st σ) (kf : x = 0 → G (pc + 3) L st σ) : G pc L (br_i (br_J x) :: st) σ := by
  have h0 : (0 : Int32) = br_J 0 := rfl
  have hy : -2147483648 ≤ (0 : Int) ∧ (0 : Int) < 2147483648 := ⟨by omega, by omega⟩
  refine br_if_ne C hd ht (fun h => kt ?_) (fun h => kf ?_) <;> (rw [h0] at h; first | rw [br_J_eq hx hy] at h | rw [br_J_eq hy hx] at h) <;> omega
theorem br_icmp_neJ {Y : br_Y} {d : Nat} {P : br_post} {G : br_Jg} (C : br_Ok Y d P G) {x y : Int} {off : Int} {tgt : Nat} {pc : Nat} {L : List (Option br_V)} {st : List br_V} {σ : br_Wd} (hx : -2147483648 ≤ x ∧ x < 2147483648) (hy : -2147483648 ≤ y ∧ y < 2147483648) (hd : decode Y.2.1 pc = .ok (.if_icmp .ne off, 3)) (ht : (pc : Int) + off = (tgt : Int)) (kt : ¬ x = y → G tgt L st σ) (kf : x = y → G (pc + 3) L st σ) : G pc L (br_i (br_J y) :: br_i (br_J x) :: st) σ := by
  refine br_icmp_ne C hd ht (fun h => kt ?_) (fun h => kf ?_) <;> (first | rw [br_J_eq hx hy] at h | rw [br_J_eq hy hx] at h) <;> omega
theorem br_if_ltJ {Y : br_Y} {d : Nat} {P : br_post} {G : br_Jg} (C : br_Ok Y d P G) {x : Int} {off : Int} {tgt : Nat} {pc : Nat} {L : List (Option br_V)} {st : List br_V} {σ : br_Wd} (hx : -2147483648 ≤ x ∧ x < 2147483648) (hd : decode Y.2.1 pc = .ok (.ifCond .lt off, 3)) (ht : (pc : Int) + off = (tgt : Int)) (kt : x < 0 → G tgt L st σ) (kf : 0 ≤ x → G (pc + 3) L st σ) : G pc L (br_i (br_J x) :: st) σ := by
  have h0 : (0 : Int32) = br_J 0 := rfl
  have hy : -2147483648 ≤ (0 : Int) ∧ (0 : Int) < 2147483648 := ⟨by omega, by omega⟩
  refine br_if_lt C hd ht (fun h => kt ?_) (fun h => kf ?_) <;> (rw [h0] at h; first | rw [br_J_lt hx hy] at h | rw [br_J_lt hy hx] at h) <;> omega
theorem br_icmp_ltJ {Y : br_Y} {d : Nat} {P : br_post} {G : br_Jg} (C : br_Ok Y d P G) {x y : Int} {off : Int} {tgt : Nat} {pc : Nat} {L : List (Option br_V)} {st : List br_V} {σ : br_Wd} (hx : -2147483648 ≤ x ∧ x < 2147483648) (hy : -2147483648 ≤ y ∧ y < 2147483648) (hd : decode Y.2.1 pc = .ok (.if_icmp .lt off, 3)) (ht : (pc : Int) + off = (tgt : Int)) (kt : x < y → G tgt L st σ) (kf : y ≤ x → G (pc + 3) L st σ) : G pc L (br_i (br_J y) :: br_i (br_J x) :: st) σ := by
  refine br_icmp_lt C hd ht (fun h => kt ?_) (fun h => kf ?_) <;> (first | rw [br_J_lt hx hy] at h | rw [br_J_lt hy hx] at h) <;> omega
theorem br_if_geJ {Y : br_Y} {d : Nat} {P : br_post} {G : br_Jg} (C : br_Ok Y d P G) {x : Int} {off : Int} {tgt : Nat} {pc : Nat} {L : List (Option br_V)} {st : List br_V} {σ : br_Wd} (hx : -2147483648 ≤ x ∧ x < 2147483648) (hd : decode Y.2.1 pc = .ok (.ifCond .ge off, 3)) (ht : (pc : Int) + off = (tgt : Int)) (kt : 0 ≤ x → G tgt L st σ) (kf : x < 0 → G (pc + 3) L st σ) : G pc L (br_i (br_J x) :: st) σ := by
  have h0 : (0 : Int32) = br_J 0 := rfl
  have hy : -2147483648 ≤ (0 : Int) ∧ (0 : Int) < 2147483648 := ⟨by omega, by omega⟩
  refine br_if_ge C hd ht (fun h => kt ?_) (fun h => kf ?_) <;> (rw [h0] at h; first | rw [br_J_le hx hy] at h | rw [br_J_le hy hx] at h) <;> omega
theorem br_icmp_geJ {Y : br_Y} {d : Nat} {P : br_post} {G : br_Jg} (C : br_Ok Y d P G) {x y : Int} {off : Int} {tgt : Nat} {pc : Nat} {L : List (Option br_V)} {st : List br_V} {σ : br_Wd} (hx : -2147483648 ≤ x ∧ x < 2147483648) (hy : -2147483648 ≤ y ∧ y < 2147483648) (hd : decode Y.2.1 pc = .ok (.if_icmp .ge off, 3)) (ht : (pc : Int) + off = (tgt : Int)) (kt : y ≤ x → G tgt L st σ) (kf : x < y → G (pc + 3) L st σ) : G pc L (br_i (br_J y) :: br_i (br_J x) :: st) σ := by
  refine br_icmp_ge C hd ht (fun h => kt ?_) (fun h => kf ?_) <;> (first | rw [br_J_le hx hy] at h | rw [br_J_le hy hx] at h) <;> omega
theorem br_if_gtJ {Y : br_Y} {d : Nat} {P : br_post} {G : br_Jg} (C : br_Ok Y d P G) {x : Int} {off : Int} {tgt : Nat} {pc : Nat} {L : List (Option br_V)} {st : List br_V} {σ : br_Wd} (hx : -2147483648 ≤ x ∧ x < 2147483648) (hd : decode Y.2.1 pc = .ok (.ifCond .gt off, 3)) (ht : (pc : Int) + off = (tgt : Int)) (kt : 0 < x → G tgt L st σ) (kf : x ≤ 0 → G (pc + 3) L st σ) : G pc L (br_i (br_J x) :: st) σ := by
  have h0 : (0 : Int32) = br_J 0 := rfl
  have hy : -2147483648 ≤ (0 : Int) ∧ (0 : Int) < 2147483648 := ⟨by omega, by omega⟩
  refine br_if_gt C hd ht (fun h => kt ?_) (fun h => kf ?_) <;> (rw [h0] at h; first | rw [br_J_lt hx hy] at h | rw [br_J_lt hy hx] at h) <;> omega
theorem br_icmp_gtJ {Y : br_Y} {d : Nat} {P : br_post} {G : br_Jg} (C : br_Ok Y d P G) {x y : Int} {off : Int} {tgt : Nat} {pc : Nat} {L : List (Option br_V)} {st : List br_V} {σ : br_Wd} (hx : -2147483648 ≤ x ∧ x < 2147483648) (hy : -2147483648 ≤ y ∧ y < 2147483648) (hd : decode Y.2.1 pc = .ok (.if_icmp .gt off, 3)) (ht : (pc : Int) + off = (tgt : Int)) (kt : y < x → G tgt L st σ) (kf : x ≤ y → G (pc + 3) L st σ) : G pc L (br_i (br_J y) :: br_i (br_J x) :: st) σ := by
  refine br_icmp_gt C hd ht (fun h => kt ?_) (fun h => kf ?_) <;> (first | rw [br_J_lt hx hy] at h | rw [br_J_lt hy hx] at h) <;> omega
theorem br_if_leJ {Y : br_Y} {d : Nat} {P : br_post} {G : br_Jg} (C : br_Ok Y d P G) {x : Int} {off : Int} {tgt : Nat} {pc : Nat} {L : List (Option br_V)} {st : List br_V} {σ : br_Wd} (hx : -2147483648 ≤ x ∧ x < 2147483648) (hd : decode Y.2.1 pc = .ok (.ifCond .le off, 3)) (ht : (pc : Int) + off = (tgt : Int)) (kt : x ≤ 0 → G tgt L st σ) (kf : 0 < x → G (pc + 3) L st σ) : G pc L (br_i (br_J x) :: st) σ := by
  have h0 : (0 : Int32) = br_J 0 := rfl
  have hy : -2147483648 ≤ (0 : Int) ∧ (0 : Int) < 2147483648 := ⟨by omega, by omega⟩
  refine br_if_le C hd ht (fun h => kt ?_) (fun h => kf ?_) <;> (rw [h0] at h; first | rw [br_J_le hx hy] at h | rw [br_J_le hy hx] at h) <;> omega
theorem br_icmp_leJ {Y : br_Y} {d : Nat} {P : br_post} {G : br_Jg} (C : br_Ok Y d P G) {x y : Int} {off : Int} {tgt : Nat} {pc : Nat} {L : List (Option br_V)} {st : List br_V} {σ : br_Wd} (hx : -2147483648 ≤ x ∧ x < 2147483648) (hy : -2147483648 ≤ y ∧ y < 2147483648) (hd : decode Y.2.1 pc = .ok (.if_icmp .le off, 3)) (ht : (pc : Int) + off = (tgt : Int)) (kt : x ≤ y → G tgt L st σ) (kf : y < x → G (pc + 3) L st σ) : G pc L (br_i (br_J y) :: br_i (br_J x) :: st) σ := by
  refine br_icmp_le C hd ht (fun h => kt ?_) (fun h => kf ?_) <;> (first | rw [br_J_le hx hy] at h | rw [br_J_le hy hx] at h) <;> omega
theorem br_ialdJ {Y : br_Y} {d : Nat} {P : br_post} {G : br_Jg} (C : br_Ok Y d P G) {q n : Nat} {z y : Int} {pc : Nat} {L : List (Option br_V)} {st : List br_V} {σ : br_Wd} (hs : br_shps[q]? = some (.inl (false, n))) (hn : n < 2147483648) (h0 : 0 ≤ z) (h1 : z < n) (hv : σ.1 q z.toNat = br_J y) (hd : decode Y.2.1 pc = .ok (.iaload, 1)) (kk : G (pc + 1) L (br_i (br_J y) :: st) σ) : G pc L (br_i (br_J z) :: br_r q :: st) σ := br_iald C hs (br_J_in h0 h1 hn) (by rw [br_J_nat ⟨h0, by omega⟩]; exact hv) hd kk
theorem br_zaldJ {Y : br_Y} {d : Nat} {P : br_post} {G : br_Jg} (C : br_Ok Y d P G) {q n : Nat} {z y : Int} {pc : Nat} {L : List (Option br_V)} {st : List br_V} {σ : br_Wd} (hs : br_shps[q]? = some (.inl (true, n))) (hn : n < 2147483648) (h0 : 0 ≤ z) (h1 : z < n) (hv : σ.1 q z.toNat = br_J y) (hd : decode Y.2.1 pc = .ok (.baload, 1)) (kk : G (pc + 1) L (br_i (br_J y) :: st) σ) : G pc L (br_i (br_J z) :: br_r q :: st) σ := br_zald C hs (br_J_in h0 h1 hn) (by rw [br_J_nat ⟨h0, by omega⟩]; exact hv) hd kk
theorem br_iastJ {Y : br_Y} {d : Nat} {P : br_post} {G : br_Jg} (C : br_Ok Y d P G) {q n : Nat} {z : Int} {x : Int32} {σ' : br_Wd} {pc : Nat} {L : List (Option br_V)} {st : List br_V} {σ : br_Wd} (hs : br_shps[q]? = some (.inl (false, n))) (hn : n < 2147483648) (h0 : 0 ≤ z) (h1 : z < n) (hu : br_up σ q z.toNat x = σ') (hd : decode Y.2.1 pc = .ok (.iastore, 1)) (kk : G (pc + 1) L st σ') : G pc L (br_i x :: br_i (br_J z) :: br_r q :: st) σ := br_iast C hs (br_J_in h0 h1 hn) (by rw [br_J_nat ⟨h0, by omega⟩]; exact hu) hd kk
theorem br_zastJ {Y : br_Y} {d : Nat} {P : br_post} {G : br_Jg} (C : br_Ok Y d P G) {q n : Nat} {z : Int} {x : Int32} {σ' : br_Wd} {pc : Nat} {L : List (Option br_V)} {st : List br_V} {σ : br_Wd} (hs : br_shps[q]? = some (.inl (true, n))) (hn : n < 2147483648) (h0 : 0 ≤ z) (h1 : z < n) (hu : br_up σ q z.toNat (vp_nar .boolean x) = σ') (hd : decode Y.2.1 pc = .ok (.bastore, 1)) (kk : G (pc + 1) L st σ') : G pc L (br_i x :: br_i (br_J z) :: br_r q :: st) σ := br_zast C hs (br_J_in h0 h1 hn) (by rw [br_J_nat ⟨h0, by omega⟩]; exact hu) hd kk
theorem br_alenJ {Y : br_Y} {d : Nat} {P : br_post} {G : br_Jg} (C : br_Ok Y d P G) {q n : Nat} {pc : Nat} {L : List (Option br_V)} {st : List br_V} {σ : br_Wd} (hs : br_shps[q]? = some (.inl (false, n))) (hd : decode Y.2.1 pc = .ok (.arraylength, 1)) (kk : G (pc + 1) L (br_i (br_J (n : Int)) :: st) σ) : G pc L (br_r q :: st) σ := br_alen C hs (Int32.ofInt_eq_ofNat (n := n)).symm hd kk
theorem br_tableInJ {Y : br_Y} {d : Nat} {P : br_post} {G : br_Jg} (C : br_Ok Y d P G) {dflt lo hi : Int} {offs : Array Int} {len : Nat} {x off : Int} {tgt : Nat} {pc : Nat} {L : List (Option br_V)} {st : List br_V} {σ : br_Wd} (h1 : lo ≤ x) (h2 : x ≤ hi) (hx : -2147483648 ≤ x ∧ x < 2147483648) (hd : decode Y.2.1 pc = .ok (.tableswitch dflt lo hi offs, len)) (ho : offs[(x - lo).toNat]? = some off) (ht : (pc : Int) + off = (tgt : Int)) (kk : G tgt L st σ) : G pc L (br_i (br_J x) :: st) σ := br_tableIn C hd (by rw [br_J_toInt hx]; omega) (by rw [br_J_toInt hx]; omega) (by rw [br_J_toInt hx]; exact ho) ht kk
theorem br_tableOutJ {Y : br_Y} {d : Nat} {P : br_post} {G : br_Jg} (C : br_Ok Y d P G) {dflt lo hi : Int} {offs : Array Int} {len : Nat} {x : Int} {tgt : Nat} {pc : Nat} {L : List (Option br_V)} {st : List br_V} {σ : br_Wd} (h : x < lo ∨ hi < x) (hx : -2147483648 ≤ x ∧ x < 2147483648) (hd : decode Y.2.1 pc = .ok (.tableswitch dflt lo hi offs, len)) (ht : (pc : Int) + dflt = (tgt : Int)) (kk : G tgt L st σ) : G pc L (br_i (br_J x) :: st) σ := br_tableOut C hd (by rw [br_J_toInt hx]; exact h) ht kk
-- ends that are known
abbrev br_R (x : Int32) (σ : br_Wd) : br_post := fun v τ => v = some (br_i x) ∧ τ = σ
abbrev br_RL (x : Int64) (σ : br_Wd) : br_post := fun v τ => v = some (br_l x) ∧ τ = σ
abbrev br_RV (σ : br_Wd) : br_post := fun v τ => v = none ∧ τ = σ
theorem br_cv0 {Y : br_Y} {d : Nat} {P : br_post} {G : br_Jg} (C : br_Ok Y d P G) {idx : Nat} {Y2 : br_Y} {d2 : Nat} (hvc : br_vc Y.1.cls idx Y2 0) {q : Nat} {σ : br_Wd} {P2 : br_post} (hM : br_Met d2 Y2 [br_r q] σ P2) (hd2 : d2 < d) {ci : Nat} {fs : List br_FK} {T : u_T} {N : Nat} (hs : br_shps[q]? = some (.inr (ci, fs))) (hc : vwCl[ci]? = some (Y2.1.cls, T, N)) {pc : Nat} {L : List (Option br_V)} {st : List br_V} (hst : ∀ ad, (st.map (fun v => (br_av ad v).category)).sum ≤ 8) (hd : decode Y.2.1 pc = .ok (.invokevirtual idx, 3)) (kk : ∀ v τ, P2 v τ → G (pc + 3) L (v.toList ++ st) τ) : G pc L (br_r q :: st) σ := br_callV C hvc (As := []) hM hd2 hs hc rfl hst hd kk
theorem br_cv0R {Y : br_Y} {d : Nat} {P : br_post} {G : br_Jg} (C : br_Ok Y d P G) {idx : Nat} {Y2 : br_Y} {d2 : Nat} (hvc : br_vc Y.1.cls idx Y2 0) {q : Nat} {σ : br_Wd} {x : Int32} {σ2 : br_Wd} (hM : br_Met d2 Y2 [br_r q] σ (br_R x σ2)) (hd2 : d2 < d) {ci : Nat} {fs : List br_FK} {T : u_T} {N : Nat} (hs : br_shps[q]? = some (.inr (ci, fs))) (hc : vwCl[ci]? = some (Y2.1.cls, T, N)) {pc : Nat} {L : List (Option br_V)} {st : List br_V} (hst : ∀ ad, (st.map (fun v => (br_av ad v).category)).sum ≤ 8) (hd : decode Y.2.1 pc = .ok (.invokevirtual idx, 3)) (kk : G (pc + 3) L (br_i x :: st) σ2) : G pc L (br_r q :: st) σ := br_callV C hvc (As := []) hM hd2 hs hc rfl hst hd (fun v τ h => by obtain ⟨rfl, rfl⟩ := h; exact kk)
theorem br_cv0L {Y : br_Y} {d : Nat} {P : br_post} {G : br_Jg} (C : br_Ok Y d P G) {idx : Nat} {Y2 : br_Y} {d2 : Nat} (hvc : br_vc Y.1.cls idx Y2 0) {q : Nat} {σ : br_Wd} {x : Int64} {σ2 : br_Wd} (hM : br_Met d2 Y2 [br_r q] σ (br_RL x σ2)) (hd2 : d2 < d) {ci : Nat} {fs : List br_FK} {T : u_T} {N : Nat} (hs : br_shps[q]? = some (.inr (ci, fs))) (hc : vwCl[ci]? = some (Y2.1.cls, T, N)) {pc : Nat} {L : List (Option br_V)} {st : List br_V} (hst : ∀ ad, (st.map (fun v => (br_av ad v).category)).sum ≤ 8) (hd : decode Y.2.1 pc = .ok (.invokevirtual idx, 3)) (kk : G (pc + 3) L (br_l x :: st) σ2) : G pc L (br_r q :: st) σ := br_callV C hvc (As := []) hM hd2 hs hc rfl hst hd (fun v τ h => by obtain ⟨rfl, rfl⟩ := h; exact kk)
theorem br_cv0V {Y : br_Y} {d : Nat} {P : br_post} {G : br_Jg} (C : br_Ok Y d P G) {idx : Nat} {Y2 : br_Y} {d2 : Nat} (hvc : br_vc Y.1.cls idx Y2 0) {q : Nat} {σ : br_Wd} {σ2 : br_Wd} (hM : br_Met d2 Y2 [br_r q] σ (br_RV σ2)) (hd2 : d2 < d) {ci : Nat} {fs : List br_FK} {T : u_T} {N : Nat} (hs : br_shps[q]? = some (.inr (ci, fs))) (hc : vwCl[ci]? = some (Y2.1.cls, T, N)) {pc : Nat} {L : List (Option br_V)} {st : List br_V} (hst : ∀ ad, (st.map (fun v => (br_av ad v).category)).sum ≤ 8) (hd : decode Y.2.1 pc = .ok (.invokevirtual idx, 3)) (kk : G (pc + 3) L st σ2) : G pc L (br_r q :: st) σ := br_callV C hvc (As := []) hM hd2 hs hc rfl hst hd (fun v τ h => by obtain ⟨rfl, rfl⟩ := h; exact kk)
theorem br_cv1 {Y : br_Y} {d : Nat} {P : br_post} {G : br_Jg} (C : br_Ok Y d P G) {idx : Nat} {Y2 : br_Y} {d2 : Nat} (hvc : br_vc Y.1.cls idx Y2 1) {q : Nat} {a1 : br_V} {σ : br_Wd} {P2 : br_post} (hM : br_Met d2 Y2 [br_r q, a1] σ P2) (hd2 : d2 < d) {ci : Nat} {fs : List br_FK} {T : u_T} {N : Nat} (hs : br_shps[q]? = some (.inr (ci, fs))) (hc : vwCl[ci]? = some (Y2.1.cls, T, N)) {pc : Nat} {L : List (Option br_V)} {st : List br_V} (hst : ∀ ad, (st.map (fun v => (br_av ad v).category)).sum ≤ 8) (hd : decode Y.2.1 pc = .ok (.invokevirtual idx, 3)) (kk : ∀ v τ, P2 v τ → G (pc + 3) L (v.toList ++ st) τ) : G pc L (a1 :: br_r q :: st) σ := br_callV C hvc (As := [a1]) hM hd2 hs hc rfl hst hd kk
theorem br_cv1R {Y : br_Y} {d : Nat} {P : br_post} {G : br_Jg} (C : br_Ok Y d P G) {idx : Nat} {Y2 : br_Y} {d2 : Nat} (hvc : br_vc Y.1.cls idx Y2 1) {q : Nat} {a1 : br_V} {σ : br_Wd} {x : Int32} {σ2 : br_Wd} (hM : br_Met d2 Y2 [br_r q, a1] σ (br_R x σ2)) (hd2 : d2 < d) {ci : Nat} {fs : List br_FK} {T : u_T} {N : Nat} (hs : br_shps[q]? = some (.inr (ci, fs))) (hc : vwCl[ci]? = some (Y2.1.cls, T, N)) {pc : Nat} {L : List (Option br_V)} {st : List br_V} (hst : ∀ ad, (st.map (fun v => (br_av ad v).category)).sum ≤ 8) (hd : decode Y.2.1 pc = .ok (.invokevirtual idx, 3)) (kk : G (pc + 3) L (br_i x :: st) σ2) : G pc L (a1 :: br_r q :: st) σ := br_callV C hvc (As := [a1]) hM hd2 hs hc rfl hst hd (fun v τ h => by obtain ⟨rfl, rfl⟩ := h; exact kk)
theorem br_cv1L {Y : br_Y} {d : Nat} {P : br_post} {G : br_Jg} (C : br_Ok Y d P G) {idx : Nat} {Y2 : br_Y} {d2 : Nat} (hvc : br_vc Y.1.cls idx Y2 1) {q : Nat} {a1 : br_V} {σ : br_Wd} {x : Int64} {σ2 : br_Wd} (hM : br_Met d2 Y2 [br_r q, a1] σ (br_RL x σ2)) (hd2 : d2 < d) {ci : Nat} {fs : List br_FK} {T : u_T} {N : Nat} (hs : br_shps[q]? = some (.inr (ci, fs))) (hc : vwCl[ci]? = some (Y2.1.cls, T, N)) {pc : Nat} {L : List (Option br_V)} {st : List br_V} (hst : ∀ ad, (st.map (fun v => (br_av ad v).category)).sum ≤ 8) (hd : decode Y.2.1 pc = .ok (.invokevirtual idx, 3)) (kk : G (pc + 3) L (br_l x :: st) σ2) : G pc L (a1 :: br_r q :: st) σ := br_callV C hvc (As := [a1]) hM hd2 hs hc rfl hst hd (fun v τ h => by obtain ⟨rfl, rfl⟩ := h; exact kk)
theorem br_cv1V {Y : br_Y} {d : Nat} {P : br_post} {G : br_Jg} (C : br_Ok Y d P G) {idx : Nat} {Y2 : br_Y} {d2 : Nat} (hvc : br_vc Y.1.cls idx Y2 1) {q : Nat} {a1 : br_V} {σ : br_Wd} {σ2 : br_Wd} (hM : br_Met d2 Y2 [br_r q, a1] σ (br_RV σ2)) (hd2 : d2 < d) {ci : Nat} {fs : List br_FK} {T : u_T} {N : Nat} (hs : br_shps[q]? = some (.inr (ci, fs))) (hc : vwCl[ci]? = some (Y2.1.cls, T, N)) {pc : Nat} {L : List (Option br_V)} {st : List br_V} (hst : ∀ ad, (st.map (fun v => (br_av ad v).category)).sum ≤ 8) (hd : decode Y.2.1 pc = .ok (.invokevirtual idx, 3)) (kk : G (pc + 3) L st σ2) : G pc L (a1 :: br_r q :: st) σ := br_callV C hvc (As := [a1]) hM hd2 hs hc rfl hst hd (fun v τ h => by obtain ⟨rfl, rfl⟩ := h; exact kk)
theorem br_cs1R {Y : br_Y} {d : Nat} {P : br_post} {G : br_Jg} (C : br_Ok Y d P G) {idx : Nat} {Y2 : br_Y} {d2 : Nat} (hvc : br_sc Y.1.cls idx Y2 1) {a1 : br_V} {σ : br_Wd} {x : Int32} {σ2 : br_Wd} (hM : br_Met d2 Y2 [a1] σ (br_R x σ2)) (hd2 : d2 < d) {pc : Nat} {L : List (Option br_V)} {st : List br_V} (hst : ∀ ad, (st.map (fun v => (br_av ad v).category)).sum ≤ 8) (hd : decode Y.2.1 pc = .ok (.invokestatic idx, 3)) (kk : G (pc + 3) L (br_i x :: st) σ2) : G pc L (a1 :: st) σ := br_callS C hvc (As := [a1]) hM hd2 rfl hst hd (fun v τ h => by obtain ⟨rfl, rfl⟩ := h; exact kk)
theorem br_cs1L {Y : br_Y} {d : Nat} {P : br_post} {G : br_Jg} (C : br_Ok Y d P G) {idx : Nat} {Y2 : br_Y} {d2 : Nat} (hvc : br_sc Y.1.cls idx Y2 1) {a1 : br_V} {σ : br_Wd} {x : Int64} {σ2 : br_Wd} (hM : br_Met d2 Y2 [a1] σ (br_RL x σ2)) (hd2 : d2 < d) {pc : Nat} {L : List (Option br_V)} {st : List br_V} (hst : ∀ ad, (st.map (fun v => (br_av ad v).category)).sum ≤ 8) (hd : decode Y.2.1 pc = .ok (.invokestatic idx, 3)) (kk : G (pc + 3) L (br_l x :: st) σ2) : G pc L (a1 :: st) σ := br_callS C hvc (As := [a1]) hM hd2 rfl hst hd (fun v τ h => by obtain ⟨rfl, rfl⟩ := h; exact kk)
theorem br_cs1 {Y : br_Y} {d : Nat} {P : br_post} {G : br_Jg} (C : br_Ok Y d P G) {idx : Nat} {Y2 : br_Y} {d2 : Nat} (hvc : br_sc Y.1.cls idx Y2 1) {a1 : br_V} {σ : br_Wd} {P2 : br_post} (hM : br_Met d2 Y2 [a1] σ P2) (hd2 : d2 < d) {pc : Nat} {L : List (Option br_V)} {st : List br_V} (hst : ∀ ad, (st.map (fun v => (br_av ad v).category)).sum ≤ 8) (hd : decode Y.2.1 pc = .ok (.invokestatic idx, 3)) (kk : ∀ v τ, P2 v τ → G (pc + 3) L (v.toList ++ st) τ) : G pc L (a1 :: st) σ := br_callS C hvc (As := [a1]) hM hd2 rfl hst hd kk
theorem br_cv2 {Y : br_Y} {d : Nat} {P : br_post} {G : br_Jg} (C : br_Ok Y d P G) {idx : Nat} {Y2 : br_Y} {d2 : Nat} (hvc : br_vc Y.1.cls idx Y2 2) {q : Nat} {a1 a2 : br_V} {σ : br_Wd} {P2 : br_post} (hM : br_Met d2 Y2 [br_r q, a1, a2] σ P2) (hd2 : d2 < d) {ci : Nat} {fs : List br_FK} {T : u_T} {N : Nat} (hs : br_shps[q]? = some (.inr (ci, fs))) (hc : vwCl[ci]? = some (Y2.1.cls, T, N)) {pc : Nat} {L : List (Option br_V)} {st : List br_V} (hst : ∀ ad, (st.map (fun v => (br_av ad v).category)).sum ≤ 8) (hd : decode Y.2.1 pc = .ok (.invokevirtual idx, 3)) (kk : ∀ v τ, P2 v τ → G (pc + 3) L (v.toList ++ st) τ) : G pc L (a2 :: a1 :: br_r q :: st) σ := br_callV C hvc (As := [a1, a2]) hM hd2 hs hc rfl hst hd kk
theorem br_cv2R {Y : br_Y} {d : Nat} {P : br_post} {G : br_Jg} (C : br_Ok Y d P G) {idx : Nat} {Y2 : br_Y} {d2 : Nat} (hvc : br_vc Y.1.cls idx Y2 2) {q : Nat} {a1 a2 : br_V} {σ : br_Wd} {x : Int32} {σ2 : br_Wd} (hM : br_Met d2 Y2 [br_r q, a1, a2] σ (br_R x σ2)) (hd2 : d2 < d) {ci : Nat} {fs : List br_FK} {T : u_T} {N : Nat} (hs : br_shps[q]? = some (.inr (ci, fs))) (hc : vwCl[ci]? = some (Y2.1.cls, T, N)) {pc : Nat} {L : List (Option br_V)} {st : List br_V} (hst : ∀ ad, (st.map (fun v => (br_av ad v).category)).sum ≤ 8) (hd : decode Y.2.1 pc = .ok (.invokevirtual idx, 3)) (kk : G (pc + 3) L (br_i x :: st) σ2) : G pc L (a2 :: a1 :: br_r q :: st) σ := br_callV C hvc (As := [a1, a2]) hM hd2 hs hc rfl hst hd (fun v τ h => by obtain ⟨rfl, rfl⟩ := h; exact kk)
theorem br_cv2L {Y : br_Y} {d : Nat} {P : br_post} {G : br_Jg} (C : br_Ok Y d P G) {idx : Nat} {Y2 : br_Y} {d2 : Nat} (hvc : br_vc Y.1.cls idx Y2 2) {q : Nat} {a1 a2 : br_V} {σ : br_Wd} {x : Int64} {σ2 : br_Wd} (hM : br_Met d2 Y2 [br_r q, a1, a2] σ (br_RL x σ2)) (hd2 : d2 < d) {ci : Nat} {fs : List br_FK} {T : u_T} {N : Nat} (hs : br_shps[q]? = some (.inr (ci, fs))) (hc : vwCl[ci]? = some (Y2.1.cls, T, N)) {pc : Nat} {L : List (Option br_V)} {st : List br_V} (hst : ∀ ad, (st.map (fun v => (br_av ad v).category)).sum ≤ 8) (hd : decode Y.2.1 pc = .ok (.invokevirtual idx, 3)) (kk : G (pc + 3) L (br_l x :: st) σ2) : G pc L (a2 :: a1 :: br_r q :: st) σ := br_callV C hvc (As := [a1, a2]) hM hd2 hs hc rfl hst hd (fun v τ h => by obtain ⟨rfl, rfl⟩ := h; exact kk)
theorem br_cv2V {Y : br_Y} {d : Nat} {P : br_post} {G : br_Jg} (C : br_Ok Y d P G) {idx : Nat} {Y2 : br_Y} {d2 : Nat} (hvc : br_vc Y.1.cls idx Y2 2) {q : Nat} {a1 a2 : br_V} {σ : br_Wd} {σ2 : br_Wd} (hM : br_Met d2 Y2 [br_r q, a1, a2] σ (br_RV σ2)) (hd2 : d2 < d) {ci : Nat} {fs : List br_FK} {T : u_T} {N : Nat} (hs : br_shps[q]? = some (.inr (ci, fs))) (hc : vwCl[ci]? = some (Y2.1.cls, T, N)) {pc : Nat} {L : List (Option br_V)} {st : List br_V} (hst : ∀ ad, (st.map (fun v => (br_av ad v).category)).sum ≤ 8) (hd : decode Y.2.1 pc = .ok (.invokevirtual idx, 3)) (kk : G (pc + 3) L st σ2) : G pc L (a2 :: a1 :: br_r q :: st) σ := br_callV C hvc (As := [a1, a2]) hM hd2 hs hc rfl hst hd (fun v τ h => by obtain ⟨rfl, rfl⟩ := h; exact kk)
theorem br_cs2R {Y : br_Y} {d : Nat} {P : br_post} {G : br_Jg} (C : br_Ok Y d P G) {idx : Nat} {Y2 : br_Y} {d2 : Nat} (hvc : br_sc Y.1.cls idx Y2 2) {a1 a2 : br_V} {σ : br_Wd} {x : Int32} {σ2 : br_Wd} (hM : br_Met d2 Y2 [a1, a2] σ (br_R x σ2)) (hd2 : d2 < d) {pc : Nat} {L : List (Option br_V)} {st : List br_V} (hst : ∀ ad, (st.map (fun v => (br_av ad v).category)).sum ≤ 8) (hd : decode Y.2.1 pc = .ok (.invokestatic idx, 3)) (kk : G (pc + 3) L (br_i x :: st) σ2) : G pc L (a2 :: a1 :: st) σ := br_callS C hvc (As := [a1, a2]) hM hd2 rfl hst hd (fun v τ h => by obtain ⟨rfl, rfl⟩ := h; exact kk)
theorem br_cs2L {Y : br_Y} {d : Nat} {P : br_post} {G : br_Jg} (C : br_Ok Y d P G) {idx : Nat} {Y2 : br_Y} {d2 : Nat} (hvc : br_sc Y.1.cls idx Y2 2) {a1 a2 : br_V} {σ : br_Wd} {x : Int64} {σ2 : br_Wd} (hM : br_Met d2 Y2 [a1, a2] σ (br_RL x σ2)) (hd2 : d2 < d) {pc : Nat} {L : List (Option br_V)} {st : List br_V} (hst : ∀ ad, (st.map (fun v => (br_av ad v).category)).sum ≤ 8) (hd : decode Y.2.1 pc = .ok (.invokestatic idx, 3)) (kk : G (pc + 3) L (br_l x :: st) σ2) : G pc L (a2 :: a1 :: st) σ := br_callS C hvc (As := [a1, a2]) hM hd2 rfl hst hd (fun v τ h => by obtain ⟨rfl, rfl⟩ := h; exact kk)
theorem br_cs2 {Y : br_Y} {d : Nat} {P : br_post} {G : br_Jg} (C : br_Ok Y d P G) {idx : Nat} {Y2 : br_Y} {d2 : Nat} (hvc : br_sc Y.1.cls idx Y2 2) {a1 a2 : br_V} {σ : br_Wd} {P2 : br_post} (hM : br_Met d2 Y2 [a1, a2] σ P2) (hd2 : d2 < d) {pc : Nat} {L : List (Option br_V)} {st : List br_V} (hst : ∀ ad, (st.map (fun v => (br_av ad v).category)).sum ≤ 8) (hd : decode Y.2.1 pc = .ok (.invokestatic idx, 3)) (kk : ∀ v τ, P2 v τ → G (pc + 3) L (v.toList ++ st) τ) : G pc L (a2 :: a1 :: st) σ := br_callS C hvc (As := [a1, a2]) hM hd2 rfl hst hd kk
theorem br_cv3 {Y : br_Y} {d : Nat} {P : br_post} {G : br_Jg} (C : br_Ok Y d P G) {idx : Nat} {Y2 : br_Y} {d2 : Nat} (hvc : br_vc Y.1.cls idx Y2 3) {q : Nat} {a1 a2 a3 : br_V} {σ : br_Wd} {P2 : br_post} (hM : br_Met d2 Y2 [br_r q, a1, a2, a3] σ P2) (hd2 : d2 < d) {ci : Nat} {fs : List br_FK} {T : u_T} {N : Nat} (hs : br_shps[q]? = some (.inr (ci, fs))) (hc : vwCl[ci]? = some (Y2.1.cls, T, N)) {pc : Nat} {L : List (Option br_V)} {st : List br_V} (hst : ∀ ad, (st.map (fun v => (br_av ad v).category)).sum ≤ 8) (hd : decode Y.2.1 pc = .ok (.invokevirtual idx, 3)) (kk : ∀ v τ, P2 v τ → G (pc + 3) L (v.toList ++ st) τ) : G pc L (a3 :: a2 :: a1 :: br_r q :: st) σ := br_callV C hvc (As := [a1, a2, a3]) hM hd2 hs hc rfl hst hd kk
theorem br_cv3R {Y : br_Y} {d : Nat} {P : br_post} {G : br_Jg} (C : br_Ok Y d P G) {idx : Nat} {Y2 : br_Y} {d2 : Nat} (hvc : br_vc Y.1.cls idx Y2 3) {q : Nat} {a1 a2 a3 : br_V} {σ : br_Wd} {x : Int32} {σ2 : br_Wd} (hM : br_Met d2 Y2 [br_r q, a1, a2, a3] σ (br_R x σ2)) (hd2 : d2 < d) {ci : Nat} {fs : List br_FK} {T : u_T} {N : Nat} (hs : br_shps[q]? = some (.inr (ci, fs))) (hc : vwCl[ci]? = some (Y2.1.cls, T, N)) {pc : Nat} {L : List (Option br_V)} {st : List br_V} (hst : ∀ ad, (st.map (fun v => (br_av ad v).category)).sum ≤ 8) (hd : decode Y.2.1 pc = .ok (.invokevirtual idx, 3)) (kk : G (pc + 3) L (br_i x :: st) σ2) : G pc L (a3 :: a2 :: a1 :: br_r q :: st) σ := br_callV C hvc (As := [a1, a2, a3]) hM hd2 hs hc rfl hst hd (fun v τ h => by obtain ⟨rfl, rfl⟩ := h; exact kk)
theorem br_cv3L {Y : br_Y} {d : Nat} {P : br_post} {G : br_Jg} (C : br_Ok Y d P G) {idx : Nat} {Y2 : br_Y} {d2 : Nat} (hvc : br_vc Y.1.cls idx Y2 3) {q : Nat} {a1 a2 a3 : br_V} {σ : br_Wd} {x : Int64} {σ2 : br_Wd} (hM : br_Met d2 Y2 [br_r q, a1, a2, a3] σ (br_RL x σ2)) (hd2 : d2 < d) {ci : Nat} {fs : List br_FK} {T : u_T} {N : Nat} (hs : br_shps[q]? = some (.inr (ci, fs))) (hc : vwCl[ci]? = some (Y2.1.cls, T, N)) {pc : Nat} {L : List (Option br_V)} {st : List br_V} (hst : ∀ ad, (st.map (fun v => (br_av ad v).category)).sum ≤ 8) (hd : decode Y.2.1 pc = .ok (.invokevirtual idx, 3)) (kk : G (pc + 3) L (br_l x :: st) σ2) : G pc L (a3 :: a2 :: a1 :: br_r q :: st) σ := br_callV C hvc (As := [a1, a2, a3]) hM hd2 hs hc rfl hst hd (fun v τ h => by obtain ⟨rfl, rfl⟩ := h; exact kk)
theorem br_cv3V {Y : br_Y} {d : Nat} {P : br_post} {G : br_Jg} (C : br_Ok Y d P G) {idx : Nat} {Y2 : br_Y} {d2 : Nat} (hvc : br_vc Y.1.cls idx Y2 3) {q : Nat} {a1 a2 a3 : br_V} {σ : br_Wd} {σ2 : br_Wd} (hM : br_Met d2 Y2 [br_r q, a1, a2, a3] σ (br_RV σ2)) (hd2 : d2 < d) {ci : Nat} {fs : List br_FK} {T : u_T} {N : Nat} (hs : br_shps[q]? = some (.inr (ci, fs))) (hc : vwCl[ci]? = some (Y2.1.cls, T, N)) {pc : Nat} {L : List (Option br_V)} {st : List br_V} (hst : ∀ ad, (st.map (fun v => (br_av ad v).category)).sum ≤ 8) (hd : decode Y.2.1 pc = .ok (.invokevirtual idx, 3)) (kk : G (pc + 3) L st σ2) : G pc L (a3 :: a2 :: a1 :: br_r q :: st) σ := br_callV C hvc (As := [a1, a2, a3]) hM hd2 hs hc rfl hst hd (fun v τ h => by obtain ⟨rfl, rfl⟩ := h; exact kk)
theorem br_cs3R {Y : br_Y} {d : Nat} {P : br_post} {G : br_Jg} (C : br_Ok Y d P G) {idx : Nat} {Y2 : br_Y} {d2 : Nat} (hvc : br_sc Y.1.cls idx Y2 3) {a1 a2 a3 : br_V} {σ : br_Wd} {x : Int32} {σ2 : br_Wd} (hM : br_Met d2 Y2 [a1, a2, a3] σ (br_R x σ2)) (hd2 : d2 < d) {pc : Nat} {L : List (Option br_V)} {st : List br_V} (hst : ∀ ad, (st.map (fun v => (br_av ad v).category)).sum ≤ 8) (hd : decode Y.2.1 pc = .ok (.invokestatic idx, 3)) (kk : G (pc + 3) L (br_i x :: st) σ2) : G pc L (a3 :: a2 :: a1 :: st) σ := br_callS C hvc (As := [a1, a2, a3]) hM hd2 rfl hst hd (fun v τ h => by obtain ⟨rfl, rfl⟩ := h; exact kk)
theorem br_cs3L {Y : br_Y} {d : Nat} {P : br_post} {G : br_Jg} (C : br_Ok Y d P G) {idx : Nat} {Y2 : br_Y} {d2 : Nat} (hvc : br_sc Y.1.cls idx Y2 3) {a1 a2 a3 : br_V} {σ : br_Wd} {x : Int64} {σ2 : br_Wd} (hM : br_Met d2 Y2 [a1, a2, a3] σ (br_RL x σ2)) (hd2 : d2 < d) {pc : Nat} {L : List (Option br_V)} {st : List br_V} (hst : ∀ ad, (st.map (fun v => (br_av ad v).category)).sum ≤ 8) (hd : decode Y.2.1 pc = .ok (.invokestatic idx, 3)) (kk : G (pc + 3) L (br_l x :: st) σ2) : G pc L (a3 :: a2 :: a1 :: st) σ := br_callS C hvc (As := [a1, a2, a3]) hM hd2 rfl hst hd (fun v τ h => by obtain ⟨rfl, rfl⟩ := h; exact kk)
theorem br_cs3 {Y : br_Y} {d : Nat} {P : br_post} {G : br_Jg} (C : br_Ok Y d P G) {idx : Nat} {Y2 : br_Y} {d2 : Nat} (hvc : br_sc Y.1.cls idx Y2 3) {a1 a2 a3 : br_V} {σ : br_Wd} {P2 : br_post} (hM : br_Met d2 Y2 [a1, a2, a3] σ P2) (hd2 : d2 < d) {pc : Nat} {L : List (Option br_V)} {st : List br_V} (hst : ∀ ad, (st.map (fun v => (br_av ad v).category)).sum ≤ 8) (hd : decode Y.2.1 pc = .ok (.invokestatic idx, 3)) (kk : ∀ v τ, P2 v τ → G (pc + 3) L (v.toList ++ st) τ) : G pc L (a3 :: a2 :: a1 :: st) σ := br_callS C hvc (As := [a1, a2, a3]) hM hd2 rfl hst hd kk
theorem br_Met.to {d : Nat} {Y : br_Y} {args : List br_V} {σ : br_Wd} {P P' : br_post} (h : br_Met d Y args σ P) (hp : ∀ v τ, P v τ → P' v τ) : br_Met d Y args σ P' := by
  intro l D cI cZ ad sz p e ha hc hk s m args below hf hpre hPc _
  obtain ⟨t, o, h1, h2, h3, ⟨⟨⟨v, τ, e1, e2, e3⟩, e4⟩, e5⟩⟩ := h l D cI cZ ad sz p e ha hc hk s m args below hf hpre hPc trivial
  exact ⟨t, o, h1, h2, h3, ⟨⟨⟨v, τ, e1, hp v τ e2, e3⟩, e4⟩, e5⟩⟩
theorem br_cv0B {Y : br_Y} {d : Nat} {P : br_post} {G : br_Jg} (C : br_Ok Y d P G) {idx : Nat} {Y2 : br_Y} {d2 : Nat} (hvc : br_vc Y.1.cls idx Y2 0) {q : Nat} {σ : br_Wd} {p : Prop} {ip : Decidable p} {σ2 : br_Wd} (hM : br_Met d2 Y2 [br_r q] σ (br_R (br_J (if p then 1 else 0)) σ2)) (hd2 : d2 < d) {ci : Nat} {fs : List br_FK} {T : u_T} {N : Nat} (hs : br_shps[q]? = some (.inr (ci, fs))) (hc : vwCl[ci]? = some (Y2.1.cls, T, N)) {pc : Nat} {L : List (Option br_V)} {st : List br_V} (hst : ∀ ad, (st.map (fun v => (br_av ad v).category)).sum ≤ 8) (hd : decode Y.2.1 pc = .ok (.invokevirtual idx, 3)) (kt : p → G (pc + 3) L (br_i (br_J 1) :: st) σ2) (kf : ¬ p → G (pc + 3) L (br_i (br_J 0) :: st) σ2) : G pc L (br_r q :: st) σ := br_callV C hvc (As := []) hM hd2 hs hc rfl hst hd (fun v τ h => by
  obtain ⟨rfl, rfl⟩ := h
  by_cases hp : p
  · rw [if_pos hp]; exact kt hp
  · rw [if_neg hp]; exact kf hp)
theorem br_cv1B {Y : br_Y} {d : Nat} {P : br_post} {G : br_Jg} (C : br_Ok Y d P G) {idx : Nat} {Y2 : br_Y} {d2 : Nat} (hvc : br_vc Y.1.cls idx Y2 1) {q : Nat} {a1 : br_V} {σ : br_Wd} {p : Prop} {ip : Decidable p} {σ2 : br_Wd} (hM : br_Met d2 Y2 [br_r q, a1] σ (br_R (br_J (if p then 1 else 0)) σ2)) (hd2 : d2 < d) {ci : Nat} {fs : List br_FK} {T : u_T} {N : Nat} (hs : br_shps[q]? = some (.inr (ci, fs))) (hc : vwCl[ci]? = some (Y2.1.cls, T, N)) {pc : Nat} {L : List (Option br_V)} {st : List br_V} (hst : ∀ ad, (st.map (fun v => (br_av ad v).category)).sum ≤ 8) (hd : decode Y.2.1 pc = .ok (.invokevirtual idx, 3)) (kt : p → G (pc + 3) L (br_i (br_J 1) :: st) σ2) (kf : ¬ p → G (pc + 3) L (br_i (br_J 0) :: st) σ2) : G pc L (a1 :: br_r q :: st) σ := br_callV C hvc (As := [a1]) hM hd2 hs hc rfl hst hd (fun v τ h => by
  obtain ⟨rfl, rfl⟩ := h
  by_cases hp : p
  · rw [if_pos hp]; exact kt hp
  · rw [if_neg hp]; exact kf hp)
theorem br_cs1B {Y : br_Y} {d : Nat} {P : br_post} {G : br_Jg} (C : br_Ok Y d P G) {idx : Nat} {Y2 : br_Y} {d2 : Nat} (hvc : br_sc Y.1.cls idx Y2 1) {a1 : br_V} {σ : br_Wd} {p : Prop} {ip : Decidable p} {σ2 : br_Wd} (hM : br_Met d2 Y2 [a1] σ (br_R (br_J (if p then 1 else 0)) σ2)) (hd2 : d2 < d) {pc : Nat} {L : List (Option br_V)} {st : List br_V} (hst : ∀ ad, (st.map (fun v => (br_av ad v).category)).sum ≤ 8) (hd : decode Y.2.1 pc = .ok (.invokestatic idx, 3)) (kt : p → G (pc + 3) L (br_i (br_J 1) :: st) σ2) (kf : ¬ p → G (pc + 3) L (br_i (br_J 0) :: st) σ2) : G pc L (a1 :: st) σ := br_callS C hvc (As := [a1]) hM hd2 rfl hst hd (fun v τ h => by
  obtain ⟨rfl, rfl⟩ := h
  by_cases hp : p
  · rw [if_pos hp]; exact kt hp
  · rw [if_neg hp]; exact kf hp)
theorem br_cv2B {Y : br_Y} {d : Nat} {P : br_post} {G : br_Jg} (C : br_Ok Y d P G) {idx : Nat} {Y2 : br_Y} {d2 : Nat} (hvc : br_vc Y.1.cls idx Y2 2) {q : Nat} {a1 a2 : br_V} {σ : br_Wd} {p : Prop} {ip : Decidable p} {σ2 : br_Wd} (hM : br_Met d2 Y2 [br_r q, a1, a2] σ (br_R (br_J (if p then 1 else 0)) σ2)) (hd2 : d2 < d) {ci : Nat} {fs : List br_FK} {T : u_T} {N : Nat} (hs : br_shps[q]? = some (.inr (ci, fs))) (hc : vwCl[ci]? = some (Y2.1.cls, T, N)) {pc : Nat} {L : List (Option br_V)} {st : List br_V} (hst : ∀ ad, (st.map (fun v => (br_av ad v).category)).sum ≤ 8) (hd : decode Y.2.1 pc = .ok (.invokevirtual idx, 3)) (kt : p → G (pc + 3) L (br_i (br_J 1) :: st) σ2) (kf : ¬ p → G (pc + 3) L (br_i (br_J 0) :: st) σ2) : G pc L (a2 :: a1 :: br_r q :: st) σ := br_callV C hvc (As := [a1, a2]) hM hd2 hs hc rfl hst hd (fun v τ h => by
  obtain ⟨rfl, rfl⟩ := h
  by_cases hp : p
  · rw [if_pos hp]; exact kt hp
  · rw [if_neg hp]; exact kf hp)
theorem br_cs2B {Y : br_Y} {d : Nat} {P : br_post} {G : br_Jg} (C : br_Ok Y d P G) {idx : Nat} {Y2 : br_Y} {d2 : Nat} (hvc : br_sc Y.1.cls idx Y2 2) {a1 a2 : br_V} {σ : br_Wd} {p : Prop} {ip : Decidable p} {σ2 : br_Wd} (hM : br_Met d2 Y2 [a1, a2] σ (br_R (br_J (if p then 1 else 0)) σ2)) (hd2 : d2 < d) {pc : Nat} {L : List (Option br_V)} {st : List br_V} (hst : ∀ ad, (st.map (fun v => (br_av ad v).category)).sum ≤ 8) (hd : decode Y.2.1 pc = .ok (.invokestatic idx, 3)) (kt : p → G (pc + 3) L (br_i (br_J 1) :: st) σ2) (kf : ¬ p → G (pc + 3) L (br_i (br_J 0) :: st) σ2) : G pc L (a2 :: a1 :: st) σ := br_callS C hvc (As := [a1, a2]) hM hd2 rfl hst hd (fun v τ h => by
  obtain ⟨rfl, rfl⟩ := h
  by_cases hp : p
  · rw [if_pos hp]; exact kt hp
  · rw [if_neg hp]; exact kf hp)
theorem br_cv3B {Y : br_Y} {d : Nat} {P : br_post} {G : br_Jg} (C : br_Ok Y d P G) {idx : Nat} {Y2 : br_Y} {d2 : Nat} (hvc : br_vc Y.1.cls idx Y2 3) {q : Nat} {a1 a2 a3 : br_V} {σ : br_Wd} {p : Prop} {ip : Decidable p} {σ2 : br_Wd} (hM : br_Met d2 Y2 [br_r q, a1, a2, a3] σ (br_R (br_J (if p then 1 else 0)) σ2)) (hd2 : d2 < d) {ci : Nat} {fs : List br_FK} {T : u_T} {N : Nat} (hs : br_shps[q]? = some (.inr (ci, fs))) (hc : vwCl[ci]? = some (Y2.1.cls, T, N)) {pc : Nat} {L : List (Option br_V)} {st : List br_V} (hst : ∀ ad, (st.map (fun v => (br_av ad v).category)).sum ≤ 8) (hd : decode Y.2.1 pc = .ok (.invokevirtual idx, 3)) (kt : p → G (pc + 3) L (br_i (br_J 1) :: st) σ2) (kf : ¬ p → G (pc + 3) L (br_i (br_J 0) :: st) σ2) : G pc L (a3 :: a2 :: a1 :: br_r q :: st) σ := br_callV C hvc (As := [a1, a2, a3]) hM hd2 hs hc rfl hst hd (fun v τ h => by
  obtain ⟨rfl, rfl⟩ := h
  by_cases hp : p
  · rw [if_pos hp]; exact kt hp
  · rw [if_neg hp]; exact kf hp)
theorem br_cs3B {Y : br_Y} {d : Nat} {P : br_post} {G : br_Jg} (C : br_Ok Y d P G) {idx : Nat} {Y2 : br_Y} {d2 : Nat} (hvc : br_sc Y.1.cls idx Y2 3) {a1 a2 a3 : br_V} {σ : br_Wd} {p : Prop} {ip : Decidable p} {σ2 : br_Wd} (hM : br_Met d2 Y2 [a1, a2, a3] σ (br_R (br_J (if p then 1 else 0)) σ2)) (hd2 : d2 < d) {pc : Nat} {L : List (Option br_V)} {st : List br_V} (hst : ∀ ad, (st.map (fun v => (br_av ad v).category)).sum ≤ 8) (hd : decode Y.2.1 pc = .ok (.invokestatic idx, 3)) (kt : p → G (pc + 3) L (br_i (br_J 1) :: st) σ2) (kf : ¬ p → G (pc + 3) L (br_i (br_J 0) :: st) σ2) : G pc L (a3 :: a2 :: a1 :: st) σ := br_callS C hvc (As := [a1, a2, a3]) hM hd2 rfl hst hd (fun v τ h => by
  obtain ⟨rfl, rfl⟩ := h
  by_cases hp : p
  · rw [if_pos hp]; exact kt hp
  · rw [if_neg hp]; exact kf hp)
theorem br_if_eq0 {Y : br_Y} {d : Nat} {P : br_post} {G : br_Jg} (C : br_Ok Y d P G) {off : Int} {tgt : Nat} {pc : Nat} {L : List (Option br_V)} {st : List br_V} {σ : br_Wd} (hd : decode Y.2.1 pc = .ok (.ifCond .eq off, 3)) (ht : (pc : Int) + off = (tgt : Int)) (kk : G tgt L st σ) : G pc L (br_i (br_J 0) :: st) σ := br_if_eqJ C ⟨by omega, by omega⟩ hd ht (fun h => kk) (fun h => absurd h (by omega))
theorem br_if_eq1 {Y : br_Y} {d : Nat} {P : br_post} {G : br_Jg} (C : br_Ok Y d P G) {off : Int} {tgt : Nat} {pc : Nat} {L : List (Option br_V)} {st : List br_V} {σ : br_Wd} (hd : decode Y.2.1 pc = .ok (.ifCond .eq off, 3)) (ht : (pc : Int) + off = (tgt : Int)) (kk : G (pc + 3) L st σ) : G pc L (br_i (br_J 1) :: st) σ := br_if_eqJ C ⟨by omega, by omega⟩ hd ht (fun h => absurd h (by omega)) (fun h => kk)
theorem br_if_ne0 {Y : br_Y} {d : Nat} {P : br_post} {G : br_Jg} (C : br_Ok Y d P G) {off : Int} {tgt : Nat} {pc : Nat} {L : List (Option br_V)} {st : List br_V} {σ : br_Wd} (hd : decode Y.2.1 pc = .ok (.ifCond .ne off, 3)) (ht : (pc : Int) + off = (tgt : Int)) (kk : G (pc + 3) L st σ) : G pc L (br_i (br_J 0) :: st) σ := br_if_neJ C ⟨by omega, by omega⟩ hd ht (fun h => absurd h (by omega)) (fun h => kk)
theorem br_if_ne1 {Y : br_Y} {d : Nat} {P : br_post} {G : br_Jg} (C : br_Ok Y d P G) {off : Int} {tgt : Nat} {pc : Nat} {L : List (Option br_V)} {st : List br_V} {σ : br_Wd} (hd : decode Y.2.1 pc = .ok (.ifCond .ne off, 3)) (ht : (pc : Int) + off = (tgt : Int)) (kk : G tgt L st σ) : G pc L (br_i (br_J 1) :: st) σ := br_if_neJ C ⟨by omega, by omega⟩ hd ht (fun h => kk) (fun h => absurd h (by omega))
theorem br_mx1 : Cond.methodLink RX4 234 Lib.Math.max.name ∈ br_W0 := br_W0_in (i := 261) (by decide +kernel) (by decide +kernel)
theorem br_mx2 : Cond.static Lib.Math.max.name ∈ br_W0 := br_W0_in (i := 262) (by decide +kernel) (by decide +kernel)
theorem br_mx3 : Cond.initialized "java/lang/Math" ∈ br_W0 := br_W0_in (i := 44) (by decide +kernel) (by decide +kernel)
theorem br_mx4 : Cond.code Lib.Math.max.name Lib.Math.max.code 2 (some .int) ∈ br_W0 := br_W0_in (i := 263) (by decide +kernel) (by decide +kernel)
theorem br_mmax {Y : br_Y} {d : Nat} {P : br_post} {G : br_Jg} (C : br_Ok Y d P G) (ho : Y.1.cls = RX4) {a b : Int} (ha : -2147483648 ≤ a ∧ a < 2147483648) (hb2 : -2147483648 ≤ b ∧ b < 2147483648) (hd0 : 0 < d) {pc : Nat} {L : List (Option br_V)} {st : List br_V} {σ : br_Wd} (hst : ∀ ad, (st.map (fun v => (br_av ad v).category)).sum ≤ 8) (hd : decode Y.2.1 pc = .ok (.invokestatic 234, 3)) (kk : G (pc + 3) L (br_i (br_J (max a b)) :: st) σ) : G pc L (br_i (br_J b) :: br_i (br_J a) :: st) σ := by
  obtain ⟨p, l, e, R, s, m, args, below, meth, c, cells, slots, Q, D, cI, cZ, ad, A, H0, ⟨hx, hb, hml, hown, hts⟩, ⟨hK, hD, hA, hN⟩, hR, hfin, hG⟩ := C
  rw [hG] at kk ⊢
  intro H locs ls hP hS hl'
  have h1 := hR.1
  have h2 := hR.2.1
  have h3 := hst ad
  rw [ho] at hown
  refine va_mmax hx hb (hml.trans hl'.1.symm) hown (hts _ br_mx1) (hts _ br_mx2) (hts _ br_mx3) (hts _ br_mx4) (by omega) (by rw [List.map_map]; exact Nat.le_trans (Nat.add_le_add_right h3 13) (by omega)) hR.2.2.1 hR.2.2.2 hd ?_
  have e2 : (if br_J a < br_J b then br_J b else br_J a) = br_J (max a b) := by
    by_cases h : a < b
    · rw [if_pos ((br_J_lt ha hb2).mpr h), show max a b = b by omega]
    · rw [if_neg (fun q => h ((br_J_lt ha hb2).mp q)), show max a b = a by omega]
  rw [e2]
  exact kk H locs ls hP hS hl'
end
section
/-! What the system speaks of, in whole numbers: a gym, a row of pieces, scores, ways; and how the worlds of class and model hold them. -/
-- a gym: how many pieces; kind, worth, sureness of each
abbrev br_Gy : Type := Nat × (Nat → Int) × (Nat → Int) × (Nat → Int)
abbrev br_gK (g : br_Gy) : Nat → Int := g.2.1
abbrev br_gW (g : br_Gy) : Nat → Int := g.2.2.1
abbrev br_gS (g : br_Gy) : Nat → Int := g.2.2.2
def br_Gok (g : br_Gy) : Prop := g.1 ≤ 7 ∧ ∀ j : Nat, j < g.1 → (0 ≤ br_gK g j ∧ br_gK g j ≤ 4) ∧ (1 ≤ br_gW g j ∧ br_gW g j ≤ 9) ∧ 1 ≤ br_gS g j ∧ br_gS g j ≤ 9
def br_GC (σ : br_Wd) (g : br_Gy) : Prop := σ.1 3 3 = br_J g.1 ∧ (∀ j : Nat, j < g.1 → σ.1 4 j = br_J (br_gK g j)) ∧ (∀ j : Nat, j < g.1 → σ.1 5 j = br_J (br_gW g j)) ∧ ∀ j : Nat, j < g.1 → σ.1 6 j = br_J (br_gS g j)
def br_GM (σ : br_Wd) (g : br_Gy) : Prop := σ.1 23 2 = br_J g.1 ∧ (∀ j : Nat, j < g.1 → σ.1 25 (3 * j) = br_J (br_gK g j)) ∧ (∀ j : Nat, j < g.1 → σ.1 25 (3 * j + 1) = br_J (br_gW g j)) ∧ ∀ j : Nat, j < g.1 → σ.1 25 (3 * j + 2) = br_J (br_gS g j)
-- a row of pieces
abbrev br_Ro : Type := Nat × (Nat → Nat)
def br_Rok (g : br_Gy) (r : br_Ro) : Prop := r.1 ≤ 5 ∧ (∀ j : Nat, j < r.1 → r.2 j < g.1) ∧ ∀ i j : Nat, i < r.1 → j < r.1 → r.2 i = r.2 j → i = j
def br_RC (q : Nat) (σ : br_Wd) (r : br_Ro) : Prop := σ.1 q 2 = br_J r.1 ∧ ∀ j : Nat, j < r.1 → σ.1 (q + 1) j = br_J (r.2 j)
def br_RM (a : Nat) (σ : br_Wd) (r : br_Ro) : Prop := ∀ j : Nat, j < r.1 → σ.1 a j = br_J (r.2 j)
-- what the class' gym answers for any number
def br_kO (g : br_Gy) (z : Int) : Int := if 0 ≤ z ∧ z < g.1 then br_gK g z.toNat else -1
def br_wO (g : br_Gy) (z : Int) : Int := if 0 ≤ z ∧ z < g.1 then br_gW g z.toNat else 0
def br_sO (g : br_Gy) (z : Int) : Int := if 0 ≤ z ∧ z < g.1 then br_gS g z.toNat else 0
abbrev br_isP (g : br_Gy) (z kd : Int) : Prop := (0 ≤ z ∧ z < g.1) ∧ (kd = 0 ∨ kd = br_gK g z.toNat ∨ kd = 1 ∧ br_gK g z.toNat = 4)
abbrev br_isF (g : br_Gy) (p : Nat) : Prop := br_gK g p = 1 ∨ br_gK g p = 4
abbrev br_isT (g : br_Gy) (p : Nat) : Prop := br_gK g p = 2
/-- how often of ten -/
def br_ch (kd su pl : Int) : Int := max 0 (su - if kd = 3 then 0 else max 0 (pl - 2))
def br_sum (f : Nat → Int) : Nat → Int
  | 0 => 0
  | n + 1 => br_sum f n + f n
def br_prod (f : Nat → Int) : Nat → Int
  | 0 => 1
  | n + 1 => br_prod f n * f n
def br_kd (c : Int) : Int := if c = 112 then 0 else if c = 102 then 1 else if c = 116 then 2 else if c = 104 then 3 else if c = 114 then 4 else -1
abbrev br_fit (p : Nat) (c : Int) : Prop := p < 27 ∧ ((p % 4 = 0 ∧ ¬ br_kd c = -1) ∨ (p % 4 = 3 ∧ c = 44) ∨ ((p % 4 = 1 ∨ p % 4 = 2) ∧ 49 ≤ c ∧ c ≤ 57))
-- a page: how many letters, their codes
abbrev br_Pg : Type := Nat × (Nat → Int)
def br_Pok (w : br_Pg) : Prop := w.1 ≤ 30 ∧ ∀ j : Nat, j < w.1 → 1 ≤ w.2 j ∧ w.2 j ≤ 126
def br_PC (σ : br_Wd) (w : br_Pg) : Prop := σ.1 1 1 = br_J w.1 ∧ ∀ j : Nat, j < w.1 → σ.1 2 j = br_J (w.2 j)
def br_PM (σ : br_Wd) (w : br_Pg) : Prop := σ.1 23 1 = br_J w.1 ∧ ∀ j : Nat, j < w.1 → σ.1 24 j = br_J (w.2 j)
/-- the first place from k on, of the n that are left, that no gym has -/
def br_ff (w : br_Pg) : Nat → Nat → Nat
  | _, 0 => w.1
  | k, n + 1 => if br_fit k (w.2 k) then br_ff w (k + 1) n else k
def br_fault (w : br_Pg) : Nat := br_ff w 0 w.1
-- rows: where a piece is, what is put, taken, changed about
def br_lst (p : Nat → Bool) : Nat → Int
  | 0 => -1
  | n + 1 => if p n = true then n else br_lst p n
theorem br_lst_bnd (p : Nat → Bool) (n : Nat) : -1 ≤ br_lst p n ∧ br_lst p n < n := by
  induction n with
  | zero => exact ⟨Int.le_refl _, by show (-1 : Int) < 0; omega⟩
  | succ n ih => unfold br_lst; split <;> omega
theorem br_lst_none (p : Nat → Bool) (n : Nat) (h : ∀ j : Nat, j < n → p j = false) : br_lst p n = -1 := by
  induction n with
  | zero => rfl
  | succ n ih => unfold br_lst; rw [h n (by omega), if_neg (by decide)]; exact ih (fun j hj => h j (by omega))
theorem br_lst_one (p : Nat → Bool) (n i : Nat) (hi : i < n) (hp : p i = true) (hu : ∀ j : Nat, j < n → p j = true → j = i) : br_lst p n = i := by
  induction n with
  | zero => omega
  | succ n ih =>
    unfold br_lst
    by_cases h : p n = true
    · rw [if_pos h, hu n (by omega) h]
    · rw [if_neg h]
      have hne : i ≠ n := fun e => h (by rw [← e]; exact hp)
      exact ih (by omega) (fun j hj => hu j (by omega))
theorem br_lst_congr {p p' : Nat → Bool} {n : Nat} (h : ∀ j : Nat, j < n → p j = p' j) : br_lst p n = br_lst p' n := by
  induction n with
  | zero => rfl
  | succ n ih => unfold br_lst; rw [h n (by omega), ih (fun j hj => h j (by omega))]
theorem br_lst_some (p : Nat → Bool) (n : Nat) (h : ¬ br_lst p n = -1) : 0 ≤ br_lst p n ∧ p (br_lst p n).toNat = true := by
  induction n with
  | zero => exact absurd rfl h
  | succ n ih =>
    unfold br_lst at h ⊢
    by_cases hp : p n = true
    · rw [if_pos hp]; exact ⟨by omega, by simpa using hp⟩
    · rw [if_neg hp] at h ⊢; exact ih h
def br_po (r : br_Ro) (z : Int) : Int := br_lst (fun j => decide (((r.2 j : Nat) : Int) = z)) r.1
def br_pO (r : br_Ro) (z : Int) : Int := if 0 ≤ z ∧ z < r.1 then ((r.2 z.toNat : Nat) : Int) else -1
def br_app (r : br_Ro) (p : Nat) : br_Ro := (r.1 + 1, fun j => if j = r.1 then p else r.2 j)
def br_rem (r : br_Ro) (k : Nat) : br_Ro := (r.1 - 1, fun j => if j < k then r.2 j else r.2 (j + 1))
def br_swp (r : br_Ro) (a b : Nat) : br_Ro := (r.1, fun j => if j = b then r.2 a else if j = a then r.2 b else r.2 j)
def br_sm (qs : List Nat) (σ τ : br_Wd) : Prop := (∀ p : Nat, p ∉ qs → τ.1 p = σ.1 p) ∧ τ.2 = σ.2
theorem br_sm.rfl {qs : List Nat} {σ : br_Wd} : br_sm qs σ σ := ⟨fun _ _ => Eq.refl _, Eq.refl _⟩
theorem br_sm.up {qs : List Nat} {σ τ : br_Wd} {q k : Nat} {x : Int32} (h : br_sm qs σ τ) (hq : q ∈ qs) : br_sm qs σ (br_up τ q k x) := by
  refine ⟨fun p hp => ?_, h.2⟩
  have hne : ¬ p = q := fun e => hp (by rw [e]; exact hq)
  rw [← h.1 p hp]
  funext j
  simp [br_up, hne]
theorem br_sm.trans {qs : List Nat} {σ τ υ : br_Wd} (h1 : br_sm qs σ τ) (h2 : br_sm qs τ υ) : br_sm qs σ υ := ⟨fun p hp => (h2.1 p hp).trans (h1.1 p hp), h2.2.trans h1.2⟩
theorem br_sm.mono {qs qs' : List Nat} {σ τ : br_Wd} (h : br_sm qs σ τ) (hs : ∀ q ∈ qs, q ∈ qs') : br_sm qs' σ τ := ⟨fun p hp => h.1 p (fun hq => hp (hs p hq)), h.2⟩
-- sums and products
theorem br_sum_congr {f f' : Nat → Int} {n : Nat} (h : ∀ j : Nat, j < n → f j = f' j) : br_sum f n = br_sum f' n := by
  induction n with
  | zero => rfl
  | succ n ih => unfold br_sum; rw [h n (by omega), ih (fun j hj => h j (by omega))]
theorem br_prod_congr {f f' : Nat → Int} {n : Nat} (h : ∀ j : Nat, j < n → f j = f' j) : br_prod f n = br_prod f' n := by
  induction n with
  | zero => rfl
  | succ n ih => unfold br_prod; rw [h n (by omega), ih (fun j hj => h j (by omega))]
theorem br_sum_bnd {f : Nat → Int} {n : Nat} {a b : Int} (h : ∀ j : Nat, j < n → a ≤ f j ∧ f j ≤ b) : n * a ≤ br_sum f n ∧ br_sum f n ≤ n * b := by
  induction n with
  | zero => simp [br_sum]
  | succ n ih =>
    have h1 := ih (fun j hj => h j (by omega))
    have h2 := h n (by omega)
    have e1 : ((n + 1 : Nat) : Int) * a = n * a + a := by rw [Int.natCast_add, Int.add_mul]; simp
    have e2 : ((n + 1 : Nat) : Int) * b = n * b + b := by rw [Int.natCast_add, Int.add_mul]; simp
    unfold br_sum
    omega
theorem br_prod_bnd {f : Nat → Int} {n : Nat} (h : ∀ j : Nat, j < n → 0 ≤ f j ∧ f j ≤ 10) : 0 ≤ br_prod f n ∧ br_prod f n ≤ 10 ^ n := by
  induction n with
  | zero => simp [br_prod]
  | succ n ih =>
    have h1 := ih (fun j hj => h j (by omega))
    have h2 := h n (by omega)
    unfold br_prod
    refine ⟨Int.mul_nonneg h1.1 h2.1, ?_⟩
    rw [Int.pow_succ]
    exact Int.mul_le_mul h1.2 h2.2 h2.1 (Int.le_trans h1.1 h1.2)
-- bits of falls
theorem br_shr {f i : Nat} (hf : f < 32) (hi : i < 6) : br_J f >>> (br_J i &&& 31) = br_J ((f >>> i : Nat) : Int) := by
  have key : ∀ f : Fin 32, ∀ i : Fin 6, br_J (f : Nat) >>> (br_J (i : Nat) &&& 31) = br_J (((f : Nat) >>> (i : Nat) : Nat) : Int) := by decide +kernel
  exact key ⟨f, hf⟩ ⟨i, hi⟩
theorem br_and1 {a : Nat} (ha : a < 32) : br_J a &&& br_J 1 = br_J ((a % 2 : Nat) : Int) := by
  have key : ∀ a : Fin 32, br_J (a : Nat) &&& br_J 1 = br_J (((a : Nat) % 2 : Nat) : Int) := by decide +kernel
  exact key ⟨a, ha⟩
theorem br_and3 {a : Nat} (ha : a < 32) : br_J a &&& br_J 3 = br_J ((a % 4 : Nat) : Int) := by
  have key : ∀ a : Fin 32, br_J (a : Nat) &&& br_J 3 = br_J (((a : Nat) % 4 : Nat) : Int) := by decide +kernel
  exact key ⟨a, ha⟩
theorem br_shr_lt {f i : Nat} (hf : f < 32) : f >>> i < 32 := Nat.lt_of_le_of_lt (by rw [Nat.shiftRight_eq_div_pow]; exact Nat.div_le_self _ _) hf
/-- a fall at place i -/
abbrev br_fl (f i : Nat) : Prop := (f >>> i) % 2 = 1
theorem br_mod4 (f i : Nat) : (f >>> i) % 4 = 0 ↔ ¬ br_fl f i ∧ ¬ br_fl f (i + 1) := by
  have : f >>> (i + 1) = f >>> i / 2 := by rw [Nat.shiftRight_succ]
  unfold br_fl
  rw [this]
  omega
-- what a row brings
def br_jw (g : br_Gy) (r : br_Ro) (i : Nat) : Int := if i + 1 < r.1 ∧ br_isF g (r.2 i) ∧ (br_isF g (r.2 (i + 1)) ∨ br_isT g (r.2 (i + 1))) then (if br_gK g (r.2 i) = 4 then 3 else 2) else 0
def br_nF (g : br_Gy) (r : br_Ro) : Int := br_sum (fun i => if br_isF g (r.2 i) then 1 else 0) r.1
def br_nT (g : br_Gy) (r : br_Ro) : Int := br_sum (fun i => if br_isT g (r.2 i) then 1 else 0) r.1
def br_nJ (g : br_Gy) (r : br_Ro) : Int := br_sum (fun i => if 0 < br_jw g r i then 1 else 0) r.1
def br_pen (g : br_Gy) (r : br_Ro) : Int := (if br_nF g r = 0 then 5 else 0) + (if br_nT g r = 0 then 5 else 0)
def br_gt (g : br_Gy) (r : br_Ro) (f i : Nat) : Int := (if br_fl f i then -10 else br_gW g (r.2 i)) + (if ¬ br_fl f i ∧ ¬ br_fl f (i + 1) then br_jw g r i else 0)
def br_gn (g : br_Gy) (r : br_Ro) (f : Nat) : Int := br_sum (br_gt g r f) r.1
def br_pt (g : br_Gy) (r : br_Ro) (f : Nat) : Int := br_gn g r f - br_pen g r
def br_cr (g : br_Gy) (r : br_Ro) (i : Nat) : Int := if i < r.1 then br_ch (br_gK g (r.2 i)) (br_gS g (r.2 i)) i else 0
def br_wt (g : br_Gy) (r : br_Ro) (f i : Nat) : Int := if br_fl f i then 10 - br_cr g r i else br_cr g r i
def br_wy (g : br_Gy) (r : br_Ro) (f : Nat) : Int := br_prod (br_wt g r f) r.1
def br_od (g : br_Gy) (r : br_Ro) (s : Int) : Int := br_sum (fun f => if s ≤ br_pt g r f then br_wy g r f else 0) (2 ^ r.1)
def br_mt (g : br_Gy) (r : br_Ro) (i : Nat) : Int := 10 * (br_cr g r i * br_gW g (r.2 i) - 10 * (10 - br_cr g r i)) + br_cr g r i * br_cr g r (i + 1) * br_jw g r i
def br_mh (g : br_Gy) (r : br_Ro) : Int := 100 * (200 - br_pen g r) + br_sum (br_mt g r) r.1
def br_mu (g : br_Gy) (r : br_Ro) : Int := br_sum (fun f => br_wy g r f * (br_pt g r f + 200)) (2 ^ r.1)
theorem br_jw_bnd (g : br_Gy) (r : br_Ro) (i : Nat) : 0 ≤ br_jw g r i ∧ br_jw g r i ≤ 3 := by
  unfold br_jw; split
  · split <;> omega
  · omega
theorem br_pen_bnd (g : br_Gy) (r : br_Ro) : 0 ≤ br_pen g r ∧ br_pen g r ≤ 10 := by
  unfold br_pen; split <;> split <;> omega
theorem br_ch_bnd {kd su : Int} {pl : Int} (h : 0 ≤ su ∧ su ≤ 9) : 0 ≤ br_ch kd su pl ∧ br_ch kd su pl ≤ 9 := by
  unfold br_ch; split <;> omega
theorem br_cr_bnd {g : br_Gy} {r : br_Ro} (hg : br_Gok g) (hr : br_Rok g r) (i : Nat) : 0 ≤ br_cr g r i ∧ br_cr g r i ≤ 9 := by
  unfold br_cr; split
  · rename_i h
    have := (hg.2 _ (hr.2.1 i h)).2.2
    exact br_ch_bnd ⟨by omega, this.2⟩
  · omega
theorem br_gt_bnd {g : br_Gy} {r : br_Ro} (hg : br_Gok g) (hr : br_Rok g r) (f i : Nat) (hi : i < r.1) : -10 ≤ br_gt g r f i ∧ br_gt g r f i ≤ 12 := by
  have h1 := (hg.2 _ (hr.2.1 i hi)).2.1
  have h2 := br_jw_bnd g r i
  unfold br_gt; split <;> split <;> omega
theorem br_gn_bnd {g : br_Gy} {r : br_Ro} (hg : br_Gok g) (hr : br_Rok g r) (f : Nat) : -50 ≤ br_gn g r f ∧ br_gn g r f ≤ 60 := by
  have := br_sum_bnd (f := br_gt g r f) (n := r.1) (a := -10) (b := 12) (fun j hj => br_gt_bnd hg hr f j hj)
  have := hr.1
  unfold br_gn; omega
theorem br_wt_bnd {g : br_Gy} {r : br_Ro} (hg : br_Gok g) (hr : br_Rok g r) (f i : Nat) : 0 ≤ br_wt g r f i ∧ br_wt g r f i ≤ 10 := by
  have := br_cr_bnd hg hr i
  unfold br_wt; split <;> omega
theorem br_pow10 {n : Nat} (h : n ≤ 5) : 1 ≤ (10 : Int) ^ n ∧ (10 : Int) ^ n ≤ 100000 := by
  have key : ∀ n : Fin 6, 1 ≤ (10 : Int) ^ (n : Nat) ∧ (10 : Int) ^ (n : Nat) ≤ 100000 := by decide +kernel
  exact key ⟨n, by omega⟩
theorem br_pow2 {n : Nat} (h : n ≤ 5) : 1 ≤ 2 ^ n ∧ 2 ^ n ≤ 32 := by
  have key : ∀ n : Fin 6, 1 ≤ 2 ^ (n : Nat) ∧ 2 ^ (n : Nat) ≤ 32 := by decide +kernel
  exact key ⟨n, by omega⟩
theorem br_wy_bnd {g : br_Gy} {r : br_Ro} (hg : br_Gok g) (hr : br_Rok g r) (f : Nat) : 0 ≤ br_wy g r f ∧ br_wy g r f ≤ 100000 := by
  have h1 := br_prod_bnd (f := br_wt g r f) (n := r.1) (fun j _ => br_wt_bnd hg hr f j)
  have h2 := (br_pow10 hr.1).2
  unfold br_wy; omega
theorem br_od_bnd {g : br_Gy} {r : br_Ro} (hg : br_Gok g) (hr : br_Rok g r) (s : Int) : 0 ≤ br_od g r s ∧ br_od g r s ≤ 3200000 := by
  have h1 := br_sum_bnd (f := fun f => if s ≤ br_pt g r f then br_wy g r f else 0) (n := 2 ^ r.1) (a := 0) (b := 100000) (fun j _ => by
    have := br_wy_bnd hg hr j
    split <;> omega)
  have h2 := br_pow2 hr.1
  unfold br_od; omega
end
section
set_option maxHeartbeats 4000000 in
set_option maxRecDepth 100000 in
theorem c_X4_chanceOf {σ : br_Wd} (kd su pl : Int) (h1 : -10 ≤ kd ∧ kd ≤ 10) (h2 : 0 ≤ su ∧ su ≤ 10) (h3 : 0 ≤ pl ∧ pl ≤ 10) : br_Met 1 mX4_chanceOf [br_i (br_J kd), br_i (br_J su), br_i (br_J pl)] σ (br_R (br_J (br_ch kd su pl)) σ) := by
  refine br_ofW (by decide) 1 rfl (fun G C => ?_)
  refine br_iload_n C dX4_chanceOf_0 rfl rfl ?_
  refine br_iconstJ C dX4_chanceOf_1 ?_
  refine br_icmp_neJ C (by omega) (by omega) dX4_chanceOf_2 (tgt := 9) (by decide) (fun c2 => ?_) (fun c2 => ?_)
  · refine br_iconstJ C dX4_chanceOf_9 ?_
    refine br_iload_n C dX4_chanceOf_10 rfl rfl ?_
    refine br_iconstJ C dX4_chanceOf_11 ?_
    refine br_isubJ C dX4_chanceOf_12 ?_
    refine br_mmax C rfl (by omega) (by omega) (by decide) (fun _ => Nat.le_of_ble_eq_true rfl) dX4_chanceOf_13 ?_
    refine br_istore_n C dX4_chanceOf_16 rfl (by decide) rfl (L' := [_, _, _, _]) rfl ?_
    refine br_iconstJ C dX4_chanceOf_17 ?_
    refine br_iload_n C dX4_chanceOf_18 rfl rfl ?_
    refine br_iload_n C dX4_chanceOf_19 rfl rfl ?_
    refine br_isubJ C dX4_chanceOf_20 ?_
    refine br_mmax C rfl (by omega) (by omega) (by decide) (fun _ => Nat.le_of_ble_eq_true rfl) dX4_chanceOf_21 ?_
    exact br_iret C rfl dX4_chanceOf_24 ⟨by unfold br_ch; first | rw [if_pos c2] | rw [if_neg c2], rfl⟩
  · refine br_iconstJ C dX4_chanceOf_5 ?_
    refine br_goto C dX4_chanceOf_6 (tgt := 16) (by decide) ?_
    refine br_istore_n C dX4_chanceOf_16 rfl (by decide) rfl (L' := [_, _, _, _]) rfl ?_
    refine br_iconstJ C dX4_chanceOf_17 ?_
    refine br_iload_n C dX4_chanceOf_18 rfl rfl ?_
    refine br_iload_n C dX4_chanceOf_19 rfl rfl ?_
    refine br_isubJ C dX4_chanceOf_20 ?_
    refine br_mmax C rfl (by omega) (by omega) (by decide) (fun _ => Nat.le_of_ble_eq_true rfl) dX4_chanceOf_21 ?_
    exact br_iret C rfl dX4_chanceOf_24 ⟨by unfold br_ch; first | rw [if_pos c2] | rw [if_neg c2], rfl⟩

set_option maxHeartbeats 4000000 in
set_option maxRecDepth 100000 in
theorem c_X1_kindByLetter {σ : br_Wd} (z : Int) (hz : -2147483648 ≤ z ∧ z < 2147483648) : br_Met 0 mX1_kindByLetter [br_i (br_J z)] σ (br_R (br_J (br_kd z)) σ) := by
  refine br_ofW (by decide) 0 rfl (fun G C => ?_)
  refine br_iload_n C dX1_kindByLetter_0 rfl rfl ?_
  rcases (show (z < 102 ∨ 116 < z) ∨ z = 102 ∨ z = 103 ∨ z = 104 ∨ z = 105 ∨ z = 106 ∨ z = 107 ∨ z = 108 ∨ z = 109 ∨ z = 110 ∨ z = 111 ∨ z = 112 ∨ z = 113 ∨ z = 114 ∨ z = 115 ∨ z = 116 by omega) with c1 | rfl | rfl | rfl | rfl | rfl | rfl | rfl | rfl | rfl | rfl | rfl | rfl | rfl | rfl | rfl
  · refine br_tableOutJ C c1 (by omega) dX1_kindByLetter_1 (tgt := 86) (by decide) ?_
    refine br_iconstJ C dX1_kindByLetter_86 ?_
    exact br_iret C rfl dX1_kindByLetter_87 ⟨by first | rfl | (unfold br_kd; repeat rw [if_neg (by omega)]), rfl⟩
  · refine br_tableInJ C (by decide) (by decide) (by decide) dX1_kindByLetter_1 (off := 77) rfl (tgt := 78) (by decide) ?_
    refine br_iconstJ C dX1_kindByLetter_78 ?_
    exact br_iret C rfl dX1_kindByLetter_79 ⟨by first | rfl | (unfold br_kd; repeat rw [if_neg (by omega)]), rfl⟩
  · refine br_tableInJ C (by decide) (by decide) (by decide) dX1_kindByLetter_1 (off := 85) rfl (tgt := 86) (by decide) ?_
    refine br_iconstJ C dX1_kindByLetter_86 ?_
    exact br_iret C rfl dX1_kindByLetter_87 ⟨by first | rfl | (unfold br_kd; repeat rw [if_neg (by omega)]), rfl⟩
  · refine br_tableInJ C (by decide) (by decide) (by decide) dX1_kindByLetter_1 (off := 81) rfl (tgt := 82) (by decide) ?_
    refine br_iconstJ C dX1_kindByLetter_82 ?_
    exact br_iret C rfl dX1_kindByLetter_83 ⟨by first | rfl | (unfold br_kd; repeat rw [if_neg (by omega)]), rfl⟩
  · refine br_tableInJ C (by decide) (by decide) (by decide) dX1_kindByLetter_1 (off := 85) rfl (tgt := 86) (by decide) ?_
    refine br_iconstJ C dX1_kindByLetter_86 ?_
    exact br_iret C rfl dX1_kindByLetter_87 ⟨by first | rfl | (unfold br_kd; repeat rw [if_neg (by omega)]), rfl⟩
  · refine br_tableInJ C (by decide) (by decide) (by decide) dX1_kindByLetter_1 (off := 85) rfl (tgt := 86) (by decide) ?_
    refine br_iconstJ C dX1_kindByLetter_86 ?_
    exact br_iret C rfl dX1_kindByLetter_87 ⟨by first | rfl | (unfold br_kd; repeat rw [if_neg (by omega)]), rfl⟩
  · refine br_tableInJ C (by decide) (by decide) (by decide) dX1_kindByLetter_1 (off := 85) rfl (tgt := 86) (by decide) ?_
    refine br_iconstJ C dX1_kindByLetter_86 ?_
    exact br_iret C rfl dX1_kindByLetter_87 ⟨by first | rfl | (unfold br_kd; repeat rw [if_neg (by omega)]), rfl⟩
  · refine br_tableInJ C (by decide) (by decide) (by decide) dX1_kindByLetter_1 (off := 85) rfl (tgt := 86) (by decide) ?_
    refine br_iconstJ C dX1_kindByLetter_86 ?_
    exact br_iret C rfl dX1_kindByLetter_87 ⟨by first | rfl | (unfold br_kd; repeat rw [if_neg (by omega)]), rfl⟩
  · refine br_tableInJ C (by decide) (by decide) (by decide) dX1_kindByLetter_1 (off := 85) rfl (tgt := 86) (by decide) ?_
    refine br_iconstJ C dX1_kindByLetter_86 ?_
    exact br_iret C rfl dX1_kindByLetter_87 ⟨by first | rfl | (unfold br_kd; repeat rw [if_neg (by omega)]), rfl⟩
  · refine br_tableInJ C (by decide) (by decide) (by decide) dX1_kindByLetter_1 (off := 85) rfl (tgt := 86) (by decide) ?_
    refine br_iconstJ C dX1_kindByLetter_86 ?_
    exact br_iret C rfl dX1_kindByLetter_87 ⟨by first | rfl | (unfold br_kd; repeat rw [if_neg (by omega)]), rfl⟩
  · refine br_tableInJ C (by decide) (by decide) (by decide) dX1_kindByLetter_1 (off := 85) rfl (tgt := 86) (by decide) ?_
    refine br_iconstJ C dX1_kindByLetter_86 ?_
    exact br_iret C rfl dX1_kindByLetter_87 ⟨by first | rfl | (unfold br_kd; repeat rw [if_neg (by omega)]), rfl⟩
  · refine br_tableInJ C (by decide) (by decide) (by decide) dX1_kindByLetter_1 (off := 75) rfl (tgt := 76) (by decide) ?_
    refine br_iconstJ C dX1_kindByLetter_76 ?_
    exact br_iret C rfl dX1_kindByLetter_77 ⟨by first | rfl | (unfold br_kd; repeat rw [if_neg (by omega)]), rfl⟩
  · refine br_tableInJ C (by decide) (by decide) (by decide) dX1_kindByLetter_1 (off := 85) rfl (tgt := 86) (by decide) ?_
    refine br_iconstJ C dX1_kindByLetter_86 ?_
    exact br_iret C rfl dX1_kindByLetter_87 ⟨by first | rfl | (unfold br_kd; repeat rw [if_neg (by omega)]), rfl⟩
  · refine br_tableInJ C (by decide) (by decide) (by decide) dX1_kindByLetter_1 (off := 83) rfl (tgt := 84) (by decide) ?_
    refine br_iconstJ C dX1_kindByLetter_84 ?_
    exact br_iret C rfl dX1_kindByLetter_85 ⟨by first | rfl | (unfold br_kd; repeat rw [if_neg (by omega)]), rfl⟩
  · refine br_tableInJ C (by decide) (by decide) (by decide) dX1_kindByLetter_1 (off := 85) rfl (tgt := 86) (by decide) ?_
    refine br_iconstJ C dX1_kindByLetter_86 ?_
    exact br_iret C rfl dX1_kindByLetter_87 ⟨by first | rfl | (unfold br_kd; repeat rw [if_neg (by omega)]), rfl⟩
  · refine br_tableInJ C (by decide) (by decide) (by decide) dX1_kindByLetter_1 (off := 79) rfl (tgt := 80) (by decide) ?_
    refine br_iconstJ C dX1_kindByLetter_80 ?_
    exact br_iret C rfl dX1_kindByLetter_81 ⟨by first | rfl | (unfold br_kd; repeat rw [if_neg (by omega)]), rfl⟩

theorem br_kd_bnd (z : Int) : -1 ≤ br_kd z ∧ br_kd z ≤ 4 := by
  unfold br_kd
  repeat (first | omega | split)

set_option maxHeartbeats 4000000 in
set_option maxRecDepth 100000 in
theorem c_X1_fits {σ : br_Wd} (p : Nat) (z : Int) (hp : p ≤ 30) (hz : -2147483648 ≤ z ∧ z < 2147483648) : br_Met 1 mX1_fits [br_i (br_J p), br_i (br_J z)] σ (br_R (br_J (if br_fit p z then 1 else 0)) σ) := by
  refine br_ofW (by decide) 1 rfl (fun G C => ?_)
  have hk := br_kd_bnd z
  refine br_iload_n C dX1_fits_0 rfl rfl ?_
  refine br_bipushJ C (by decide) dX1_fits_1 ?_
  refine br_icmp_ltJ C (by omega) (by omega) dX1_fits_3 (tgt := 8) (by decide) (fun c3 => ?_) (fun c3 => ?_)
  · refine br_iload_n C dX1_fits_8 rfl rfl ?_
    refine br_iconstJ C dX1_fits_9 ?_
    refine br_iremJ C (by omega) (by omega) dX1_fits_10 ?_
    refine br_istore_n C dX1_fits_11 rfl (by decide) rfl (L' := [_, _, _]) rfl ?_
    refine br_iload_n C dX1_fits_12 rfl rfl ?_
    refine br_if_neJ C (by omega) dX1_fits_13 (tgt := 30) (by decide) (fun c13 => ?_) (fun c13 => ?_)
    · refine br_iload_n C dX1_fits_30 rfl rfl ?_
      refine br_iconstJ C dX1_fits_31 ?_
      refine br_icmp_neJ C (by omega) (by omega) dX1_fits_32 (tgt := 47) (by decide) (fun c32 => ?_) (fun c32 => ?_)
      · refine br_iload_n C dX1_fits_47 rfl rfl ?_
        refine br_bipushJ C (by decide) dX1_fits_48 ?_
        refine br_icmp_ltJ C (by omega) (by omega) dX1_fits_50 (tgt := 63) (by decide) (fun c50 => ?_) (fun c50 => ?_)
        · refine br_iconstJ C dX1_fits_63 ?_
          exact br_zret C (by decide) rfl dX1_fits_64 ⟨by first | rw [if_pos (by omega)] | rw [if_neg (by omega)], rfl⟩
        · refine br_iload_n C dX1_fits_53 rfl rfl ?_
          refine br_bipushJ C (by decide) dX1_fits_54 ?_
          refine br_icmp_gtJ C (by omega) (by omega) dX1_fits_56 (tgt := 63) (by decide) (fun c56 => ?_) (fun c56 => ?_)
          · refine br_iconstJ C dX1_fits_63 ?_
            exact br_zret C (by decide) rfl dX1_fits_64 ⟨by first | rw [if_pos (by omega)] | rw [if_neg (by omega)], rfl⟩
          · refine br_iconstJ C dX1_fits_59 ?_
            refine br_goto C dX1_fits_60 (tgt := 64) (by decide) ?_
            exact br_zret C (by decide) rfl dX1_fits_64 ⟨by first | rw [if_pos (by omega)] | rw [if_neg (by omega)], rfl⟩
      · refine br_iload_n C dX1_fits_35 rfl rfl ?_
        refine br_bipushJ C (by decide) dX1_fits_36 ?_
        refine br_icmp_neJ C (by omega) (by omega) dX1_fits_38 (tgt := 45) (by decide) (fun c38 => ?_) (fun c38 => ?_)
        · refine br_iconstJ C dX1_fits_45 ?_
          exact br_zret C (by decide) rfl dX1_fits_46 ⟨by first | rw [if_pos (by omega)] | rw [if_neg (by omega)], rfl⟩
        · refine br_iconstJ C dX1_fits_41 ?_
          refine br_goto C dX1_fits_42 (tgt := 46) (by decide) ?_
          exact br_zret C (by decide) rfl dX1_fits_46 ⟨by first | rw [if_pos (by omega)] | rw [if_neg (by omega)], rfl⟩
    · refine br_iload_n C dX1_fits_16 rfl rfl ?_
      refine br_cs1R C scX1_27 (c_X1_kindByLetter z hz) (by decide) (fun _ => Nat.le_of_ble_eq_true rfl) dX1_fits_17 ?_
      refine br_iconstJ C dX1_fits_20 ?_
      refine br_icmp_eqJ C (by omega) (by omega) dX1_fits_21 (tgt := 28) (by decide) (fun c21 => ?_) (fun c21 => ?_)
      · refine br_iconstJ C dX1_fits_28 ?_
        exact br_zret C (by decide) rfl dX1_fits_29 ⟨by first | rw [if_pos (by omega)] | rw [if_neg (by omega)], rfl⟩
      · refine br_iconstJ C dX1_fits_24 ?_
        refine br_goto C dX1_fits_25 (tgt := 29) (by decide) ?_
        exact br_zret C (by decide) rfl dX1_fits_29 ⟨by first | rw [if_pos (by omega)] | rw [if_neg (by omega)], rfl⟩
  · refine br_iconstJ C dX1_fits_6 ?_
    exact br_zret C (by decide) rfl dX1_fits_7 ⟨by first | rw [if_pos (by omega)] | rw [if_neg (by omega)], rfl⟩

set_option maxHeartbeats 4000000 in
set_option maxRecDepth 100000 in
theorem c_X1_codeAt {σ : br_Wd} {w : br_Pg} (hw : br_PC σ w) (hn : w.1 ≤ 30) (z : Int) (h0 : 0 ≤ z) (h1 : z < w.1) : br_Met 0 mX1_codeAt [br_r 1, br_i (br_J z)] σ (br_R (br_J (w.2 z.toNat)) σ) := by
  obtain ⟨hl, hc⟩ := hw
  refine br_ofW (by decide) 0 rfl (fun G C => ?_)
  refine br_iload_n C dX1_codeAt_0 rfl rfl ?_
  refine br_if_ltJ C (by omega) dX1_codeAt_1 (tgt := 21) (by decide) (fun c1 => ?_) (fun c1 => ?_)
  · omega
  · refine br_iload_n C dX1_codeAt_4 rfl rfl ?_
    refine br_aload_n C dX1_codeAt_5 rfl rfl ?_
    refine br_getI C fdX1_15 dX1_codeAt_6 rfl rfl (by assumption) ?_
    refine br_icmp_geJ C (by omega) (by omega) dX1_codeAt_9 (tgt := 21) (by decide) (fun c9 => ?_) (fun c9 => ?_)
    · omega
    · refine br_aload_n C dX1_codeAt_12 rfl rfl ?_
      refine br_getR C fdX1_9 dX1_codeAt_13 rfl rfl ?_
      refine br_iload_n C dX1_codeAt_16 rfl rfl ?_
      refine br_ialdJ C rfl (by decide) (by omega) (by omega) (hc z.toNat (by omega)) dX1_codeAt_17 ?_
      refine br_goto C dX1_codeAt_18 (tgt := 22) (by decide) ?_
      exact br_iret C rfl dX1_codeAt_22 ⟨rfl, rfl⟩

set_option maxHeartbeats 4000000 in
set_option maxRecDepth 100000 in
theorem c_X1_add {σ : br_Wd} {w : br_Pg} (hw : br_PC σ w) (hn : w.1 ≤ 30) (z : Int) (hl30 : w.1 < 30) (hz : -2147483648 ≤ z ∧ z < 2147483648) : br_Met 0 mX1_add [br_r 1, br_i (br_J z)] σ (br_RV (br_up (br_up σ 2 w.1 (br_J z)) 1 1 (br_J (w.1 + 1)))) := by
  obtain ⟨hl, hc⟩ := hw
  refine br_ofW (by decide) 0 rfl (fun G C => ?_)
  refine br_aload_n C dX1_add_0 rfl rfl ?_
  refine br_getI C fdX1_15 dX1_add_1 rfl rfl (by assumption) ?_
  refine br_bipushJ C (by decide) dX1_add_4 ?_
  refine br_icmp_geJ C (by omega) (by omega) dX1_add_6 (tgt := 29) (by decide) (fun c6 => ?_) (fun c6 => ?_)
  · omega
  · refine br_aload_n C dX1_add_9 rfl rfl ?_
    refine br_getR C fdX1_9 dX1_add_10 rfl rfl ?_
    refine br_aload_n C dX1_add_13 rfl rfl ?_
    refine br_getI C fdX1_15 dX1_add_14 rfl rfl (by assumption) ?_
    refine br_iload_n C dX1_add_17 rfl rfl ?_
    refine br_iastJ C rfl (by decide) (by omega) (by omega) rfl dX1_add_18 ?_
    refine br_aload_n C dX1_add_19 rfl rfl ?_
    refine br_dup C dX1_add_20 rfl ?_
    refine br_getI C fdX1_15 dX1_add_21 rfl rfl (by assumption) ?_
    refine br_iconstJ C dX1_add_24 ?_
    refine br_iaddJ C dX1_add_25 ?_
    refine br_putI C fdX1_15 dX1_add_26 rfl rfl rfl ?_
    exact br_vret C rfl dX1_add_29 ⟨rfl, rfl⟩

set_option maxHeartbeats 4000000 in
set_option maxRecDepth 100000 in
theorem c_X1_firstFault {σ : br_Wd} {w : br_Pg} (hw : br_PC σ w) (hn : w.1 ≤ 30) (hb : ∀ j : Nat, j < w.1 → -2147483648 ≤ w.2 j ∧ w.2 j < 2147483648) : br_Met 2 mX1_firstFault [br_r 1] σ (br_R (br_J (br_fault w : Nat)) σ) := by
  obtain ⟨hl, hc⟩ := hw
  refine br_ofW (by decide) 1 rfl (fun G C => ?_)
  have loop : ∀ (n i : Nat), i + n = w.1 → br_fault w = br_ff w i n → G 2 [some (br_r 1), some (br_i (br_J i))] [] σ := by
    intro n
    induction n with
    | zero =>
      intro i hin hi
      refine br_iload_n C dX1_firstFault_2 rfl rfl ?_
      refine br_aload_n C dX1_firstFault_3 rfl rfl ?_
      refine br_getI C fdX1_15 dX1_firstFault_4 rfl rfl (by assumption) ?_
      refine br_icmp_geJ C (by omega) (by omega) dX1_firstFault_7 (tgt := 31) (by decide) (fun c7 => ?_) (fun c7 => ?_)
      · refine br_aload_n C dX1_firstFault_31 rfl rfl ?_
        refine br_getI C fdX1_15 dX1_firstFault_32 rfl rfl (by assumption) ?_
        exact br_iret C rfl dX1_firstFault_35 ⟨by first | (exfalso; omega) | (rw [hi]; rfl), rfl⟩
      · omega
    | succ n ih =>
      intro i hin hi
      refine br_iload_n C dX1_firstFault_2 rfl rfl ?_
      refine br_aload_n C dX1_firstFault_3 rfl rfl ?_
      refine br_getI C fdX1_15 dX1_firstFault_4 rfl rfl (by assumption) ?_
      refine br_icmp_geJ C (by omega) (by omega) dX1_firstFault_7 (tgt := 31) (by decide) (fun c7 => ?_) (fun c7 => ?_)
      · refine br_aload_n C dX1_firstFault_31 rfl rfl ?_
        refine br_getI C fdX1_15 dX1_firstFault_32 rfl rfl (by assumption) ?_
        exact br_iret C rfl dX1_firstFault_35 ⟨by first | (exfalso; omega) | (rw [hi]; rfl), rfl⟩
      · refine br_iload_n C dX1_firstFault_10 rfl rfl ?_
        refine br_aload_n C dX1_firstFault_11 rfl rfl ?_
        refine br_getR C fdX1_9 dX1_firstFault_12 rfl rfl ?_
        refine br_iload_n C dX1_firstFault_15 rfl rfl ?_
        refine br_ialdJ C rfl (by decide) (by omega) (by omega) (hc i (by omega)) dX1_firstFault_16 ?_
        refine br_cs2B C scX1_19 (c_X1_fits i (w.2 i) (by omega) (hb i (by omega))) (by decide) (fun _ => Nat.le_of_ble_eq_true rfl) dX1_firstFault_17 (fun h17 => ?_) (fun h17 => ?_)
        · refine br_if_ne1 C dX1_firstFault_20 (tgt := 25) (by decide) ?_
          refine br_iincJ C dX1_firstFault_25 rfl (by decide) rfl (L' := [_, _]) rfl ?_
          refine br_goto C dX1_firstFault_28 (tgt := 2) (by decide) ?_
          exact ih (i + 1) (by omega) (by rw [hi]; show (if _ then _ else _) = _; exact if_pos h17)
        · refine br_if_ne0 C dX1_firstFault_20 (tgt := 25) (by decide) ?_
          refine br_iload_n C dX1_firstFault_23 rfl rfl ?_
          exact br_iret C rfl dX1_firstFault_24 ⟨by rw [hi]; unfold br_ff; rw [if_neg h17], rfl⟩
  refine br_iconstJ C dX1_firstFault_0 ?_
  refine br_istore_n C dX1_firstFault_1 rfl (by decide) rfl (L' := [_, _]) rfl ?_
  exact loop w.1 0 (by omega) rfl

abbrev br_tells (w : br_Pg) : Prop := 7 ≤ w.1 ∧ w.1 % 4 = 3 ∧ br_fault w = w.1

theorem br_ff_le (w : br_Pg) : ∀ (n i : Nat), i + n = w.1 → i ≤ br_ff w i n ∧ br_ff w i n ≤ w.1 := by
  intro n
  induction n with
  | zero => intro i h; exact ⟨by show i ≤ w.1; omega, Nat.le_refl _⟩
  | succ n ih =>
    intro i h
    have := ih (i + 1) (by omega)
    unfold br_ff
    split <;> omega
theorem br_fault_le (w : br_Pg) : br_fault w ≤ w.1 := (br_ff_le w w.1 0 (by omega)).2

set_option maxHeartbeats 4000000 in
set_option maxRecDepth 100000 in
theorem c_X1_tellsGym {σ : br_Wd} {w : br_Pg} (hw : br_PC σ w) (hn : w.1 ≤ 30) (hb : ∀ j : Nat, j < w.1 → -2147483648 ≤ w.2 j ∧ w.2 j < 2147483648) : br_Met 3 mX1_tellsGym [br_r 1] σ (br_R (br_J (if br_tells w then 1 else 0)) σ) := by
  have hw0 := hw
  obtain ⟨hl, hc⟩ := hw
  have hf := br_fault_le w
  refine br_ofW (by decide) 1 rfl (fun G C => ?_)
  refine br_aload_n C dX1_tellsGym_0 rfl rfl ?_
  refine br_getI C fdX1_15 dX1_tellsGym_1 rfl rfl (by assumption) ?_
  refine br_iconstJ C dX1_tellsGym_4 ?_
  refine br_iremJ C (by omega) (by omega) dX1_tellsGym_5 ?_
  refine br_iconstJ C dX1_tellsGym_6 ?_
  refine br_icmp_neJ C (by omega) (by omega) dX1_tellsGym_7 (tgt := 14) (by decide) (fun c7 => ?_) (fun c7 => ?_)
  · refine br_iconstJ C dX1_tellsGym_14 ?_
    refine br_istore_n C dX1_tellsGym_15 rfl (by decide) rfl (L' := [_, _]) rfl ?_
    refine br_aload_n C dX1_tellsGym_16 rfl rfl ?_
    refine br_getI C fdX1_15 dX1_tellsGym_17 rfl rfl (by assumption) ?_
    refine br_bipushJ C (by decide) dX1_tellsGym_20 ?_
    refine br_icmp_ltJ C (by omega) (by omega) dX1_tellsGym_22 (tgt := 44) (by decide) (fun c22 => ?_) (fun c22 => ?_)
    · refine br_iconstJ C dX1_tellsGym_44 ?_
      exact br_zret C (by decide) rfl dX1_tellsGym_45 ⟨by first | rw [if_pos (by omega)] | rw [if_neg (by omega)], rfl⟩
    · refine br_iload_n C dX1_tellsGym_25 rfl rfl ?_
      refine br_if_eqJ C (by omega) dX1_tellsGym_26 (tgt := 44) (by decide) (fun _ => ?_) (fun c => absurd c (by decide))
      refine br_iconstJ C dX1_tellsGym_44 ?_
      exact br_zret C (by decide) rfl dX1_tellsGym_45 ⟨by first | rw [if_pos (by omega)] | rw [if_neg (by omega)], rfl⟩
  · refine br_iconstJ C dX1_tellsGym_10 ?_
    refine br_goto C dX1_tellsGym_11 (tgt := 15) (by decide) ?_
    refine br_istore_n C dX1_tellsGym_15 rfl (by decide) rfl (L' := [_, _]) rfl ?_
    refine br_aload_n C dX1_tellsGym_16 rfl rfl ?_
    refine br_getI C fdX1_15 dX1_tellsGym_17 rfl rfl (by assumption) ?_
    refine br_bipushJ C (by decide) dX1_tellsGym_20 ?_
    refine br_icmp_ltJ C (by omega) (by omega) dX1_tellsGym_22 (tgt := 44) (by decide) (fun c22 => ?_) (fun c22 => ?_)
    · refine br_iconstJ C dX1_tellsGym_44 ?_
      exact br_zret C (by decide) rfl dX1_tellsGym_45 ⟨by first | rw [if_pos (by omega)] | rw [if_neg (by omega)], rfl⟩
    · refine br_iload_n C dX1_tellsGym_25 rfl rfl ?_
      refine br_if_eqJ C (by omega) dX1_tellsGym_26 (tgt := 44) (by decide) (fun c => absurd c (by decide)) (fun _ => ?_)
      refine br_aload_n C dX1_tellsGym_29 rfl rfl ?_
      refine br_cv0R C vcX1_23 (c_X1_firstFault hw0 hn hb) (by decide) rfl rfl (fun _ => Nat.le_of_ble_eq_true rfl) dX1_tellsGym_30 ?_
      refine br_aload_n C dX1_tellsGym_33 rfl rfl ?_
      refine br_getI C fdX1_15 dX1_tellsGym_34 rfl rfl (by assumption) ?_
      refine br_icmp_neJ C (by omega) (by omega) dX1_tellsGym_37 (tgt := 44) (by decide) (fun c37 => ?_) (fun c37 => ?_)
      · refine br_iconstJ C dX1_tellsGym_44 ?_
        exact br_zret C (by decide) rfl dX1_tellsGym_45 ⟨by first | rw [if_pos (by omega)] | rw [if_neg (by omega)], rfl⟩
      · refine br_iconstJ C dX1_tellsGym_40 ?_
        refine br_goto C dX1_tellsGym_41 (tgt := 45) (by decide) ?_
        exact br_zret C (by decide) rfl dX1_tellsGym_45 ⟨by first | rw [if_pos (by omega)] | rw [if_neg (by omega)], rfl⟩

set_option maxHeartbeats 4000000 in
set_option maxRecDepth 100000 in
theorem c_X0_has {σ : br_Wd} {g : br_Gy} (hg : br_GC σ g) (hn : g.1 ≤ 7) (z : Int) (hz : -2147483648 ≤ z ∧ z < 2147483648) : br_Met 0 mX0_has [br_r 3, br_i (br_J z)] σ (br_R (br_J (if 0 ≤ z ∧ z < g.1 then 1 else 0)) σ) := by
  have hg0 := hg
  obtain ⟨hs, h4, h5, h6⟩ := hg
  refine br_ofW (by decide) 0 rfl (fun G C => ?_)
  refine br_iload_n C dX0_has_0 rfl rfl ?_
  refine br_if_ltJ C (by omega) dX0_has_1 (tgt := 16) (by decide) (fun c1 => ?_) (fun c1 => ?_)
  · refine br_iconstJ C dX0_has_16 ?_
    exact br_zret C (by decide) rfl dX0_has_17 ⟨by first | rw [if_pos (by omega)] | rw [if_neg (by omega)], rfl⟩
  · refine br_iload_n C dX0_has_4 rfl rfl ?_
    refine br_aload_n C dX0_has_5 rfl rfl ?_
    refine br_getI C fdX0_21 dX0_has_6 rfl rfl (by assumption) ?_
    refine br_icmp_geJ C (by omega) (by omega) dX0_has_9 (tgt := 16) (by decide) (fun c9 => ?_) (fun c9 => ?_)
    · refine br_iconstJ C dX0_has_16 ?_
      exact br_zret C (by decide) rfl dX0_has_17 ⟨by first | rw [if_pos (by omega)] | rw [if_neg (by omega)], rfl⟩
    · refine br_iconstJ C dX0_has_12 ?_
      refine br_goto C dX0_has_13 (tgt := 17) (by decide) ?_
      exact br_zret C (by decide) rfl dX0_has_17 ⟨by first | rw [if_pos (by omega)] | rw [if_neg (by omega)], rfl⟩

set_option maxHeartbeats 4000000 in
set_option maxRecDepth 100000 in
theorem c_X0_kindOf {σ : br_Wd} {g : br_Gy} (hg : br_GC σ g) (hn : g.1 ≤ 7) (z : Int) (hz : -2147483648 ≤ z ∧ z < 2147483648) : br_Met 1 mX0_kindOf [br_r 3, br_i (br_J z)] σ (br_R (br_J (br_kO g z)) σ) := by
  have hg0 := hg
  obtain ⟨hs, h4, h5, h6⟩ := hg
  refine br_ofW (by decide) 0 rfl (fun G C => ?_)
  refine br_aload_n C dX0_kindOf_0 rfl rfl ?_
  refine br_iload_n C dX0_kindOf_1 rfl rfl ?_
  refine br_cv1B C vcX0_37 (c_X0_has hg0 hn z hz) (by decide) rfl rfl (fun _ => Nat.le_of_ble_eq_true rfl) dX0_kindOf_2 (fun h2 => ?_) (fun h2 => ?_)
  · refine br_if_eq1 C dX0_kindOf_5 (tgt := 17) (by decide) ?_
    refine br_aload_n C dX0_kindOf_8 rfl rfl ?_
    refine br_getR C fdX0_9 dX0_kindOf_9 rfl rfl ?_
    refine br_iload_n C dX0_kindOf_12 rfl rfl ?_
    refine br_ialdJ C rfl (by decide) h2.1 (by omega) (h4 z.toNat (by omega)) dX0_kindOf_13 ?_
    refine br_goto C dX0_kindOf_14 (tgt := 18) (by decide) ?_
    exact br_iret C rfl dX0_kindOf_18 ⟨by unfold br_kO; first | rw [if_pos h2] | rw [if_neg h2], rfl⟩
  · refine br_if_eq0 C dX0_kindOf_5 (tgt := 17) (by decide) ?_
    refine br_iconstJ C dX0_kindOf_17 ?_
    exact br_iret C rfl dX0_kindOf_18 ⟨by unfold br_kO; first | rw [if_pos h2] | rw [if_neg h2], rfl⟩

set_option maxHeartbeats 4000000 in
set_option maxRecDepth 100000 in
theorem c_X0_worthOf {σ : br_Wd} {g : br_Gy} (hg : br_GC σ g) (hn : g.1 ≤ 7) (z : Int) (hz : -2147483648 ≤ z ∧ z < 2147483648) : br_Met 1 mX0_worthOf [br_r 3, br_i (br_J z)] σ (br_R (br_J (br_wO g z)) σ) := by
  have hg0 := hg
  obtain ⟨hs, h4, h5, h6⟩ := hg
  refine br_ofW (by decide) 0 rfl (fun G C => ?_)
  refine br_aload_n C dX0_worthOf_0 rfl rfl ?_
  refine br_iload_n C dX0_worthOf_1 rfl rfl ?_
  refine br_cv1B C vcX0_37 (c_X0_has hg0 hn z hz) (by decide) rfl rfl (fun _ => Nat.le_of_ble_eq_true rfl) dX0_worthOf_2 (fun h2 => ?_) (fun h2 => ?_)
  · refine br_if_eq1 C dX0_worthOf_5 (tgt := 17) (by decide) ?_
    refine br_aload_n C dX0_worthOf_8 rfl rfl ?_
    refine br_getR C fdX0_15 dX0_worthOf_9 rfl rfl ?_
    refine br_iload_n C dX0_worthOf_12 rfl rfl ?_
    refine br_ialdJ C rfl (by decide) h2.1 (by omega) (h5 z.toNat (by omega)) dX0_worthOf_13 ?_
    refine br_goto C dX0_worthOf_14 (tgt := 18) (by decide) ?_
    exact br_iret C rfl dX0_worthOf_18 ⟨by unfold br_wO; first | rw [if_pos h2] | rw [if_neg h2], rfl⟩
  · refine br_if_eq0 C dX0_worthOf_5 (tgt := 17) (by decide) ?_
    refine br_iconstJ C dX0_worthOf_17 ?_
    exact br_iret C rfl dX0_worthOf_18 ⟨by unfold br_wO; first | rw [if_pos h2] | rw [if_neg h2], rfl⟩

set_option maxHeartbeats 4000000 in
set_option maxRecDepth 100000 in
theorem c_X0_sureOf {σ : br_Wd} {g : br_Gy} (hg : br_GC σ g) (hn : g.1 ≤ 7) (z : Int) (hz : -2147483648 ≤ z ∧ z < 2147483648) : br_Met 1 mX0_sureOf [br_r 3, br_i (br_J z)] σ (br_R (br_J (br_sO g z)) σ) := by
  have hg0 := hg
  obtain ⟨hs, h4, h5, h6⟩ := hg
  refine br_ofW (by decide) 0 rfl (fun G C => ?_)
  refine br_aload_n C dX0_sureOf_0 rfl rfl ?_
  refine br_iload_n C dX0_sureOf_1 rfl rfl ?_
  refine br_cv1B C vcX0_37 (c_X0_has hg0 hn z hz) (by decide) rfl rfl (fun _ => Nat.le_of_ble_eq_true rfl) dX0_sureOf_2 (fun h2 => ?_) (fun h2 => ?_)
  · refine br_if_eq1 C dX0_sureOf_5 (tgt := 17) (by decide) ?_
    refine br_aload_n C dX0_sureOf_8 rfl rfl ?_
    refine br_getR C fdX0_18 dX0_sureOf_9 rfl rfl ?_
    refine br_iload_n C dX0_sureOf_12 rfl rfl ?_
    refine br_ialdJ C rfl (by decide) h2.1 (by omega) (h6 z.toNat (by omega)) dX0_sureOf_13 ?_
    refine br_goto C dX0_sureOf_14 (tgt := 18) (by decide) ?_
    exact br_iret C rfl dX0_sureOf_18 ⟨by unfold br_sO; first | rw [if_pos h2] | rw [if_neg h2], rfl⟩
  · refine br_if_eq0 C dX0_sureOf_5 (tgt := 17) (by decide) ?_
    refine br_iconstJ C dX0_sureOf_17 ?_
    exact br_iret C rfl dX0_sureOf_18 ⟨by unfold br_sO; first | rw [if_pos h2] | rw [if_neg h2], rfl⟩

set_option maxHeartbeats 4000000 in
set_option maxRecDepth 100000 in
theorem c_X0_isA {σ : br_Wd} {g : br_Gy} (hg : br_GC σ g) (hn : g.1 ≤ 7) (hk : ∀ j : Nat, j < g.1 → 0 ≤ br_gK g j ∧ br_gK g j ≤ 4) (z kd : Int) (hz : -2147483648 ≤ z ∧ z < 2147483648) (hkd : -2147483648 ≤ kd ∧ kd < 2147483648) : br_Met 1 mX0_isA [br_r 3, br_i (br_J z), br_i (br_J kd)] σ (br_R (br_J (if br_isP g z kd then 1 else 0)) σ) := by
  have hg0 := hg
  obtain ⟨hs, h4, h5, h6⟩ := hg
  refine br_ofW (by decide) 1 rfl (fun G C => ?_)
  refine br_aload_n C dX0_isA_0 rfl rfl ?_
  refine br_iload_n C dX0_isA_1 rfl rfl ?_
  refine br_cv1B C vcX0_37 (c_X0_has hg0 hn z hz) (by decide) rfl rfl (fun _ => Nat.le_of_ble_eq_true rfl) dX0_isA_2 (fun h2 => ?_) (fun h2 => ?_)
  · refine br_if_ne1 C dX0_isA_5 (tgt := 10) (by decide) ?_
    refine br_aload_n C dX0_isA_10 rfl rfl ?_
    refine br_getR C fdX0_9 dX0_isA_11 rfl rfl ?_
    refine br_iload_n C dX0_isA_14 rfl rfl ?_
    refine br_ialdJ C rfl (by decide) h2.1 (by omega) (h4 z.toNat (by omega)) dX0_isA_15 ?_
    have hkz := hk z.toNat (by omega)
    refine br_istore_n C dX0_isA_16 rfl (by decide) rfl (L' := [_, _, _, _]) rfl ?_
    refine br_iload_n C dX0_isA_17 rfl rfl ?_
    refine br_if_eqJ C (by omega) dX0_isA_18 (tgt := 36) (by decide) (fun c18 => ?_) (fun c18 => ?_)
    · refine br_iconstJ C dX0_isA_36 ?_
      refine br_goto C dX0_isA_37 (tgt := 41) (by decide) ?_
      exact br_zret C (by decide) rfl dX0_isA_41 ⟨by first | rw [if_pos (by omega)] | rw [if_neg (by omega)], rfl⟩
    · refine br_iload_n C dX0_isA_21 rfl rfl ?_
      refine br_iload_n C dX0_isA_22 rfl rfl ?_
      refine br_icmp_eqJ C (by omega) (by omega) dX0_isA_23 (tgt := 36) (by decide) (fun c23 => ?_) (fun c23 => ?_)
      · refine br_iconstJ C dX0_isA_36 ?_
        refine br_goto C dX0_isA_37 (tgt := 41) (by decide) ?_
        exact br_zret C (by decide) rfl dX0_isA_41 ⟨by first | rw [if_pos (by omega)] | rw [if_neg (by omega)], rfl⟩
      · refine br_iload_n C dX0_isA_26 rfl rfl ?_
        refine br_iconstJ C dX0_isA_27 ?_
        refine br_icmp_neJ C (by omega) (by omega) dX0_isA_28 (tgt := 40) (by decide) (fun c28 => ?_) (fun c28 => ?_)
        · refine br_iconstJ C dX0_isA_40 ?_
          exact br_zret C (by decide) rfl dX0_isA_41 ⟨by first | rw [if_pos (by omega)] | rw [if_neg (by omega)], rfl⟩
        · refine br_iload_n C dX0_isA_31 rfl rfl ?_
          refine br_iconstJ C dX0_isA_32 ?_
          refine br_icmp_neJ C (by omega) (by omega) dX0_isA_33 (tgt := 40) (by decide) (fun c33 => ?_) (fun c33 => ?_)
          · refine br_iconstJ C dX0_isA_40 ?_
            exact br_zret C (by decide) rfl dX0_isA_41 ⟨by first | rw [if_pos (by omega)] | rw [if_neg (by omega)], rfl⟩
          · refine br_iconstJ C dX0_isA_36 ?_
            refine br_goto C dX0_isA_37 (tgt := 41) (by decide) ?_
            exact br_zret C (by decide) rfl dX0_isA_41 ⟨by first | rw [if_pos (by omega)] | rw [if_neg (by omega)], rfl⟩
  · refine br_if_ne0 C dX0_isA_5 (tgt := 10) (by decide) ?_
    refine br_iconstJ C dX0_isA_8 ?_
    exact br_zret C (by decide) rfl dX0_isA_9 ⟨by first | rw [if_pos (by omega)] | rw [if_neg (by omega)], rfl⟩
end
section
set_option maxHeartbeats 4000000 in
set_option maxRecDepth 100000 in
theorem c_X2_reaches {σ : br_Wd} {q : Nat} (hq : br_shps[q]? = some (.inr (2, [br_fr 3, br_fr (q + 1), none]))) (hq1 : br_shps[q + 1]? = some (.inl (false, 5))) {r : br_Ro} (hr : br_RC q σ r) (h5 : r.1 ≤ 5) (z : Int) (hz : -2147483648 ≤ z ∧ z < 2147483648) : br_Met 0 mX2_reaches [br_r q, br_i (br_J z)] σ (br_R (br_J (if 0 ≤ z ∧ z < r.1 then 1 else 0)) σ) := by
  have hr0 := hr
  obtain ⟨hs, hp⟩ := hr
  refine br_ofW (by decide) 0 rfl (fun G C => ?_)
  refine br_iload_n C dX2_reaches_0 rfl rfl ?_
  refine br_if_ltJ C (by omega) dX2_reaches_1 (tgt := 16) (by decide) (fun c1 => ?_) (fun c1 => ?_)
  · refine br_iconstJ C dX2_reaches_16 ?_
    exact br_zret C (by decide) rfl dX2_reaches_17 ⟨by first | rw [if_pos (by omega)] | rw [if_neg (by omega)], rfl⟩
  · refine br_iload_n C dX2_reaches_4 rfl rfl ?_
    refine br_aload_n C dX2_reaches_5 rfl rfl ?_
    refine br_getI C fdX2_15 dX2_reaches_6 hq rfl (by assumption) ?_
    refine br_icmp_geJ C (by omega) (by omega) dX2_reaches_9 (tgt := 16) (by decide) (fun c9 => ?_) (fun c9 => ?_)
    · refine br_iconstJ C dX2_reaches_16 ?_
      exact br_zret C (by decide) rfl dX2_reaches_17 ⟨by first | rw [if_pos (by omega)] | rw [if_neg (by omega)], rfl⟩
    · refine br_iconstJ C dX2_reaches_12 ?_
      refine br_goto C dX2_reaches_13 (tgt := 17) (by decide) ?_
      exact br_zret C (by decide) rfl dX2_reaches_17 ⟨by first | rw [if_pos (by omega)] | rw [if_neg (by omega)], rfl⟩

set_option maxHeartbeats 4000000 in
set_option maxRecDepth 100000 in
theorem c_X2_pieceAt {σ : br_Wd} {q : Nat} (hq : br_shps[q]? = some (.inr (2, [br_fr 3, br_fr (q + 1), none]))) (hq1 : br_shps[q + 1]? = some (.inl (false, 5))) {r : br_Ro} (hr : br_RC q σ r) (h5 : r.1 ≤ 5) (z : Int) (hz : -2147483648 ≤ z ∧ z < 2147483648) : br_Met 1 mX2_pieceAt [br_r q, br_i (br_J z)] σ (br_R (br_J (br_pO r z)) σ) := by
  have hr0 := hr
  obtain ⟨hs, hp⟩ := hr
  refine br_ofW (by decide) 0 rfl (fun G C => ?_)
  refine br_aload_n C dX2_pieceAt_0 rfl rfl ?_
  refine br_iload_n C dX2_pieceAt_1 rfl rfl ?_
  refine br_cv1B C vcX2_23 (c_X2_reaches hq hq1 hr0 h5 z hz) (by decide) hq rfl (fun _ => Nat.le_of_ble_eq_true rfl) dX2_pieceAt_2 (fun h2 => ?_) (fun h2 => ?_)
  · refine br_if_eq1 C dX2_pieceAt_5 (tgt := 17) (by decide) ?_
    refine br_aload_n C dX2_pieceAt_8 rfl rfl ?_
    refine br_getR C fdX2_9 dX2_pieceAt_9 hq rfl ?_
    refine br_iload_n C dX2_pieceAt_12 rfl rfl ?_
    refine br_ialdJ C hq1 (by decide) h2.1 (by omega) (hp z.toNat (by omega)) dX2_pieceAt_13 ?_
    refine br_goto C dX2_pieceAt_14 (tgt := 18) (by decide) ?_
    exact br_iret C rfl dX2_pieceAt_18 ⟨by unfold br_pO; first | rw [if_pos h2] | rw [if_neg h2], rfl⟩
  · refine br_if_eq0 C dX2_pieceAt_5 (tgt := 17) (by decide) ?_
    refine br_iconstJ C dX2_pieceAt_17 ?_
    exact br_iret C rfl dX2_pieceAt_18 ⟨by unfold br_pO; first | rw [if_pos h2] | rw [if_neg h2], rfl⟩

set_option maxHeartbeats 4000000 in
set_option maxRecDepth 100000 in
theorem c_X2_placeOf {σ : br_Wd} {q : Nat} (hq : br_shps[q]? = some (.inr (2, [br_fr 3, br_fr (q + 1), none]))) (hq1 : br_shps[q + 1]? = some (.inl (false, 5))) {r : br_Ro} (hr : br_RC q σ r) (h5 : r.1 ≤ 5) (hu : ∀ i j : Nat, i < r.1 → j < r.1 → r.2 i = r.2 j → i = j) (hb : ∀ j : Nat, j < r.1 → r.2 j < 7) (z : Int) (hz : -2147483648 ≤ z ∧ z < 2147483648) : br_Met 0 mX2_placeOf [br_r q, br_i (br_J z)] σ (br_R (br_J (br_po r z)) σ) := by
  have hr0 := hr
  obtain ⟨hs, hp⟩ := hr
  refine br_ofW (by decide) 1 rfl (fun G C => ?_)
  have loop : ∀ (n i : Nat), i + n = r.1 → (∀ j : Nat, j < i → decide (((r.2 j : Nat) : Int) = z) = false) → G 2 [some (br_r q), some (br_i (br_J z)), some (br_i (br_J i))] [] σ := by
    intro n
    induction n with
    | zero =>
      intro i hin hno
      refine br_iload_n C dX2_placeOf_2 rfl rfl ?_
      refine br_aload_n C dX2_placeOf_3 rfl rfl ?_
      refine br_getI C fdX2_15 dX2_placeOf_4 hq rfl (by assumption) ?_
      refine br_icmp_geJ C (by omega) (by omega) dX2_placeOf_7 (tgt := 28) (by decide) (fun c7 => ?_) (fun c7 => ?_)
      · refine br_iconstJ C dX2_placeOf_28 ?_
        exact br_iret C rfl dX2_placeOf_29 ⟨by unfold br_po; rw [br_lst_none _ r.1 (fun j hj => hno j (by omega))], rfl⟩
      · omega
    | succ n ih =>
      intro i hin hno
      have hbi := hb i (by omega)
      refine br_iload_n C dX2_placeOf_2 rfl rfl ?_
      refine br_aload_n C dX2_placeOf_3 rfl rfl ?_
      refine br_getI C fdX2_15 dX2_placeOf_4 hq rfl (by assumption) ?_
      refine br_icmp_geJ C (by omega) (by omega) dX2_placeOf_7 (tgt := 28) (by decide) (fun c7 => ?_) (fun c7 => ?_)
      · omega
      · refine br_aload_n C dX2_placeOf_10 rfl rfl ?_
        refine br_getR C fdX2_9 dX2_placeOf_11 hq rfl ?_
        refine br_iload_n C dX2_placeOf_14 rfl rfl ?_
        refine br_ialdJ C hq1 (by decide) (by omega) (by omega) (hp i (by omega)) dX2_placeOf_15 ?_
        refine br_iload_n C dX2_placeOf_16 rfl rfl ?_
        refine br_icmp_neJ C (by omega) (by omega) dX2_placeOf_17 (tgt := 22) (by decide) (fun c17 => ?_) (fun c17 => ?_)
        · refine br_iincJ C dX2_placeOf_22 rfl (by decide) rfl (L' := [_, _, _]) rfl ?_
          refine br_goto C dX2_placeOf_25 (tgt := 2) (by decide) ?_
          exact ih (i + 1) (by omega) (fun j hj => by
            rcases Nat.lt_or_ge j i with h | h
            · exact hno j h
            · rw [show j = i by omega]; simpa using c17)
        · refine br_iload_n C dX2_placeOf_20 rfl rfl ?_
          exact br_iret C rfl dX2_placeOf_21 ⟨by unfold br_po; rw [br_lst_one _ r.1 i (by omega) (by simpa using c17) (fun j hj hpj => hu j i hj (by omega) (by have h9 := of_decide_eq_true hpj; omega))], rfl⟩
  refine br_iconstJ C dX2_placeOf_0 ?_
  refine br_istore_n C dX2_placeOf_1 rfl (by decide) rfl (L' := [_, _, _]) rfl ?_
  exact loop r.1 0 (by omega) (fun j hj => absurd hj (by omega))

set_option maxHeartbeats 4000000 in
set_option maxRecDepth 100000 in
theorem c_X2_holds {σ : br_Wd} {q : Nat} (hq : br_shps[q]? = some (.inr (2, [br_fr 3, br_fr (q + 1), none]))) (hq1 : br_shps[q + 1]? = some (.inl (false, 5))) {r : br_Ro} (hr : br_RC q σ r) (h5 : r.1 ≤ 5) (hu : ∀ i j : Nat, i < r.1 → j < r.1 → r.2 i = r.2 j → i = j) (hb : ∀ j : Nat, j < r.1 → r.2 j < 7) (z : Int) (hz : -2147483648 ≤ z ∧ z < 2147483648) : br_Met 1 mX2_holds [br_r q, br_i (br_J z)] σ (br_R (br_J (if ¬ br_po r z = -1 then 1 else 0)) σ) := by
  have hr0 := hr
  obtain ⟨hs, hp⟩ := hr
  refine br_ofW (by decide) 0 rfl (fun G C => ?_)
  have hpo : -1 ≤ br_po r z ∧ br_po r z < r.1 := br_lst_bnd _ _
  refine br_aload_n C dX2_holds_0 rfl rfl ?_
  refine br_iload_n C dX2_holds_1 rfl rfl ?_
  refine br_cv1R C vcX2_27 (c_X2_placeOf hq hq1 hr0 h5 hu hb z hz) (by decide) hq rfl (fun _ => Nat.le_of_ble_eq_true rfl) dX2_holds_2 ?_
  refine br_iconstJ C dX2_holds_5 ?_
  refine br_icmp_eqJ C (by omega) (by omega) dX2_holds_6 (tgt := 13) (by decide) (fun c6 => ?_) (fun c6 => ?_)
  · refine br_iconstJ C dX2_holds_13 ?_
    exact br_zret C (by decide) rfl dX2_holds_14 ⟨by first | rw [if_pos (by omega)] | rw [if_neg (by omega)], rfl⟩
  · refine br_iconstJ C dX2_holds_9 ?_
    refine br_goto C dX2_holds_10 (tgt := 14) (by decide) ?_
    exact br_zret C (by decide) rfl dX2_holds_14 ⟨by first | rw [if_pos (by omega)] | rw [if_neg (by omega)], rfl⟩

theorem br_RC_app {q : Nat} {σ : br_Wd} {r : br_Ro} (hr : br_RC q σ r) (p : Nat) : br_RC q (br_up (br_up σ (q + 1) r.1 (br_J p)) q 2 (br_J (r.1 + 1))) (br_app r p) := by
  refine ⟨?_, fun j hj => ?_⟩
  · simp [br_up, br_app]
  · have hj' : j < r.1 + 1 := hj
    simp only [br_up, br_app]
    rw [if_neg (by omega), if_pos True.intro]
    by_cases e : j = r.1
    · rw [if_pos e, if_pos e]
    · rw [if_neg e, if_neg e]; exact hr.2 j (by omega)

set_option maxHeartbeats 4000000 in
set_option maxRecDepth 100000 in
theorem c_X2_append {σ : br_Wd} {q : Nat} (hq : br_shps[q]? = some (.inr (2, [br_fr 3, br_fr (q + 1), none]))) (hq1 : br_shps[q + 1]? = some (.inl (false, 5))) {r : br_Ro} (hr : br_RC q σ r) (h5 : r.1 ≤ 5) (p : Nat) (hlt : r.1 < 5) : br_Met 0 mX2_append [br_r q, br_i (br_J p)] σ (fun v τ => v = none ∧ br_RC q τ (br_app r p) ∧ br_sm [q, q + 1] σ τ) := by
  have hr0 := hr
  obtain ⟨hs, hp⟩ := hr
  refine br_ofW (by decide) 0 rfl (fun G C => ?_)
  refine br_aload_n C dX2_append_0 rfl rfl ?_
  refine br_getI C fdX2_15 dX2_append_1 hq rfl (by assumption) ?_
  refine br_iconstJ C dX2_append_4 ?_
  refine br_icmp_geJ C (by omega) (by omega) dX2_append_5 (tgt := 28) (by decide) (fun c5 => ?_) (fun c5 => ?_)
  · omega
  · refine br_aload_n C dX2_append_8 rfl rfl ?_
    refine br_getR C fdX2_9 dX2_append_9 hq rfl ?_
    refine br_aload_n C dX2_append_12 rfl rfl ?_
    refine br_getI C fdX2_15 dX2_append_13 hq rfl (by assumption) ?_
    refine br_iload_n C dX2_append_16 rfl rfl ?_
    refine br_iastJ C hq1 (by decide) (by omega) (by omega) rfl dX2_append_17 ?_
    refine br_aload_n C dX2_append_18 rfl rfl ?_
    refine br_dup C dX2_append_19 rfl ?_
    refine br_getI C fdX2_15 dX2_append_20 hq rfl (x := br_J r.1) (by simp only [br_up]; rw [if_neg (by omega)]; exact hs) ?_
    refine br_iconstJ C dX2_append_23 ?_
    refine br_iaddJ C dX2_append_24 ?_
    refine br_putI C fdX2_15 dX2_append_25 hq rfl rfl ?_
    exact br_vret C rfl dX2_append_28 ⟨rfl, by simpa using br_RC_app hr0 p, (br_sm.rfl.up (by simp)).up (by simp)⟩

set_option maxHeartbeats 4000000 in
set_option maxRecDepth 100000 in
theorem c_X2_removeAt {σ : br_Wd} {q : Nat} (hq : br_shps[q]? = some (.inr (2, [br_fr 3, br_fr (q + 1), none]))) (hq1 : br_shps[q + 1]? = some (.inl (false, 5))) {r : br_Ro} (hr : br_RC q σ r) (h5 : r.1 ≤ 5) (k : Nat) (hk : k < r.1) : br_Met 1 mX2_removeAt [br_r q, br_i (br_J k)] σ (fun v τ => v = some (br_i (br_J (r.2 k : Nat))) ∧ br_RC q τ (br_rem r k) ∧ br_sm [q, q + 1] σ τ) := by
  have hr0 := hr
  obtain ⟨hs, hp⟩ := hr
  refine br_ofW (by decide) 2 rfl (fun G C => ?_)
  have loop : ∀ (n i : Nat) (τ : br_Wd), i + n = r.1 → k < i → br_sm [q, q + 1] σ τ → τ.1 q 2 = br_J r.1 → (∀ j : Nat, j < r.1 → τ.1 (q + 1) j = br_J ((if j < k then r.2 j else if j + 1 < i then r.2 (j + 1) else r.2 j : Nat) : Int)) → G 21 [some (br_r q), some (br_i (br_J k)), some (br_i (br_J (r.2 k : Nat))), some (br_i (br_J i))] [] τ := by
    intro n
    induction n with
    | zero =>
      intro i τ hin hki hsm hs1 hm
      refine br_iload_n C dX2_removeAt_21 rfl rfl ?_
      refine br_aload_n C dX2_removeAt_22 rfl rfl ?_
      refine br_getI C fdX2_15 dX2_removeAt_23 hq rfl hs1 ?_
      refine br_icmp_geJ C (by omega) (by omega) dX2_removeAt_26 (tgt := 49) (by decide) (fun c26 => ?_) (fun c26 => ?_)
      · refine br_aload_n C dX2_removeAt_49 rfl rfl ?_
        refine br_dup C dX2_removeAt_50 rfl ?_
        refine br_getI C fdX2_15 dX2_removeAt_51 hq rfl hs1 ?_
        refine br_iconstJ C dX2_removeAt_54 ?_
        refine br_isubJ C dX2_removeAt_55 ?_
        refine br_putI C fdX2_15 dX2_removeAt_56 hq rfl rfl ?_
        refine br_iload_n C dX2_removeAt_59 rfl rfl ?_
        exact br_iret C rfl dX2_removeAt_60 ⟨rfl, ⟨by simp only [br_up]; rw [if_pos True.intro, if_pos True.intro]; congr 1; show _ = ((r.1 - 1 : Nat) : Int); omega, fun j hj => by
          have hj2 : j < r.1 - 1 := hj
          have h9 := hm j (by omega)
          simp only [br_up]
          rw [if_neg (by omega), h9]
          show _ = br_J ((if j < k then r.2 j else r.2 (j + 1) : Nat) : Int)
          by_cases e : j < k
          · rw [if_pos e, if_pos e]
          · rw [if_neg e, if_neg e, if_pos (by omega)]⟩, hsm.up (by simp)⟩
      · omega
    | succ n ih =>
      intro i τ hin hki hsm hs1 hm
      refine br_iload_n C dX2_removeAt_21 rfl rfl ?_
      refine br_aload_n C dX2_removeAt_22 rfl rfl ?_
      refine br_getI C fdX2_15 dX2_removeAt_23 hq rfl hs1 ?_
      refine br_icmp_geJ C (by omega) (by omega) dX2_removeAt_26 (tgt := 49) (by decide) (fun c26 => ?_) (fun c26 => ?_)
      · omega
      · refine br_aload_n C dX2_removeAt_29 rfl rfl ?_
        refine br_getR C fdX2_9 dX2_removeAt_30 hq rfl ?_
        refine br_iload_n C dX2_removeAt_33 rfl rfl ?_
        refine br_iconstJ C dX2_removeAt_34 ?_
        refine br_isubJ C dX2_removeAt_35 ?_
        refine br_aload_n C dX2_removeAt_36 rfl rfl ?_
        refine br_getR C fdX2_9 dX2_removeAt_37 hq rfl ?_
        refine br_iload_n C dX2_removeAt_40 rfl rfl ?_
        refine br_ialdJ C hq1 (by decide) (by omega) (by omega) (y := (r.2 i : Nat)) (by rw [show ((i : Nat) : Int).toNat = i by omega, hm i (by omega), if_neg (by omega), if_neg (by omega)]) dX2_removeAt_41 ?_
        refine br_iastJ C hq1 (by decide) (by omega) (by omega) rfl dX2_removeAt_42 ?_
        refine br_iincJ C dX2_removeAt_43 rfl (by decide) rfl (L' := [_, _, _, _]) rfl ?_
        refine br_goto C dX2_removeAt_46 (tgt := 21) (by decide) ?_
        refine ih (i + 1) _ (by omega) (by omega) (hsm.up (by simp)) (by simp only [br_up]; rw [if_neg (by omega)]; exact hs1) (fun j hj => ?_)
        simp only [br_up]
        rw [if_pos True.intro]
        by_cases e : j = ((i : Int) - 1).toNat
        · rw [if_pos e, if_neg (by omega), if_pos (by omega), show j + 1 = i by omega]
        · rw [if_neg e, hm j hj]
          by_cases e1 : j < k
          · rw [if_pos e1, if_pos e1]
          · rw [if_neg e1, if_neg e1]
            by_cases e2 : j + 1 < i
            · rw [if_pos e2, if_pos (by omega)]
            · rw [if_neg e2, if_neg (by omega)]
  refine br_aload_n C dX2_removeAt_0 rfl rfl ?_
  refine br_iload_n C dX2_removeAt_1 rfl rfl ?_
  refine br_cv1B C vcX2_23 (c_X2_reaches hq hq1 hr0 h5 k (by omega)) (by decide) hq rfl (fun _ => Nat.le_of_ble_eq_true rfl) dX2_removeAt_2 (fun h2 => ?_) (fun h2 => ?_)
  · refine br_if_ne1 C dX2_removeAt_5 (tgt := 10) (by decide) ?_
    refine br_aload_n C dX2_removeAt_10 rfl rfl ?_
    refine br_getR C fdX2_9 dX2_removeAt_11 hq rfl ?_
    refine br_iload_n C dX2_removeAt_14 rfl rfl ?_
    refine br_ialdJ C hq1 (by decide) (by omega) (by omega) (hp k (by omega)) dX2_removeAt_15 ?_
    refine br_istore_n C dX2_removeAt_16 rfl (by decide) rfl (L' := [_, _, _, _]) rfl ?_
    refine br_iload_n C dX2_removeAt_17 rfl rfl ?_
    refine br_iconstJ C dX2_removeAt_18 ?_
    refine br_iaddJ C dX2_removeAt_19 ?_
    refine br_istore_n C dX2_removeAt_20 rfl (by decide) rfl (L' := [_, _, _, _]) rfl ?_
    exact loop (r.1 - (k + 1)) (k + 1) σ (by omega) (by omega) br_sm.rfl hs (fun j hj => by
      rw [hp j hj]
      by_cases e1 : j < k
      · rw [if_pos e1]
      · rw [if_neg e1, if_neg (by omega)])
  · refine br_if_ne0 C dX2_removeAt_5 (tgt := 10) (by decide) ?_
    omega

theorem br_RC_swp {q : Nat} {σ : br_Wd} {r : br_Ro} (hr : br_RC q σ r) (a b : Nat) (ha : a < r.1) (hb : b < r.1) : br_RC q (br_up (br_up σ (q + 1) a (br_J (r.2 b : Nat))) (q + 1) b (br_J (r.2 a : Nat))) (br_swp r a b) := by
  refine ⟨?_, fun j hj => ?_⟩
  · simp only [br_up]
    rw [if_neg (by omega), if_neg (by omega)]
    exact hr.1
  · have hj' : j < r.1 := hj
    simp only [br_up, br_swp]
    rw [if_pos True.intro]
    by_cases e : j = b
    · rw [if_pos e, if_pos e]
    · rw [if_neg e, if_neg e, if_pos True.intro]
      by_cases e2 : j = a
      · rw [if_pos e2, if_pos e2]
      · rw [if_neg e2, if_neg e2]; exact hr.2 j (by omega)

set_option maxHeartbeats 4000000 in
set_option maxRecDepth 100000 in
theorem c_X2_exchange {σ : br_Wd} {q : Nat} (hq : br_shps[q]? = some (.inr (2, [br_fr 3, br_fr (q + 1), none]))) (hq1 : br_shps[q + 1]? = some (.inl (false, 5))) {r : br_Ro} (hr : br_RC q σ r) (h5 : r.1 ≤ 5) (a b : Nat) (ha : a < r.1) (hb : b < r.1) : br_Met 1 mX2_exchange [br_r q, br_i (br_J a), br_i (br_J b)] σ (fun v τ => v = none ∧ br_RC q τ (br_swp r a b) ∧ br_sm [q, q + 1] σ τ) := by
  have hr0 := hr
  obtain ⟨hs, hp⟩ := hr
  refine br_ofW (by decide) 1 rfl (fun G C => ?_)
  refine br_aload_n C dX2_exchange_0 rfl rfl ?_
  refine br_iload_n C dX2_exchange_1 rfl rfl ?_
  refine br_cv1B C vcX2_23 (c_X2_reaches hq hq1 hr0 h5 a (by omega)) (by decide) hq rfl (fun _ => Nat.le_of_ble_eq_true rfl) dX2_exchange_2 (fun h2 => ?_) (fun h2 => ?_)
  · refine br_if_eq1 C dX2_exchange_5 (tgt := 42) (by decide) ?_
    refine br_aload_n C dX2_exchange_8 rfl rfl ?_
    refine br_iload_n C dX2_exchange_9 rfl rfl ?_
    refine br_cv1B C vcX2_23 (c_X2_reaches hq hq1 hr0 h5 b (by omega)) (by decide) hq rfl (fun _ => Nat.le_of_ble_eq_true rfl) dX2_exchange_10 (fun h10 => ?_) (fun h10 => ?_)
    · refine br_if_eq1 C dX2_exchange_13 (tgt := 42) (by decide) ?_
      refine br_aload_n C dX2_exchange_16 rfl rfl ?_
      refine br_getR C fdX2_9 dX2_exchange_17 hq rfl ?_
      refine br_iload_n C dX2_exchange_20 rfl rfl ?_
      refine br_ialdJ C hq1 (by decide) (by omega) (by omega) (hp a (by omega)) dX2_exchange_21 ?_
      refine br_istore_n C dX2_exchange_22 rfl (by decide) rfl (L' := [_, _, _, _]) rfl ?_
      refine br_aload_n C dX2_exchange_23 rfl rfl ?_
      refine br_getR C fdX2_9 dX2_exchange_24 hq rfl ?_
      refine br_iload_n C dX2_exchange_27 rfl rfl ?_
      refine br_aload_n C dX2_exchange_28 rfl rfl ?_
      refine br_getR C fdX2_9 dX2_exchange_29 hq rfl ?_
      refine br_iload_n C dX2_exchange_32 rfl rfl ?_
      refine br_ialdJ C hq1 (by decide) (by omega) (by omega) (hp b (by omega)) dX2_exchange_33 ?_
      refine br_iastJ C hq1 (by decide) (by omega) (by omega) rfl dX2_exchange_34 ?_
      refine br_aload_n C dX2_exchange_35 rfl rfl ?_
      refine br_getR C fdX2_9 dX2_exchange_36 hq rfl ?_
      refine br_iload_n C dX2_exchange_39 rfl rfl ?_
      refine br_iload_n C dX2_exchange_40 rfl rfl ?_
      refine br_iastJ C hq1 (by decide) (by omega) (by omega) rfl dX2_exchange_41 ?_
      exact br_vret C rfl dX2_exchange_42 ⟨rfl, by simpa using br_RC_swp hr0 a b ha hb, (br_sm.rfl.up (by simp)).up (by simp)⟩
    · omega
  · omega

set_option maxHeartbeats 4000000 in
set_option maxRecDepth 100000 in
theorem c_X2_copyFrom {σ : br_Wd} {q : Nat} (hq : br_shps[q]? = some (.inr (2, [br_fr 3, br_fr (q + 1), none]))) (hq1 : br_shps[q + 1]? = some (.inl (false, 5))) {q2 : Nat} (hq2 : br_shps[q2]? = some (.inr (2, [br_fr 3, br_fr (q2 + 1), none]))) (hq3 : br_shps[q2 + 1]? = some (.inl (false, 5))) {r2 : br_Ro} (hr2 : br_RC q2 σ r2) (h52 : r2.1 ≤ 5) (hne : ¬ q2 = q ∧ ¬ q2 = q + 1 ∧ ¬ q2 + 1 = q) : br_Met 0 mX2_copyFrom [br_r q, br_r q2] σ (fun v τ => v = none ∧ br_RC q τ r2 ∧ br_sm [q, q + 1] σ τ) := by
  obtain ⟨hs2, hp2⟩ := hr2
  refine br_ofW (by decide) 1 rfl (fun G C => ?_)
  have loop : ∀ (n i : Nat) (τ : br_Wd), i + n = r2.1 → br_sm [q, q + 1] σ τ → τ.1 q 2 = br_J r2.1 → (∀ j : Nat, j < i → τ.1 (q + 1) j = br_J (r2.2 j : Nat)) → G 10 [some (br_r q), some (br_r q2), some (br_i (br_J i))] [] τ := by
    intro n
    induction n with
    | zero =>
      intro i τ hin hsm hs1 hm
      refine br_iload_n C dX2_copyFrom_10 rfl rfl ?_
      refine br_aload_n C dX2_copyFrom_11 rfl rfl ?_
      refine br_getI C fdX2_15 dX2_copyFrom_12 hq rfl hs1 ?_
      refine br_icmp_geJ C (by omega) (by omega) dX2_copyFrom_15 (tgt := 36) (by decide) (fun c15 => ?_) (fun c15 => ?_)
      · exact br_vret C rfl dX2_copyFrom_36 ⟨rfl, ⟨hs1, fun j hj => hm j (by omega)⟩, hsm⟩
      · omega
    | succ n ih =>
      intro i τ hin hsm hs1 hm
      refine br_iload_n C dX2_copyFrom_10 rfl rfl ?_
      refine br_aload_n C dX2_copyFrom_11 rfl rfl ?_
      refine br_getI C fdX2_15 dX2_copyFrom_12 hq rfl hs1 ?_
      refine br_icmp_geJ C (by omega) (by omega) dX2_copyFrom_15 (tgt := 36) (by decide) (fun c15 => ?_) (fun c15 => ?_)
      · omega
      · refine br_aload_n C dX2_copyFrom_18 rfl rfl ?_
        refine br_getR C fdX2_9 dX2_copyFrom_19 hq rfl ?_
        refine br_iload_n C dX2_copyFrom_22 rfl rfl ?_
        refine br_aload_n C dX2_copyFrom_23 rfl rfl ?_
        refine br_getR C fdX2_9 dX2_copyFrom_24 hq2 rfl ?_
        refine br_iload_n C dX2_copyFrom_27 rfl rfl ?_
        refine br_ialdJ C hq3 (by decide) (by omega) (by omega) (y := (r2.2 i : Nat)) (by rw [show ((i : Nat) : Int).toNat = i by omega, hsm.1 (q2 + 1) (by simp; omega)]; exact hp2 i (by omega)) dX2_copyFrom_28 ?_
        refine br_iastJ C hq1 (by decide) (by omega) (by omega) rfl dX2_copyFrom_29 ?_
        refine br_iincJ C dX2_copyFrom_30 rfl (by decide) rfl (L' := [_, _, _]) rfl ?_
        refine br_goto C dX2_copyFrom_33 (tgt := 10) (by decide) ?_
        refine ih (i + 1) _ (by omega) (hsm.up (by simp)) (by simp only [br_up]; rw [if_neg (by omega)]; exact hs1) (fun j hj => ?_)
        simp only [br_up]
        rw [if_pos True.intro]
        by_cases e : j = ((i : Nat) : Int).toNat
        · rw [if_pos e, show j = i by omega]
        · rw [if_neg e]; exact hm j (by omega)
  refine br_aload_n C dX2_copyFrom_0 rfl rfl ?_
  refine br_aload_n C dX2_copyFrom_1 rfl rfl ?_
  refine br_getI C fdX2_15 dX2_copyFrom_2 hq2 rfl hs2 ?_
  refine br_putI C fdX2_15 dX2_copyFrom_5 hq rfl rfl ?_
  refine br_iconstJ C dX2_copyFrom_8 ?_
  refine br_istore_n C dX2_copyFrom_9 rfl (by decide) rfl (L' := [_, _, _]) rfl ?_
  exact loop r2.1 0 _ (by omega) (br_sm.rfl.up (by simp)) (by simp [br_up]) (fun j hj => absurd hj (by omega))
end
section
theorem br_kO_bnd {g : br_Gy} (hg : br_Gok g) (z : Int) : -1 ≤ br_kO g z ∧ br_kO g z ≤ 4 := by
  unfold br_kO; split
  · have := (hg.2 z.toNat (by omega)).1
    omega
  · omega
theorem br_sO_bnd {g : br_Gy} (hg : br_Gok g) (z : Int) : 0 ≤ br_sO g z ∧ br_sO g z ≤ 9 := by
  unfold br_sO; split
  · have := (hg.2 z.toNat (by omega)).2.2
    omega
  · omega
theorem br_kO_in {g : br_Gy} {p : Nat} (h : p < g.1) : br_kO g p = br_gK g p := by
  unfold br_kO; rw [if_pos (by omega)]; rfl
theorem br_sO_in {g : br_Gy} {p : Nat} (h : p < g.1) : br_sO g p = br_gS g p := by
  unfold br_sO; rw [if_pos (by omega)]; rfl
theorem br_wO_in {g : br_Gy} {p : Nat} (h : p < g.1) : br_wO g p = br_gW g p := by
  unfold br_wO; rw [if_pos (by omega)]; rfl
theorem br_pO_in {r : br_Ro} {i : Nat} (h : i < r.1) : br_pO r i = (r.2 i : Nat) := by
  unfold br_pO; rw [if_pos (by omega)]; rfl
theorem br_pO_out {r : br_Ro} {z : Int} (h : r.1 ≤ z) : br_pO r z = -1 := by
  unfold br_pO; rw [if_neg (by omega)]
theorem br_pO_bnd {g : br_Gy} {r : br_Ro} (hg : br_Gok g) (hr : br_Rok g r) (z : Int) : -1 ≤ br_pO r z ∧ br_pO r z ≤ 6 := by
  unfold br_pO; split
  · have := hr.2.1 z.toNat (by omega)
    have := hg.1
    omega
  · omega
theorem br_isP_F {g : br_Gy} {p : Nat} (h : p < g.1) : br_isP g p 1 ↔ br_isF g p := by
  unfold br_isP br_isF
  rw [show ((p : Nat) : Int).toNat = p from rfl]
  omega
theorem br_isP_T {g : br_Gy} {p : Nat} (h : p < g.1) : br_isP g p 2 ↔ br_isT g p := by
  unfold br_isP br_isT
  rw [show ((p : Nat) : Int).toNat = p from rfl]
  omega
theorem br_isP_4 {g : br_Gy} {p : Nat} (h : p < g.1) : br_isP g p 4 ↔ br_gK g p = 4 := by
  unfold br_isP
  rw [show ((p : Nat) : Int).toNat = p from rfl]
  omega
theorem br_nF_bnd (g : br_Gy) (r : br_Ro) (h : r.1 ≤ 5) : 0 ≤ br_nF g r ∧ br_nF g r ≤ 5 := by
  have := br_sum_bnd (f := fun i => if br_isF g (r.2 i) then 1 else 0) (n := r.1) (a := 0) (b := 1) (fun j _ => by split <;> omega)
  unfold br_nF; omega
theorem br_nT_bnd (g : br_Gy) (r : br_Ro) (h : r.1 ≤ 5) : 0 ≤ br_nT g r ∧ br_nT g r ≤ 5 := by
  have := br_sum_bnd (f := fun i => if br_isT g (r.2 i) then 1 else 0) (n := r.1) (a := 0) (b := 1) (fun j _ => by split <;> omega)
  unfold br_nT; omega
theorem br_shl1 {k : Nat} (h : k ≤ 5) : br_J 1 <<< (br_J k &&& 31) = br_J ((2 ^ k : Nat) : Int) := by
  have key : ∀ k : Fin 6, br_J 1 <<< (br_J (k : Nat) &&& 31) = br_J ((2 ^ (k : Nat) : Nat) : Int) := by decide +kernel
  exact key ⟨k, by omega⟩

set_option maxHeartbeats 4000000 in
set_option maxRecDepth 100000 in
theorem c_X2_howMany {σ : br_Wd} {q : Nat} (hq : br_shps[q]? = some (.inr (2, [br_fr 3, br_fr (q + 1), none]))) (hq1 : br_shps[q + 1]? = some (.inl (false, 5))) {g : br_Gy} {r : br_Ro} (hg : br_GC σ g) (hgo : br_Gok g) (hr : br_RC q σ r) (hro : br_Rok g r) (kd : Int) (hkd : -2147483648 ≤ kd ∧ kd < 2147483648) : br_Met 2 mX2_howMany [br_r q, br_i (br_J kd)] σ (br_R (br_J (br_sum (fun j => if br_isP g (r.2 j : Nat) kd then 1 else 0) r.1)) σ) := by
  have hr0 := hr
  have hg0 := hg
  obtain ⟨hs, hp⟩ := hr
  have h5 := hro.1
  have hn := hgo.1
  have hk := fun (j : Nat) (hj : j < g.1) => (hgo.2 j hj).1
  refine br_ofW (by decide) 2 rfl (fun G C => ?_)
  have loop : ∀ (n i : Nat) (a : Int), i + n = r.1 → a = br_sum (fun j => if br_isP g (r.2 j : Nat) kd then 1 else 0) i → G 4 [some (br_r q), some (br_i (br_J kd)), some (br_i (br_J a)), some (br_i (br_J i))] [] σ := by
    intro n
    induction n with
    | zero =>
      intro i a hin ha
      have ei : i = r.1 := by omega
      subst ei
      refine br_iload_n C dX2_howMany_4 rfl rfl ?_
      refine br_aload_n C dX2_howMany_5 rfl rfl ?_
      refine br_getI C fdX2_15 dX2_howMany_6 hq rfl (by assumption) ?_
      refine br_icmp_geJ C (by omega) (by omega) dX2_howMany_9 (tgt := 43) (by decide) (fun c9 => ?_) (fun c9 => ?_)
      · refine br_iload_n C dX2_howMany_43 rfl rfl ?_
        exact br_iret C rfl dX2_howMany_44 ⟨by rw [ha], rfl⟩
      · omega
    | succ n ih =>
      intro i a hin ha
      have hi : i < r.1 := by omega
      refine br_iload_n C dX2_howMany_4 rfl rfl ?_
      refine br_aload_n C dX2_howMany_5 rfl rfl ?_
      refine br_getI C fdX2_15 dX2_howMany_6 hq rfl (by assumption) ?_
      refine br_icmp_geJ C (by omega) (by omega) dX2_howMany_9 (tgt := 43) (by decide) (fun c9 => ?_) (fun c9 => ?_)
      · omega
      · refine br_iload_n C dX2_howMany_12 rfl rfl ?_
        refine br_aload_n C dX2_howMany_13 rfl rfl ?_
        refine br_getR C fdX2_19 dX2_howMany_14 hq rfl ?_
        refine br_aload_n C dX2_howMany_17 rfl rfl ?_
        refine br_getR C fdX2_9 dX2_howMany_18 hq rfl ?_
        refine br_iload_n C dX2_howMany_21 rfl rfl ?_
        have hri := hro.2.1 i hi
        refine br_ialdJ C hq1 (by decide) (by omega) (by omega) (hp i (by omega)) dX2_howMany_22 ?_
        refine br_iload_n C dX2_howMany_23 rfl rfl ?_
        refine br_cv2B C vcX2_31 (c_X0_isA hg0 hn hk (r.2 i : Nat) kd (by omega) (by omega)) (by decide) rfl rfl (fun _ => Nat.le_of_ble_eq_true rfl) dX2_howMany_24 (fun h24 => ?_) (fun h24 => ?_)
        · refine br_if_eq1 C dX2_howMany_27 (tgt := 34) (by decide) ?_
          refine br_iconstJ C dX2_howMany_30 ?_
          refine br_goto C dX2_howMany_31 (tgt := 35) (by decide) ?_
          refine br_iaddJ C dX2_howMany_35 ?_
          refine br_istore_n C dX2_howMany_36 rfl (by decide) rfl (L' := [_, _, _, _]) rfl ?_
          refine br_iincJ C dX2_howMany_37 rfl (by decide) rfl (L' := [_, _, _, _]) rfl ?_
          refine br_goto C dX2_howMany_40 (tgt := 4) (by decide) ?_
          exact ih (i + 1) _ (by omega) (by show _ = br_sum _ i + (if _ then _ else _); rw [← ha]; first | rw [if_pos h24] | rw [if_neg h24])
        · refine br_if_eq0 C dX2_howMany_27 (tgt := 34) (by decide) ?_
          refine br_iconstJ C dX2_howMany_34 ?_
          refine br_iaddJ C dX2_howMany_35 ?_
          refine br_istore_n C dX2_howMany_36 rfl (by decide) rfl (L' := [_, _, _, _]) rfl ?_
          refine br_iincJ C dX2_howMany_37 rfl (by decide) rfl (L' := [_, _, _, _]) rfl ?_
          refine br_goto C dX2_howMany_40 (tgt := 4) (by decide) ?_
          exact ih (i + 1) _ (by omega) (by show _ = br_sum _ i + (if _ then _ else _); rw [← ha]; first | rw [if_pos h24] | rw [if_neg h24])
  refine br_iconstJ C dX2_howMany_0 ?_
  refine br_istore_n C dX2_howMany_1 rfl (by decide) rfl (L' := [_, _, _, _]) rfl ?_
  refine br_iconstJ C dX2_howMany_2 ?_
  refine br_istore_n C dX2_howMany_3 rfl (by decide) rfl (L' := [_, _, _, _]) rfl ?_
  exact loop r.1 0 0 (by omega) rfl

theorem br_nF_eq {g : br_Gy} {r : br_Ro} (hr : br_Rok g r) : br_sum (fun j => if br_isP g (r.2 j : Nat) 1 then 1 else 0) r.1 = br_nF g r := br_sum_congr (fun j hj => by
  have := br_isP_F (hr.2.1 j hj)
  by_cases h : br_isF g (r.2 j)
  · rw [if_pos h, if_pos (this.mpr h)]
  · rw [if_neg h, if_neg (fun q => h (this.mp q))])
theorem br_nT_eq {g : br_Gy} {r : br_Ro} (hr : br_Rok g r) : br_sum (fun j => if br_isP g (r.2 j : Nat) 2 then 1 else 0) r.1 = br_nT g r := br_sum_congr (fun j hj => by
  have := br_isP_T (hr.2.1 j hj)
  by_cases h : br_isT g (r.2 j)
  · rw [if_pos h, if_pos (this.mpr h)]
  · rw [if_neg h, if_neg (fun q => h (this.mp q))])

theorem c_howF {σ : br_Wd} {q : Nat} (hq : br_shps[q]? = some (.inr (2, [br_fr 3, br_fr (q + 1), none]))) (hq1 : br_shps[q + 1]? = some (.inl (false, 5))) {g : br_Gy} {r : br_Ro} (hg : br_GC σ g) (hgo : br_Gok g) (hr : br_RC q σ r) (hro : br_Rok g r) : br_Met 2 mX2_howMany [br_r q, br_i (br_J 1)] σ (br_R (br_J (br_nF g r)) σ) := by
  rw [← br_nF_eq hro]
  exact c_X2_howMany hq hq1 hg hgo hr hro 1 (by omega)

theorem c_howT {σ : br_Wd} {q : Nat} (hq : br_shps[q]? = some (.inr (2, [br_fr 3, br_fr (q + 1), none]))) (hq1 : br_shps[q + 1]? = some (.inl (false, 5))) {g : br_Gy} {r : br_Ro} (hg : br_GC σ g) (hgo : br_Gok g) (hr : br_RC q σ r) (hro : br_Rok g r) : br_Met 2 mX2_howMany [br_r q, br_i (br_J 2)] σ (br_R (br_J (br_nT g r)) σ) := by
  rw [← br_nT_eq hro]
  exact c_X2_howMany hq hq1 hg hgo hr hro 2 (by omega)

set_option maxHeartbeats 4000000 in
set_option maxRecDepth 100000 in
theorem c_X2_lackingPenalty {σ : br_Wd} {q : Nat} (hq : br_shps[q]? = some (.inr (2, [br_fr 3, br_fr (q + 1), none]))) (hq1 : br_shps[q + 1]? = some (.inl (false, 5))) {g : br_Gy} {r : br_Ro} (hg : br_GC σ g) (hgo : br_Gok g) (hr : br_RC q σ r) (hro : br_Rok g r) : br_Met 3 mX2_lackingPenalty [br_r q] σ (br_R (br_J (br_pen g r)) σ) := by
  have hr0 := hr
  have hg0 := hg
  obtain ⟨hs, hp⟩ := hr
  have h5 := hro.1
  have hn := hgo.1
  have hk := fun (j : Nat) (hj : j < g.1) => (hgo.2 j hj).1
  refine br_ofW (by decide) 0 rfl (fun G C => ?_)
  have hF := br_nF_bnd g r h5
  have hT := br_nT_bnd g r h5
  refine br_aload_n C dX2_lackingPenalty_0 rfl rfl ?_
  refine br_iconstJ C dX2_lackingPenalty_1 ?_
  refine br_cv1R C vcX2_43 (c_howF hq hq1 hg0 hgo hr0 hro) (by decide) hq rfl (fun _ => Nat.le_of_ble_eq_true rfl) dX2_lackingPenalty_2 ?_
  refine br_if_neJ C (by omega) dX2_lackingPenalty_5 (tgt := 12) (by decide) (fun c5 => ?_) (fun c5 => ?_)
  · refine br_iconstJ C dX2_lackingPenalty_12 ?_
    refine br_aload_n C dX2_lackingPenalty_13 rfl rfl ?_
    refine br_iconstJ C dX2_lackingPenalty_14 ?_
    refine br_cv1R C vcX2_43 (c_howT hq hq1 hg0 hgo hr0 hro) (by decide) hq rfl (fun _ => Nat.le_of_ble_eq_true rfl) dX2_lackingPenalty_15 ?_
    refine br_if_neJ C (by omega) dX2_lackingPenalty_18 (tgt := 25) (by decide) (fun c18 => ?_) (fun c18 => ?_)
    · refine br_iconstJ C dX2_lackingPenalty_25 ?_
      refine br_iaddJ C dX2_lackingPenalty_26 ?_
      exact br_iret C rfl dX2_lackingPenalty_27 ⟨by unfold br_pen; first | rw [if_pos (by omega), if_pos (by omega)] | rw [if_pos (by omega), if_neg (by omega)] | rw [if_neg (by omega), if_pos (by omega)] | rw [if_neg (by omega), if_neg (by omega)], rfl⟩
    · refine br_iconstJ C dX2_lackingPenalty_21 ?_
      refine br_goto C dX2_lackingPenalty_22 (tgt := 26) (by decide) ?_
      refine br_iaddJ C dX2_lackingPenalty_26 ?_
      exact br_iret C rfl dX2_lackingPenalty_27 ⟨by unfold br_pen; first | rw [if_pos (by omega), if_pos (by omega)] | rw [if_pos (by omega), if_neg (by omega)] | rw [if_neg (by omega), if_pos (by omega)] | rw [if_neg (by omega), if_neg (by omega)], rfl⟩
  · refine br_iconstJ C dX2_lackingPenalty_8 ?_
    refine br_goto C dX2_lackingPenalty_9 (tgt := 13) (by decide) ?_
    refine br_aload_n C dX2_lackingPenalty_13 rfl rfl ?_
    refine br_iconstJ C dX2_lackingPenalty_14 ?_
    refine br_cv1R C vcX2_43 (c_howT hq hq1 hg0 hgo hr0 hro) (by decide) hq rfl (fun _ => Nat.le_of_ble_eq_true rfl) dX2_lackingPenalty_15 ?_
    refine br_if_neJ C (by omega) dX2_lackingPenalty_18 (tgt := 25) (by decide) (fun c18 => ?_) (fun c18 => ?_)
    · refine br_iconstJ C dX2_lackingPenalty_25 ?_
      refine br_iaddJ C dX2_lackingPenalty_26 ?_
      exact br_iret C rfl dX2_lackingPenalty_27 ⟨by unfold br_pen; first | rw [if_pos (by omega), if_pos (by omega)] | rw [if_pos (by omega), if_neg (by omega)] | rw [if_neg (by omega), if_pos (by omega)] | rw [if_neg (by omega), if_neg (by omega)], rfl⟩
    · refine br_iconstJ C dX2_lackingPenalty_21 ?_
      refine br_goto C dX2_lackingPenalty_22 (tgt := 26) (by decide) ?_
      refine br_iaddJ C dX2_lackingPenalty_26 ?_
      exact br_iret C rfl dX2_lackingPenalty_27 ⟨by unfold br_pen; first | rw [if_pos (by omega), if_pos (by omega)] | rw [if_pos (by omega), if_neg (by omega)] | rw [if_neg (by omega), if_pos (by omega)] | rw [if_neg (by omega), if_neg (by omega)], rfl⟩

set_option maxHeartbeats 4000000 in
set_option maxRecDepth 100000 in
theorem c_X2_joinWorth {σ : br_Wd} {q : Nat} (hq : br_shps[q]? = some (.inr (2, [br_fr 3, br_fr (q + 1), none]))) (hq1 : br_shps[q + 1]? = some (.inl (false, 5))) {g : br_Gy} {r : br_Ro} (hg : br_GC σ g) (hgo : br_Gok g) (hr : br_RC q σ r) (hro : br_Rok g r) (i : Nat) (hi : i < r.1) : br_Met 2 mX2_joinWorth [br_r q, br_i (br_J i)] σ (br_R (br_J (br_jw g r i)) σ) := by
  have hr0 := hr
  have hg0 := hg
  obtain ⟨hs, hp⟩ := hr
  have h5 := hro.1
  have hn := hgo.1
  have hk := fun (j : Nat) (hj : j < g.1) => (hgo.2 j hj).1
  refine br_ofW (by decide) 2 rfl (fun G C => ?_)
  have hri := hro.2.1 i hi
  have hc1 := c_X2_pieceAt hq hq1 hr0 h5 i (by omega)
  rw [br_pO_in hi] at hc1
  have hs2 := br_pO_bnd hgo hro (i + 1)
  have hA := br_isP_F hri
  have hD := br_isP_4 hri
  have hB : br_isP g (br_pO r (i + 1)) 1 ↔ i + 1 < r.1 ∧ br_isF g (r.2 (i + 1)) := by
    by_cases h : i + 1 < r.1
    · rw [show ((i : Int) + 1) = ((i + 1 : Nat) : Int) from rfl, br_pO_in h, br_isP_F (hro.2.1 (i + 1) h)]
      exact ⟨fun q => ⟨h, q⟩, fun q => q.2⟩
    · rw [br_pO_out (by omega)]
      exact ⟨fun q => absurd q.1.1 (by omega), fun q => absurd q.1 h⟩
  have hC : br_isP g (br_pO r (i + 1)) 2 ↔ i + 1 < r.1 ∧ br_isT g (r.2 (i + 1)) := by
    by_cases h : i + 1 < r.1
    · rw [show ((i : Int) + 1) = ((i + 1 : Nat) : Int) from rfl, br_pO_in h, br_isP_T (hro.2.1 (i + 1) h)]
      exact ⟨fun q => ⟨h, q⟩, fun q => q.2⟩
    · rw [br_pO_out (by omega)]
      exact ⟨fun q => absurd q.1.1 (by omega), fun q => absurd q.1 h⟩
  refine br_aload_n C dX2_joinWorth_0 rfl rfl ?_
  refine br_iload_n C dX2_joinWorth_1 rfl rfl ?_
  refine br_cv1R C vcX2_40 (hc1) (by decide) hq rfl (fun _ => Nat.le_of_ble_eq_true rfl) dX2_joinWorth_2 ?_
  refine br_istore_n C dX2_joinWorth_5 rfl (by decide) rfl (L' := [_, _, _, _]) rfl ?_
  refine br_aload_n C dX2_joinWorth_6 rfl rfl ?_
  refine br_iload_n C dX2_joinWorth_7 rfl rfl ?_
  refine br_iconstJ C dX2_joinWorth_8 ?_
  refine br_iaddJ C dX2_joinWorth_9 ?_
  refine br_cv1R C vcX2_40 (c_X2_pieceAt hq hq1 hr0 h5 (i + 1) (by omega)) (by decide) hq rfl (fun _ => Nat.le_of_ble_eq_true rfl) dX2_joinWorth_10 ?_
  refine br_istore_n C dX2_joinWorth_13 rfl (by decide) rfl (L' := [_, _, _, _]) rfl ?_
  refine br_aload_n C dX2_joinWorth_14 rfl rfl ?_
  refine br_getR C fdX2_19 dX2_joinWorth_15 hq rfl ?_
  refine br_iload_n C dX2_joinWorth_18 rfl rfl ?_
  refine br_iconstJ C dX2_joinWorth_19 ?_
  refine br_cv2B C vcX2_31 (c_X0_isA hg0 hn hk (r.2 i : Nat) 1 (by omega) (by omega)) (by decide) rfl rfl (fun _ => Nat.le_of_ble_eq_true rfl) dX2_joinWorth_20 (fun h20 => ?_) (fun h20 => ?_)
  · refine br_if_eq1 C dX2_joinWorth_23 (tgt := 50) (by decide) ?_
    refine br_aload_n C dX2_joinWorth_26 rfl rfl ?_
    refine br_getR C fdX2_19 dX2_joinWorth_27 hq rfl ?_
    refine br_iload_n C dX2_joinWorth_30 rfl rfl ?_
    refine br_iconstJ C dX2_joinWorth_31 ?_
    refine br_cv2B C vcX2_31 (c_X0_isA hg0 hn hk (br_pO r (i + 1)) 1 (by omega) (by omega)) (by decide) rfl rfl (fun _ => Nat.le_of_ble_eq_true rfl) dX2_joinWorth_32 (fun h32 => ?_) (fun h32 => ?_)
    · refine br_if_ne1 C dX2_joinWorth_35 (tgt := 52) (by decide) ?_
      refine br_aload_n C dX2_joinWorth_52 rfl rfl ?_
      refine br_getR C fdX2_19 dX2_joinWorth_53 hq rfl ?_
      refine br_iload_n C dX2_joinWorth_56 rfl rfl ?_
      refine br_iconstJ C dX2_joinWorth_57 ?_
      refine br_cv2B C vcX2_31 (c_X0_isA hg0 hn hk (r.2 i : Nat) 4 (by omega) (by omega)) (by decide) rfl rfl (fun _ => Nat.le_of_ble_eq_true rfl) dX2_joinWorth_58 (fun h58 => ?_) (fun h58 => ?_)
      · refine br_if_eq1 C dX2_joinWorth_61 (tgt := 68) (by decide) ?_
        refine br_iconstJ C dX2_joinWorth_64 ?_
        refine br_goto C dX2_joinWorth_65 (tgt := 69) (by decide) ?_
        exact br_iret C rfl dX2_joinWorth_69 ⟨by unfold br_jw; (first | rw [if_pos (⟨(hB.mp h32).1, hA.mp h20, Or.inl (hB.mp h32).2⟩ : i + 1 < r.1 ∧ br_isF g (r.2 i) ∧ (br_isF g (r.2 (i + 1)) ∨ br_isT g (r.2 (i + 1))))] | rw [if_pos (⟨(hC.mp h44).1, hA.mp h20, Or.inr (hC.mp h44).2⟩ : i + 1 < r.1 ∧ br_isF g (r.2 i) ∧ (br_isF g (r.2 (i + 1)) ∨ br_isT g (r.2 (i + 1))))]); (first | rw [if_pos (hD.mp h58)] | rw [if_neg (fun q => h58 (hD.mpr q))]), rfl⟩
      · refine br_if_eq0 C dX2_joinWorth_61 (tgt := 68) (by decide) ?_
        refine br_iconstJ C dX2_joinWorth_68 ?_
        exact br_iret C rfl dX2_joinWorth_69 ⟨by unfold br_jw; (first | rw [if_pos (⟨(hB.mp h32).1, hA.mp h20, Or.inl (hB.mp h32).2⟩ : i + 1 < r.1 ∧ br_isF g (r.2 i) ∧ (br_isF g (r.2 (i + 1)) ∨ br_isT g (r.2 (i + 1))))] | rw [if_pos (⟨(hC.mp h44).1, hA.mp h20, Or.inr (hC.mp h44).2⟩ : i + 1 < r.1 ∧ br_isF g (r.2 i) ∧ (br_isF g (r.2 (i + 1)) ∨ br_isT g (r.2 (i + 1))))]); (first | rw [if_pos (hD.mp h58)] | rw [if_neg (fun q => h58 (hD.mpr q))]), rfl⟩
    · refine br_if_ne0 C dX2_joinWorth_35 (tgt := 52) (by decide) ?_
      refine br_aload_n C dX2_joinWorth_38 rfl rfl ?_
      refine br_getR C fdX2_19 dX2_joinWorth_39 hq rfl ?_
      refine br_iload_n C dX2_joinWorth_42 rfl rfl ?_
      refine br_iconstJ C dX2_joinWorth_43 ?_
      refine br_cv2B C vcX2_31 (c_X0_isA hg0 hn hk (br_pO r (i + 1)) 2 (by omega) (by omega)) (by decide) rfl rfl (fun _ => Nat.le_of_ble_eq_true rfl) dX2_joinWorth_44 (fun h44 => ?_) (fun h44 => ?_)
      · refine br_if_ne1 C dX2_joinWorth_47 (tgt := 52) (by decide) ?_
        refine br_aload_n C dX2_joinWorth_52 rfl rfl ?_
        refine br_getR C fdX2_19 dX2_joinWorth_53 hq rfl ?_
        refine br_iload_n C dX2_joinWorth_56 rfl rfl ?_
        refine br_iconstJ C dX2_joinWorth_57 ?_
        refine br_cv2B C vcX2_31 (c_X0_isA hg0 hn hk (r.2 i : Nat) 4 (by omega) (by omega)) (by decide) rfl rfl (fun _ => Nat.le_of_ble_eq_true rfl) dX2_joinWorth_58 (fun h58 => ?_) (fun h58 => ?_)
        · refine br_if_eq1 C dX2_joinWorth_61 (tgt := 68) (by decide) ?_
          refine br_iconstJ C dX2_joinWorth_64 ?_
          refine br_goto C dX2_joinWorth_65 (tgt := 69) (by decide) ?_
          exact br_iret C rfl dX2_joinWorth_69 ⟨by unfold br_jw; (first | rw [if_pos (⟨(hB.mp h32).1, hA.mp h20, Or.inl (hB.mp h32).2⟩ : i + 1 < r.1 ∧ br_isF g (r.2 i) ∧ (br_isF g (r.2 (i + 1)) ∨ br_isT g (r.2 (i + 1))))] | rw [if_pos (⟨(hC.mp h44).1, hA.mp h20, Or.inr (hC.mp h44).2⟩ : i + 1 < r.1 ∧ br_isF g (r.2 i) ∧ (br_isF g (r.2 (i + 1)) ∨ br_isT g (r.2 (i + 1))))]); (first | rw [if_pos (hD.mp h58)] | rw [if_neg (fun q => h58 (hD.mpr q))]), rfl⟩
        · refine br_if_eq0 C dX2_joinWorth_61 (tgt := 68) (by decide) ?_
          refine br_iconstJ C dX2_joinWorth_68 ?_
          exact br_iret C rfl dX2_joinWorth_69 ⟨by unfold br_jw; (first | rw [if_pos (⟨(hB.mp h32).1, hA.mp h20, Or.inl (hB.mp h32).2⟩ : i + 1 < r.1 ∧ br_isF g (r.2 i) ∧ (br_isF g (r.2 (i + 1)) ∨ br_isT g (r.2 (i + 1))))] | rw [if_pos (⟨(hC.mp h44).1, hA.mp h20, Or.inr (hC.mp h44).2⟩ : i + 1 < r.1 ∧ br_isF g (r.2 i) ∧ (br_isF g (r.2 (i + 1)) ∨ br_isT g (r.2 (i + 1))))]); (first | rw [if_pos (hD.mp h58)] | rw [if_neg (fun q => h58 (hD.mpr q))]), rfl⟩
      · refine br_if_ne0 C dX2_joinWorth_47 (tgt := 52) (by decide) ?_
        refine br_iconstJ C dX2_joinWorth_50 ?_
        exact br_iret C rfl dX2_joinWorth_51 ⟨by unfold br_jw; rw [if_neg (fun q => by first | exact h20 (hA.mpr q.2.1) | (rcases q.2.2 with q3 | q3; exact h32 (hB.mpr ⟨q.1, q3⟩); exact h44 (hC.mpr ⟨q.1, q3⟩)))], rfl⟩
  · refine br_if_eq0 C dX2_joinWorth_23 (tgt := 50) (by decide) ?_
    refine br_iconstJ C dX2_joinWorth_50 ?_
    exact br_iret C rfl dX2_joinWorth_51 ⟨by unfold br_jw; rw [if_neg (fun q => by first | exact h20 (hA.mpr q.2.1) | (rcases q.2.2 with q3 | q3; exact h32 (hB.mpr ⟨q.1, q3⟩); exact h44 (hC.mpr ⟨q.1, q3⟩)))], rfl⟩

set_option maxHeartbeats 4000000 in
set_option maxRecDepth 100000 in
theorem c_X2_joins {σ : br_Wd} {q : Nat} (hq : br_shps[q]? = some (.inr (2, [br_fr 3, br_fr (q + 1), none]))) (hq1 : br_shps[q + 1]? = some (.inl (false, 5))) {g : br_Gy} {r : br_Ro} (hg : br_GC σ g) (hgo : br_Gok g) (hr : br_RC q σ r) (hro : br_Rok g r) : br_Met 3 mX2_joins [br_r q] σ (br_R (br_J (br_nJ g r)) σ) := by
  have hr0 := hr
  have hg0 := hg
  obtain ⟨hs, hp⟩ := hr
  have h5 := hro.1
  have hn := hgo.1
  have hk := fun (j : Nat) (hj : j < g.1) => (hgo.2 j hj).1
  refine br_ofW (by decide) 2 rfl (fun G C => ?_)
  have loop : ∀ (n i : Nat) (a : Int), i + n = r.1 → a = br_sum (fun i => if 0 < br_jw g r i then 1 else 0) i → G 4 [some (br_r q), some (br_i (br_J a)), some (br_i (br_J i))] [] σ := by
    intro n
    induction n with
    | zero =>
      intro i a hin ha
      have ei : i = r.1 := by omega
      subst ei
      refine br_iload_n C dX2_joins_4 rfl rfl ?_
      refine br_aload_n C dX2_joins_5 rfl rfl ?_
      refine br_getI C fdX2_15 dX2_joins_6 hq rfl (by assumption) ?_
      refine br_icmp_geJ C (by omega) (by omega) dX2_joins_9 (tgt := 34) (by decide) (fun c9 => ?_) (fun c9 => ?_)
      · refine br_iload_n C dX2_joins_34 rfl rfl ?_
        exact br_iret C rfl dX2_joins_35 ⟨by rw [ha]; rfl, rfl⟩
      · omega
    | succ n ih =>
      intro i a hin ha
      have hi : i < r.1 := by omega
      refine br_iload_n C dX2_joins_4 rfl rfl ?_
      refine br_aload_n C dX2_joins_5 rfl rfl ?_
      refine br_getI C fdX2_15 dX2_joins_6 hq rfl (by assumption) ?_
      refine br_icmp_geJ C (by omega) (by omega) dX2_joins_9 (tgt := 34) (by decide) (fun c9 => ?_) (fun c9 => ?_)
      · omega
      · have hj := br_jw_bnd g r i
        refine br_iload_n C dX2_joins_12 rfl rfl ?_
        refine br_aload_n C dX2_joins_13 rfl rfl ?_
        refine br_iload_n C dX2_joins_14 rfl rfl ?_
        refine br_cv1R C vcX2_37 (c_X2_joinWorth hq hq1 hg0 hgo hr0 hro i (by omega)) (by decide) hq rfl (fun _ => Nat.le_of_ble_eq_true rfl) dX2_joins_15 ?_
        refine br_if_leJ C (by omega) dX2_joins_18 (tgt := 25) (by decide) (fun c18 => ?_) (fun c18 => ?_)
        · refine br_iconstJ C dX2_joins_25 ?_
          refine br_iaddJ C dX2_joins_26 ?_
          refine br_istore_n C dX2_joins_27 rfl (by decide) rfl (L' := [_, _, _]) rfl ?_
          refine br_iincJ C dX2_joins_28 rfl (by decide) rfl (L' := [_, _, _]) rfl ?_
          refine br_goto C dX2_joins_31 (tgt := 4) (by decide) ?_
          exact ih (i + 1) _ (by omega) (by show _ = br_sum _ i + (if _ then _ else _); rw [← ha]; first | rw [if_pos c18] | rw [if_neg (by omega)])
        · refine br_iconstJ C dX2_joins_21 ?_
          refine br_goto C dX2_joins_22 (tgt := 26) (by decide) ?_
          refine br_iaddJ C dX2_joins_26 ?_
          refine br_istore_n C dX2_joins_27 rfl (by decide) rfl (L' := [_, _, _]) rfl ?_
          refine br_iincJ C dX2_joins_28 rfl (by decide) rfl (L' := [_, _, _]) rfl ?_
          refine br_goto C dX2_joins_31 (tgt := 4) (by decide) ?_
          exact ih (i + 1) _ (by omega) (by show _ = br_sum _ i + (if _ then _ else _); rw [← ha]; first | rw [if_pos c18] | rw [if_neg (by omega)])
  refine br_iconstJ C dX2_joins_0 ?_
  refine br_istore_n C dX2_joins_1 rfl (by decide) rfl (L' := [_, _, _]) rfl ?_
  refine br_iconstJ C dX2_joins_2 ?_
  refine br_istore_n C dX2_joins_3 rfl (by decide) rfl (L' := [_, _, _]) rfl ?_
  exact loop r.1 0 0 (by omega) rfl

set_option maxHeartbeats 4000000 in
set_option maxRecDepth 100000 in
theorem c_X2_chanceAt {σ : br_Wd} {q : Nat} (hq : br_shps[q]? = some (.inr (2, [br_fr 3, br_fr (q + 1), none]))) (hq1 : br_shps[q + 1]? = some (.inl (false, 5))) {g : br_Gy} {r : br_Ro} (hg : br_GC σ g) (hgo : br_Gok g) (hr : br_RC q σ r) (hro : br_Rok g r) (i : Nat) (hi : i ≤ 5) : br_Met 2 mX2_chanceAt [br_r q, br_i (br_J i)] σ (br_R (br_J (br_cr g r i)) σ) := by
  have hr0 := hr
  have hg0 := hg
  obtain ⟨hs, hp⟩ := hr
  have h5 := hro.1
  have hn := hgo.1
  have hk := fun (j : Nat) (hj : j < g.1) => (hgo.2 j hj).1
  refine br_ofW (by decide) 1 rfl (fun G C => ?_)
  have hs2 := br_pO_bnd hgo hro i
  have hkO := br_kO_bnd hgo (br_pO r i)
  have hsO := br_sO_bnd hgo (br_pO r i)
  refine br_aload_n C dX2_chanceAt_0 rfl rfl ?_
  refine br_iload_n C dX2_chanceAt_1 rfl rfl ?_
  refine br_cv1R C vcX2_40 (c_X2_pieceAt hq hq1 hr0 h5 i (by omega)) (by decide) hq rfl (fun _ => Nat.le_of_ble_eq_true rfl) dX2_chanceAt_2 ?_
  refine br_istore_n C dX2_chanceAt_5 rfl (by decide) rfl (L' := [_, _, _]) rfl ?_
  refine br_aload_n C dX2_chanceAt_6 rfl rfl ?_
  refine br_getR C fdX2_19 dX2_chanceAt_7 hq rfl ?_
  refine br_iload_n C dX2_chanceAt_10 rfl rfl ?_
  refine br_cv1R C vcX2_46 (c_X0_kindOf hg0 hn (br_pO r i) (by omega)) (by decide) rfl rfl (fun _ => Nat.le_of_ble_eq_true rfl) dX2_chanceAt_11 ?_
  refine br_aload_n C dX2_chanceAt_14 rfl rfl ?_
  refine br_getR C fdX2_19 dX2_chanceAt_15 hq rfl ?_
  refine br_iload_n C dX2_chanceAt_18 rfl rfl ?_
  refine br_cv1R C vcX2_49 (c_X0_sureOf hg0 hn (br_pO r i) (by omega)) (by decide) rfl rfl (fun _ => Nat.le_of_ble_eq_true rfl) dX2_chanceAt_19 ?_
  refine br_iload_n C dX2_chanceAt_22 rfl rfl ?_
  refine br_cs3R C scX2_52 (c_X4_chanceOf _ _ _ (by omega) (by omega) (by omega)) (by decide) (fun _ => Nat.le_of_ble_eq_true rfl) dX2_chanceAt_23 ?_
  exact br_iret C rfl dX2_chanceAt_26 ⟨by
      unfold br_cr
      by_cases h : i < r.1
      · rw [if_pos h, br_pO_in h, br_kO_in (hro.2.1 i h), br_sO_in (hro.2.1 i h)]
      · rw [if_neg h, br_pO_out (by omega)]
        rw [show br_kO g (-1) = -1 from rfl, show br_sO g (-1) = 0 from rfl]
        have : br_ch (-1) 0 i = 0 := by unfold br_ch; rw [if_neg (by decide)]; omega
        rw [this], rfl⟩

set_option maxHeartbeats 4000000 in
set_option maxRecDepth 100000 in
theorem c_X2_gained {σ : br_Wd} {q : Nat} (hq : br_shps[q]? = some (.inr (2, [br_fr 3, br_fr (q + 1), none]))) (hq1 : br_shps[q + 1]? = some (.inl (false, 5))) {g : br_Gy} {r : br_Ro} (hg : br_GC σ g) (hgo : br_Gok g) (hr : br_RC q σ r) (hro : br_Rok g r) (f : Nat) (hf : f < 32) : br_Met 3 mX2_gained [br_r q, br_i (br_J f)] σ (br_R (br_J (br_gn g r f)) σ) := by
  have hr0 := hr
  have hg0 := hg
  obtain ⟨hs, hp⟩ := hr
  have h5 := hro.1
  have hn := hgo.1
  have hk := fun (j : Nat) (hj : j < g.1) => (hgo.2 j hj).1
  refine br_ofW (by decide) 2 rfl (fun G C => ?_)
  have loop : ∀ (n i : Nat) (a : Int), i + n = r.1 → a = br_sum (br_gt g r f) i → G 4 [some (br_r q), some (br_i (br_J f)), some (br_i (br_J a)), some (br_i (br_J i))] [] σ := by
    intro n
    induction n with
    | zero =>
      intro i a hin ha
      have ei : i = r.1 := by omega
      subst ei
      refine br_iload_n C dX2_gained_4 rfl rfl ?_
      refine br_aload_n C dX2_gained_5 rfl rfl ?_
      refine br_getI C fdX2_15 dX2_gained_6 hq rfl (by assumption) ?_
      refine br_icmp_geJ C (by omega) (by omega) dX2_gained_9 (tgt := 64) (by decide) (fun c9 => ?_) (fun c9 => ?_)
      · refine br_iload_n C dX2_gained_64 rfl rfl ?_
        exact br_iret C rfl dX2_gained_65 ⟨by rw [ha]; rfl, rfl⟩
      · omega
    | succ n ih =>
      intro i a hin ha
      have hi : i < r.1 := by omega
      refine br_iload_n C dX2_gained_4 rfl rfl ?_
      refine br_aload_n C dX2_gained_5 rfl rfl ?_
      refine br_getI C fdX2_15 dX2_gained_6 hq rfl (by assumption) ?_
      refine br_icmp_geJ C (by omega) (by omega) dX2_gained_9 (tgt := 64) (by decide) (fun c9 => ?_) (fun c9 => ?_)
      · omega
      · have hri := hro.2.1 i hi
        have hm4 := br_mod4 f i
        refine br_iload_n C dX2_gained_12 rfl rfl ?_
        refine br_iload_n C dX2_gained_13 rfl rfl ?_
        refine br_ishrE C (br_shr hf (by omega)) dX2_gained_14 ?_
        refine br_iconstJ C dX2_gained_15 ?_
        refine br_iandE C (br_and1 (br_shr_lt hf)) dX2_gained_16 ?_
        refine br_if_eqJ C (by omega) dX2_gained_17 (tgt := 26) (by decide) (fun c17 => ?_) (fun c17 => ?_)
        · refine br_iload_n C dX2_gained_26 rfl rfl ?_
          refine br_aload_n C dX2_gained_27 rfl rfl ?_
          refine br_getR C fdX2_19 dX2_gained_28 hq rfl ?_
          refine br_aload_n C dX2_gained_31 rfl rfl ?_
          refine br_getR C fdX2_9 dX2_gained_32 hq rfl ?_
          refine br_iload_n C dX2_gained_35 rfl rfl ?_
          refine br_ialdJ C hq1 (by decide) (by omega) (by omega) (hp i (by omega)) dX2_gained_36 ?_
          refine br_cv1R C vcX2_63 ((br_wO_in hri) ▸ c_X0_worthOf hg0 hn (r.2 i : Nat) (by omega)) (by decide) rfl rfl (fun _ => Nat.le_of_ble_eq_true rfl) dX2_gained_37 ?_
          refine br_iaddJ C dX2_gained_40 ?_
          refine br_istore_n C dX2_gained_41 rfl (by decide) rfl (L' := [_, _, _, _]) rfl ?_
          refine br_iload_n C dX2_gained_42 rfl rfl ?_
          refine br_iload_n C dX2_gained_43 rfl rfl ?_
          refine br_ishrE C (br_shr hf (by omega)) dX2_gained_44 ?_
          refine br_iconstJ C dX2_gained_45 ?_
          refine br_iandE C (br_and3 (br_shr_lt hf)) dX2_gained_46 ?_
          refine br_if_neJ C (by omega) dX2_gained_47 (tgt := 58) (by decide) (fun c47 => ?_) (fun c47 => ?_)
          · refine br_iincJ C dX2_gained_58 rfl (by decide) rfl (L' := [_, _, _, _]) rfl ?_
            refine br_goto C dX2_gained_61 (tgt := 4) (by decide) ?_
            exact ih (i + 1) _ (by omega) (by show _ = br_sum _ i + br_gt g r f i; rw [← ha]; unfold br_gt; (repeat' split) <;> omega)
          · refine br_iload_n C dX2_gained_50 rfl rfl ?_
            refine br_aload_n C dX2_gained_51 rfl rfl ?_
            refine br_iload_n C dX2_gained_52 rfl rfl ?_
            refine br_cv1R C vcX2_37 (c_X2_joinWorth hq hq1 hg0 hgo hr0 hro i (by omega)) (by decide) hq rfl (fun _ => Nat.le_of_ble_eq_true rfl) dX2_gained_53 ?_
            refine br_iaddJ C dX2_gained_56 ?_
            refine br_istore_n C dX2_gained_57 rfl (by decide) rfl (L' := [_, _, _, _]) rfl ?_
            refine br_iincJ C dX2_gained_58 rfl (by decide) rfl (L' := [_, _, _, _]) rfl ?_
            refine br_goto C dX2_gained_61 (tgt := 4) (by decide) ?_
            exact ih (i + 1) _ (by omega) (by show _ = br_sum _ i + br_gt g r f i; rw [← ha]; unfold br_gt; (repeat' split) <;> omega)
        · refine br_iincJ C dX2_gained_20 rfl (by decide) rfl (L' := [_, _, _, _]) rfl ?_
          refine br_goto C dX2_gained_23 (tgt := 42) (by decide) ?_
          refine br_iload_n C dX2_gained_42 rfl rfl ?_
          refine br_iload_n C dX2_gained_43 rfl rfl ?_
          refine br_ishrE C (br_shr hf (by omega)) dX2_gained_44 ?_
          refine br_iconstJ C dX2_gained_45 ?_
          refine br_iandE C (br_and3 (br_shr_lt hf)) dX2_gained_46 ?_
          refine br_if_neJ C (by omega) dX2_gained_47 (tgt := 58) (by decide) (fun c47 => ?_) (fun c47 => ?_)
          · refine br_iincJ C dX2_gained_58 rfl (by decide) rfl (L' := [_, _, _, _]) rfl ?_
            refine br_goto C dX2_gained_61 (tgt := 4) (by decide) ?_
            exact ih (i + 1) _ (by omega) (by show _ = br_sum _ i + br_gt g r f i; rw [← ha]; unfold br_gt; (repeat' split) <;> omega)
          · refine br_iload_n C dX2_gained_50 rfl rfl ?_
            refine br_aload_n C dX2_gained_51 rfl rfl ?_
            refine br_iload_n C dX2_gained_52 rfl rfl ?_
            refine br_cv1R C vcX2_37 (c_X2_joinWorth hq hq1 hg0 hgo hr0 hro i (by omega)) (by decide) hq rfl (fun _ => Nat.le_of_ble_eq_true rfl) dX2_gained_53 ?_
            refine br_iaddJ C dX2_gained_56 ?_
            refine br_istore_n C dX2_gained_57 rfl (by decide) rfl (L' := [_, _, _, _]) rfl ?_
            refine br_iincJ C dX2_gained_58 rfl (by decide) rfl (L' := [_, _, _, _]) rfl ?_
            refine br_goto C dX2_gained_61 (tgt := 4) (by decide) ?_
            exact ih (i + 1) _ (by omega) (by show _ = br_sum _ i + br_gt g r f i; rw [← ha]; unfold br_gt; (repeat' split) <;> omega)
  refine br_iconstJ C dX2_gained_0 ?_
  refine br_istore_n C dX2_gained_1 rfl (by decide) rfl (L' := [_, _, _, _]) rfl ?_
  refine br_iconstJ C dX2_gained_2 ?_
  refine br_istore_n C dX2_gained_3 rfl (by decide) rfl (L' := [_, _, _, _]) rfl ?_
  exact loop r.1 0 0 (by omega) rfl

set_option maxHeartbeats 4000000 in
set_option maxRecDepth 100000 in
theorem c_X2_points {σ : br_Wd} {q : Nat} (hq : br_shps[q]? = some (.inr (2, [br_fr 3, br_fr (q + 1), none]))) (hq1 : br_shps[q + 1]? = some (.inl (false, 5))) {g : br_Gy} {r : br_Ro} (hg : br_GC σ g) (hgo : br_Gok g) (hr : br_RC q σ r) (hro : br_Rok g r) (f : Nat) (hf : f < 32) : br_Met 4 mX2_points [br_r q, br_i (br_J f)] σ (br_R (br_J (br_pt g r f)) σ) := by
  have hr0 := hr
  have hg0 := hg
  obtain ⟨hs, hp⟩ := hr
  have h5 := hro.1
  have hn := hgo.1
  have hk := fun (j : Nat) (hj : j < g.1) => (hgo.2 j hj).1
  refine br_ofW (by decide) 0 rfl (fun G C => ?_)
  refine br_aload_n C dX2_points_0 rfl rfl ?_
  refine br_iload_n C dX2_points_1 rfl rfl ?_
  refine br_cv1R C vcX2_56 (c_X2_gained hq hq1 hg0 hgo hr0 hro f hf) (by decide) hq rfl (fun _ => Nat.le_of_ble_eq_true rfl) dX2_points_2 ?_
  refine br_aload_n C dX2_points_5 rfl rfl ?_
  refine br_cv0R C vcX2_59 (c_X2_lackingPenalty hq hq1 hg0 hgo hr0 hro) (by decide) hq rfl (fun _ => Nat.le_of_ble_eq_true rfl) dX2_points_6 ?_
  refine br_isubJ C dX2_points_9 ?_
  exact br_iret C rfl dX2_points_10 ⟨rfl, rfl⟩

set_option maxHeartbeats 4000000 in
set_option maxRecDepth 100000 in
theorem c_X2_meanInHundredths {σ : br_Wd} {q : Nat} (hq : br_shps[q]? = some (.inr (2, [br_fr 3, br_fr (q + 1), none]))) (hq1 : br_shps[q + 1]? = some (.inl (false, 5))) {g : br_Gy} {r : br_Ro} (hg : br_GC σ g) (hgo : br_Gok g) (hr : br_RC q σ r) (hro : br_Rok g r) : br_Met 4 mX2_meanInHundredths [br_r q] σ (br_R (br_J (br_mh g r)) σ) := by
  have hr0 := hr
  have hg0 := hg
  obtain ⟨hs, hp⟩ := hr
  have h5 := hro.1
  have hn := hgo.1
  have hk := fun (j : Nat) (hj : j < g.1) => (hgo.2 j hj).1
  refine br_ofW (by decide) 3 rfl (fun G C => ?_)
  have loop : ∀ (n i : Nat) (a : Int) (x : Option br_V), i + n = r.1 → a = br_sum (br_mt g r) i → G 14 [some (br_r q), some (br_i (br_J (100 * (200 - br_pen g r) + a))), some (br_i (br_J i)), x] [] σ := by
    intro n
    induction n with
    | zero =>
      intro i a x hin ha
      have ei : i = r.1 := by omega
      subst ei
      refine br_iload_n C dX2_meanInHundredths_14 rfl rfl ?_
      refine br_aload_n C dX2_meanInHundredths_15 rfl rfl ?_
      refine br_getI C fdX2_15 dX2_meanInHundredths_16 hq rfl (by assumption) ?_
      refine br_icmp_geJ C (by omega) (by omega) dX2_meanInHundredths_19 (tgt := 81) (by decide) (fun c19 => ?_) (fun c19 => ?_)
      · refine br_iload_n C dX2_meanInHundredths_81 rfl rfl ?_
        exact br_iret C rfl dX2_meanInHundredths_82 ⟨by rw [ha]; rfl, rfl⟩
      · omega
    | succ n ih =>
      intro i a x hin ha
      have hi : i < r.1 := by omega
      refine br_iload_n C dX2_meanInHundredths_14 rfl rfl ?_
      refine br_aload_n C dX2_meanInHundredths_15 rfl rfl ?_
      refine br_getI C fdX2_15 dX2_meanInHundredths_16 hq rfl (by assumption) ?_
      refine br_icmp_geJ C (by omega) (by omega) dX2_meanInHundredths_19 (tgt := 81) (by decide) (fun c19 => ?_) (fun c19 => ?_)
      · omega
      · have hri := hro.2.1 i hi
        refine br_aload_n C dX2_meanInHundredths_22 rfl rfl ?_
        refine br_iload_n C dX2_meanInHundredths_23 rfl rfl ?_
        refine br_cv1R C vcX2_66 (c_X2_chanceAt hq hq1 hg0 hgo hr0 hro i (by omega)) (by decide) hq rfl (fun _ => Nat.le_of_ble_eq_true rfl) dX2_meanInHundredths_24 ?_
        refine br_istore_n C dX2_meanInHundredths_27 rfl (by decide) rfl (L' := [_, _, _, _]) rfl ?_
        refine br_iload_n C dX2_meanInHundredths_28 rfl rfl ?_
        refine br_bipushJ C (by decide) dX2_meanInHundredths_29 ?_
        refine br_iload_n C dX2_meanInHundredths_31 rfl rfl ?_
        refine br_aload_n C dX2_meanInHundredths_32 rfl rfl ?_
        refine br_getR C fdX2_19 dX2_meanInHundredths_33 hq rfl ?_
        refine br_aload_n C dX2_meanInHundredths_36 rfl rfl ?_
        refine br_getR C fdX2_9 dX2_meanInHundredths_37 hq rfl ?_
        refine br_iload_n C dX2_meanInHundredths_40 rfl rfl ?_
        refine br_ialdJ C hq1 (by decide) (by omega) (by omega) (hp i (by omega)) dX2_meanInHundredths_41 ?_
        refine br_cv1R C vcX2_63 ((br_wO_in hri) ▸ c_X0_worthOf hg0 hn (r.2 i : Nat) (by omega)) (by decide) rfl rfl (fun _ => Nat.le_of_ble_eq_true rfl) dX2_meanInHundredths_42 ?_
        refine br_imulJ C dX2_meanInHundredths_45 ?_
        refine br_bipushJ C (by decide) dX2_meanInHundredths_46 ?_
        refine br_bipushJ C (by decide) dX2_meanInHundredths_48 ?_
        refine br_iload_n C dX2_meanInHundredths_50 rfl rfl ?_
        refine br_isubJ C dX2_meanInHundredths_51 ?_
        refine br_imulJ C dX2_meanInHundredths_52 ?_
        refine br_isubJ C dX2_meanInHundredths_53 ?_
        refine br_imulJ C dX2_meanInHundredths_54 ?_
        refine br_iaddJ C dX2_meanInHundredths_55 ?_
        refine br_istore_n C dX2_meanInHundredths_56 rfl (by decide) rfl (L' := [_, _, _, _]) rfl ?_
        refine br_iload_n C dX2_meanInHundredths_57 rfl rfl ?_
        refine br_iload_n C dX2_meanInHundredths_58 rfl rfl ?_
        refine br_aload_n C dX2_meanInHundredths_59 rfl rfl ?_
        refine br_iload_n C dX2_meanInHundredths_60 rfl rfl ?_
        refine br_iconstJ C dX2_meanInHundredths_61 ?_
        refine br_iaddJ C dX2_meanInHundredths_62 ?_
        refine br_cv1R C vcX2_66 (c_X2_chanceAt hq hq1 hg0 hgo hr0 hro (i + 1) (by omega)) (by decide) hq rfl (fun _ => Nat.le_of_ble_eq_true rfl) dX2_meanInHundredths_63 ?_
        refine br_imulJ C dX2_meanInHundredths_66 ?_
        refine br_aload_n C dX2_meanInHundredths_67 rfl rfl ?_
        refine br_iload_n C dX2_meanInHundredths_68 rfl rfl ?_
        refine br_cv1R C vcX2_37 (c_X2_joinWorth hq hq1 hg0 hgo hr0 hro i (by omega)) (by decide) hq rfl (fun _ => Nat.le_of_ble_eq_true rfl) dX2_meanInHundredths_69 ?_
        refine br_imulJ C dX2_meanInHundredths_72 ?_
        refine br_iaddJ C dX2_meanInHundredths_73 ?_
        refine br_istore_n C dX2_meanInHundredths_74 rfl (by decide) rfl (L' := [_, _, _, _]) rfl ?_
        refine br_iincJ C dX2_meanInHundredths_75 rfl (by decide) rfl (L' := [_, _, _, _]) rfl ?_
        refine br_goto C dX2_meanInHundredths_78 (tgt := 14) (by decide) ?_
        rw [Int.add_assoc, Int.add_assoc]
        exact ih (i + 1) _ _ (by omega) (by show _ = br_sum _ i + br_mt g r i; rw [← ha]; unfold br_mt; rfl)
  refine br_bipushJ C (by decide) dX2_meanInHundredths_0 ?_
  refine br_sipushJ C (by decide) dX2_meanInHundredths_2 ?_
  refine br_aload_n C dX2_meanInHundredths_5 rfl rfl ?_
  refine br_cv0R C vcX2_59 (c_X2_lackingPenalty hq hq1 hg0 hgo hr0 hro) (by decide) hq rfl (fun _ => Nat.le_of_ble_eq_true rfl) dX2_meanInHundredths_6 ?_
  refine br_isubJ C dX2_meanInHundredths_9 ?_
  refine br_imulJ C dX2_meanInHundredths_10 ?_
  refine br_istore_n C dX2_meanInHundredths_11 rfl (by decide) rfl (L' := [_, _, _, _]) rfl ?_
  refine br_iconstJ C dX2_meanInHundredths_12 ?_
  refine br_istore_n C dX2_meanInHundredths_13 rfl (by decide) rfl (L' := [_, _, _, _]) rfl ?_
  rw [show br_J (100 * (200 - br_pen g r)) = br_J (100 * (200 - br_pen g r) + 0) by rw [Int.add_zero]]
  exact loop r.1 0 0 _ (by omega) rfl

set_option maxHeartbeats 4000000 in
set_option maxRecDepth 100000 in
theorem c_X2_allParts {σ : br_Wd} {q : Nat} (hq : br_shps[q]? = some (.inr (2, [br_fr 3, br_fr (q + 1), none]))) (hq1 : br_shps[q + 1]? = some (.inl (false, 5))) {r : br_Ro} (hr : br_RC q σ r) (h5 : r.1 ≤ 5) : br_Met 0 mX2_allParts [br_r q] σ (br_R (br_J ((10 : Int) ^ r.1)) σ) := by
  have hr0 := hr
  obtain ⟨hs, hp⟩ := hr
  refine br_ofW (by decide) 2 rfl (fun G C => ?_)
  have loop : ∀ (n i : Nat) (a : Int), i + n = r.1 → a = HPow.hPow (10 : Int) i → G 4 [some (br_r q), some (br_i (br_J a)), some (br_i (br_J i))] [] σ := by
    intro n
    induction n with
    | zero =>
      intro i a hin ha
      have ei : i = r.1 := by omega
      subst ei
      refine br_iload_n C dX2_allParts_4 rfl rfl ?_
      refine br_aload_n C dX2_allParts_5 rfl rfl ?_
      refine br_getI C fdX2_15 dX2_allParts_6 hq rfl (by assumption) ?_
      refine br_icmp_geJ C (by omega) (by omega) dX2_allParts_9 (tgt := 23) (by decide) (fun c9 => ?_) (fun c9 => ?_)
      · refine br_iload_n C dX2_allParts_23 rfl rfl ?_
        exact br_iret C rfl dX2_allParts_24 ⟨by rw [ha], rfl⟩
      · omega
    | succ n ih =>
      intro i a hin ha
      have hi : i < r.1 := by omega
      refine br_iload_n C dX2_allParts_4 rfl rfl ?_
      refine br_aload_n C dX2_allParts_5 rfl rfl ?_
      refine br_getI C fdX2_15 dX2_allParts_6 hq rfl (by assumption) ?_
      refine br_icmp_geJ C (by omega) (by omega) dX2_allParts_9 (tgt := 23) (by decide) (fun c9 => ?_) (fun c9 => ?_)
      · omega
      · refine br_iload_n C dX2_allParts_12 rfl rfl ?_
        refine br_bipushJ C (by decide) dX2_allParts_13 ?_
        refine br_imulJ C dX2_allParts_15 ?_
        refine br_istore_n C dX2_allParts_16 rfl (by decide) rfl (L' := [_, _, _]) rfl ?_
        refine br_iincJ C dX2_allParts_17 rfl (by decide) rfl (L' := [_, _, _]) rfl ?_
        refine br_goto C dX2_allParts_20 (tgt := 4) (by decide) ?_
        exact ih (i + 1) _ (by omega) (by rw [Int.pow_succ, ← ha])
  refine br_iconstJ C dX2_allParts_0 ?_
  refine br_istore_n C dX2_allParts_1 rfl (by decide) rfl (L' := [_, _, _]) rfl ?_
  refine br_iconstJ C dX2_allParts_2 ?_
  refine br_istore_n C dX2_allParts_3 rfl (by decide) rfl (L' := [_, _, _]) rfl ?_
  exact loop r.1 0 1 (by omega) rfl

set_option maxHeartbeats 4000000 in
set_option maxRecDepth 100000 in
theorem c_X2_partsOf {σ : br_Wd} {q : Nat} (hq : br_shps[q]? = some (.inr (2, [br_fr 3, br_fr (q + 1), none]))) (hq1 : br_shps[q + 1]? = some (.inl (false, 5))) {g : br_Gy} {r : br_Ro} (hg : br_GC σ g) (hgo : br_Gok g) (hr : br_RC q σ r) (hro : br_Rok g r) (f : Nat) (hf : f < 32) : br_Met 3 mX2_partsOf [br_r q, br_i (br_J f)] σ (br_R (br_J (br_wy g r f)) σ) := by
  have hr0 := hr
  have hg0 := hg
  obtain ⟨hs, hp⟩ := hr
  have h5 := hro.1
  have hn := hgo.1
  have hk := fun (j : Nat) (hj : j < g.1) => (hgo.2 j hj).1
  refine br_ofW (by decide) 3 rfl (fun G C => ?_)
  have loop : ∀ (n i : Nat) (a : Int) (x : Option br_V), i + n = r.1 → a = br_prod (br_wt g r f) i → G 4 [some (br_r q), some (br_i (br_J f)), some (br_i (br_J a)), some (br_i (br_J i)), x] [] σ := by
    intro n
    induction n with
    | zero =>
      intro i a x hin ha
      have ei : i = r.1 := by omega
      subst ei
      refine br_iload_n C dX2_partsOf_4 rfl rfl ?_
      refine br_aload_n C dX2_partsOf_5 rfl rfl ?_
      refine br_getI C fdX2_15 dX2_partsOf_6 hq rfl (by assumption) ?_
      refine br_icmp_geJ C (by omega) (by omega) dX2_partsOf_9 (tgt := 46) (by decide) (fun c9 => ?_) (fun c9 => ?_)
      · refine br_iload_n C dX2_partsOf_46 rfl rfl ?_
        exact br_iret C rfl dX2_partsOf_47 ⟨by rw [ha]; rfl, rfl⟩
      · omega
    | succ n ih =>
      intro i a x hin ha
      have hi : i < r.1 := by omega
      refine br_iload_n C dX2_partsOf_4 rfl rfl ?_
      refine br_aload_n C dX2_partsOf_5 rfl rfl ?_
      refine br_getI C fdX2_15 dX2_partsOf_6 hq rfl (by assumption) ?_
      refine br_icmp_geJ C (by omega) (by omega) dX2_partsOf_9 (tgt := 46) (by decide) (fun c9 => ?_) (fun c9 => ?_)
      · omega
      · refine br_aload_n C dX2_partsOf_12 rfl rfl ?_
        refine br_iload_n C dX2_partsOf_13 rfl rfl ?_
        refine br_cv1R C vcX2_66 (c_X2_chanceAt hq hq1 hg0 hgo hr0 hro i (by omega)) (by decide) hq rfl (fun _ => Nat.le_of_ble_eq_true rfl) dX2_partsOf_14 ?_
        refine br_istore C dX2_partsOf_17 (by decide) rfl (L' := [_, _, _, _, _]) rfl ?_
        refine br_iload_n C dX2_partsOf_19 rfl rfl ?_
        refine br_iload_n C dX2_partsOf_20 rfl rfl ?_
        refine br_iload_n C dX2_partsOf_21 rfl rfl ?_
        refine br_ishrE C (br_shr hf (by omega)) dX2_partsOf_22 ?_
        refine br_iconstJ C dX2_partsOf_23 ?_
        refine br_iandE C (br_and1 (br_shr_lt hf)) dX2_partsOf_24 ?_
        refine br_if_eqJ C (by omega) dX2_partsOf_25 (tgt := 36) (by decide) (fun c25 => ?_) (fun c25 => ?_)
        · refine br_iload C dX2_partsOf_36 rfl ?_
          refine br_imulJ C dX2_partsOf_38 ?_
          refine br_istore_n C dX2_partsOf_39 rfl (by decide) rfl (L' := [_, _, _, _, _]) rfl ?_
          refine br_iincJ C dX2_partsOf_40 rfl (by decide) rfl (L' := [_, _, _, _, _]) rfl ?_
          refine br_goto C dX2_partsOf_43 (tgt := 4) (by decide) ?_
          exact ih (i + 1) _ _ (by omega) (by show _ = br_prod _ i * br_wt g r f i; rw [← ha]; unfold br_wt; first | rw [if_pos (by omega)] | rw [if_neg (by omega)])
        · refine br_bipushJ C (by decide) dX2_partsOf_28 ?_
          refine br_iload C dX2_partsOf_30 rfl ?_
          refine br_isubJ C dX2_partsOf_32 ?_
          refine br_goto C dX2_partsOf_33 (tgt := 38) (by decide) ?_
          refine br_imulJ C dX2_partsOf_38 ?_
          refine br_istore_n C dX2_partsOf_39 rfl (by decide) rfl (L' := [_, _, _, _, _]) rfl ?_
          refine br_iincJ C dX2_partsOf_40 rfl (by decide) rfl (L' := [_, _, _, _, _]) rfl ?_
          refine br_goto C dX2_partsOf_43 (tgt := 4) (by decide) ?_
          exact ih (i + 1) _ _ (by omega) (by show _ = br_prod _ i * br_wt g r f i; rw [← ha]; unfold br_wt; first | rw [if_pos (by omega)] | rw [if_neg (by omega)])
  refine br_iconstJ C dX2_partsOf_0 ?_
  refine br_istore_n C dX2_partsOf_1 rfl (by decide) rfl (L' := [_, _, _, _, _]) rfl ?_
  refine br_iconstJ C dX2_partsOf_2 ?_
  refine br_istore_n C dX2_partsOf_3 rfl (by decide) rfl (L' := [_, _, _, _, _]) rfl ?_
  exact loop r.1 0 1 _ (by omega) rfl

set_option maxHeartbeats 4000000 in
set_option maxRecDepth 100000 in
theorem c_X2_partsWith {σ : br_Wd} {q : Nat} (hq : br_shps[q]? = some (.inr (2, [br_fr 3, br_fr (q + 1), none]))) (hq1 : br_shps[q + 1]? = some (.inl (false, 5))) {g : br_Gy} {r : br_Ro} (hg : br_GC σ g) (hgo : br_Gok g) (hr : br_RC q σ r) (hro : br_Rok g r) (s : Int) (hsb : -100 ≤ s ∧ s ≤ 100) : br_Met 4 mX2_partsWith [br_r q, br_i (br_J s)] σ (br_R (br_J (br_od g r s)) σ) := by
  have hr0 := hr
  have hg0 := hg
  obtain ⟨hs, hp⟩ := hr
  have h5 := hro.1
  have hn := hgo.1
  have hk := fun (j : Nat) (hj : j < g.1) => (hgo.2 j hj).1
  refine br_ofW (by decide) 3 rfl (fun G C => ?_)
  have hp2 := br_pow2 h5
  have hpn := br_pen_bnd g r
  have loop : ∀ (n i : Nat) (a : Int), i + n = 2 ^ r.1 → a = br_sum (fun f => if s ≤ br_pt g r f then br_wy g r f else 0) i → G 12 [some (br_r q), some (br_i (br_J s)), some (br_i (br_J a)), some (br_i (br_J (s + br_pen g r))), some (br_i (br_J i))] [] σ := by
    intro n
    induction n with
    | zero =>
      intro i a hin ha
      have ei : i = 2 ^ r.1 := by omega
      rw [ei] at ha
      refine br_iload C dX2_partsWith_12 rfl ?_
      refine br_iconstJ C dX2_partsWith_14 ?_
      refine br_aload_n C dX2_partsWith_15 rfl rfl ?_
      refine br_getI C fdX2_15 dX2_partsWith_16 hq rfl (by assumption) ?_
      refine br_ishlE C (br_shl1 h5) dX2_partsWith_19 ?_
      refine br_icmp_geJ C (by omega) (by omega) dX2_partsWith_20 (tgt := 48) (by decide) (fun c20 => ?_) (fun c20 => ?_)
      · refine br_iload_n C dX2_partsWith_48 rfl rfl ?_
        exact br_iret C rfl dX2_partsWith_49 ⟨by rw [ha]; rfl, rfl⟩
      · omega
    | succ n ih =>
      intro i a hin ha
      have hi : i < 2 ^ r.1 := by omega
      refine br_iload C dX2_partsWith_12 rfl ?_
      refine br_iconstJ C dX2_partsWith_14 ?_
      refine br_aload_n C dX2_partsWith_15 rfl rfl ?_
      refine br_getI C fdX2_15 dX2_partsWith_16 hq rfl (by assumption) ?_
      refine br_ishlE C (br_shl1 h5) dX2_partsWith_19 ?_
      refine br_icmp_geJ C (by omega) (by omega) dX2_partsWith_20 (tgt := 48) (by decide) (fun c20 => ?_) (fun c20 => ?_)
      · omega
      · have hgb := br_gn_bnd hgo hro i
        refine br_aload_n C dX2_partsWith_23 rfl rfl ?_
        refine br_iload C dX2_partsWith_24 rfl ?_
        refine br_cv1R C vcX2_56 (c_X2_gained hq hq1 hg0 hgo hr0 hro i (by omega)) (by decide) hq rfl (fun _ => Nat.le_of_ble_eq_true rfl) dX2_partsWith_26 ?_
        refine br_iload_n C dX2_partsWith_29 rfl rfl ?_
        refine br_icmp_ltJ C (by omega) (by omega) dX2_partsWith_30 (tgt := 42) (by decide) (fun c30 => ?_) (fun c30 => ?_)
        · refine br_iincJ C dX2_partsWith_42 rfl (by decide) rfl (L' := [_, _, _, _, _]) rfl ?_
          refine br_goto C dX2_partsWith_45 (tgt := 12) (by decide) ?_
          exact ih (i + 1) _ (by omega) (by show _ = br_sum _ i + (if s ≤ br_pt g r i then _ else _); rw [← ha]; unfold br_pt; first | rw [if_pos (by omega)] | (rw [if_neg (by omega)]; omega))
        · refine br_iload_n C dX2_partsWith_33 rfl rfl ?_
          refine br_aload_n C dX2_partsWith_34 rfl rfl ?_
          refine br_iload C dX2_partsWith_35 rfl ?_
          refine br_cv1R C vcX2_69 (c_X2_partsOf hq hq1 hg0 hgo hr0 hro i (by omega)) (by decide) hq rfl (fun _ => Nat.le_of_ble_eq_true rfl) dX2_partsWith_37 ?_
          refine br_iaddJ C dX2_partsWith_40 ?_
          refine br_istore_n C dX2_partsWith_41 rfl (by decide) rfl (L' := [_, _, _, _, _]) rfl ?_
          refine br_iincJ C dX2_partsWith_42 rfl (by decide) rfl (L' := [_, _, _, _, _]) rfl ?_
          refine br_goto C dX2_partsWith_45 (tgt := 12) (by decide) ?_
          exact ih (i + 1) _ (by omega) (by show _ = br_sum _ i + (if s ≤ br_pt g r i then _ else _); rw [← ha]; unfold br_pt; first | rw [if_pos (by omega)] | (rw [if_neg (by omega)]; omega))
  refine br_iconstJ C dX2_partsWith_0 ?_
  refine br_istore_n C dX2_partsWith_1 rfl (by decide) rfl (L' := [_, _, _, _, _]) rfl ?_
  refine br_iload_n C dX2_partsWith_2 rfl rfl ?_
  refine br_aload_n C dX2_partsWith_3 rfl rfl ?_
  refine br_cv0R C vcX2_59 (c_X2_lackingPenalty hq hq1 hg0 hgo hr0 hro) (by decide) hq rfl (fun _ => Nat.le_of_ble_eq_true rfl) dX2_partsWith_4 ?_
  refine br_iaddJ C dX2_partsWith_7 ?_
  refine br_istore_n C dX2_partsWith_8 rfl (by decide) rfl (L' := [_, _, _, _, _]) rfl ?_
  refine br_iconstJ C dX2_partsWith_9 ?_
  refine br_istore C dX2_partsWith_10 (by decide) rfl (L' := [_, _, _, _, _]) rfl ?_
  exact loop (2 ^ r.1) 0 0 (by omega) rfl
end
section
-- what is tried: how many; piece, behind how many, whether it succeeded
abbrev br_Tr : Type := Nat × (Nat → Nat) × (Nat → Nat) × (Nat → Nat)
def br_Tok (g : br_Gy) (t : br_Tr) : Prop := t.1 ≤ 8 ∧ ∀ j : Nat, j < t.1 → t.2.1 j < g.1 ∧ t.2.2.1 j ≤ 4 ∧ t.2.2.2 j ≤ 1
def br_TC (q : Nat) (σ : br_Wd) (t : br_Tr) : Prop := σ.1 q 4 = br_J t.1 ∧ (∀ j : Nat, j < t.1 → σ.1 (q + 1) j = br_J (t.2.1 j : Nat)) ∧ (∀ j : Nat, j < t.1 → σ.1 (q + 2) j = br_J (t.2.2.1 j : Nat)) ∧ ∀ j : Nat, j < t.1 → σ.1 (q + 3) j = br_J (t.2.2.2 j : Nat)
def br_TM (a : Nat) (σ : br_Wd) (t : br_Tr) : Prop := (∀ j : Nat, j < t.1 → σ.1 a (3 * j) = br_J (t.2.1 j : Nat)) ∧ (∀ j : Nat, j < t.1 → σ.1 a (3 * j + 1) = br_J (t.2.2.1 j : Nat)) ∧ ∀ j : Nat, j < t.1 → σ.1 a (3 * j + 2) = br_J (t.2.2.2 j : Nat)
def br_tadd (t : br_Tr) (p b s : Nat) : br_Tr := (t.1 + 1, fun j => if j = t.1 then p else t.2.1 j, fun j => if j = t.1 then b else t.2.2.1 j, fun j => if j = t.1 then s else t.2.2.2 j)
def br_lkf (g : br_Gy) (t : br_Tr) (p : Nat) (v : Int) (i : Nat) : Int := if t.2.1 i = p then (if t.2.2.2 i = 1 then br_ch (br_gK g p) v (t.2.2.1 i : Nat) else 10 - br_ch (br_gK g p) v (t.2.2.1 i : Nat)) else 1
def br_lk (g : br_Gy) (t : br_Tr) (p : Nat) (v : Int) : Int := br_prod (br_lkf g t p v) t.1
theorem br_lkf_bnd (g : br_Gy) (t : br_Tr) (p : Nat) {v : Int} (hv : 0 ≤ v ∧ v ≤ 9) (i : Nat) : 0 ≤ br_lkf g t p v i ∧ br_lkf g t p v i ≤ 10 := by
  have := br_ch_bnd (kd := br_gK g p) (pl := (t.2.2.1 i : Nat)) hv
  unfold br_lkf; (repeat' split) <;> omega
theorem br_pow10' {n : Nat} (h : n ≤ 8) : (10 : Int) ^ n ≤ 100000000 := by
  have key : ∀ n : Fin 9, (10 : Int) ^ (n : Nat) ≤ 100000000 := by decide +kernel
  exact key ⟨n, by omega⟩
theorem br_lk_bnd (g : br_Gy) (t : br_Tr) (p : Nat) {v : Int} (hv : 0 ≤ v ∧ v ≤ 9) (ht : t.1 ≤ 8) : 0 ≤ br_lk g t p v ∧ br_lk g t p v ≤ 100000000 := by
  have h1 := br_prod_bnd (f := br_lkf g t p v) (n := t.1) (fun j _ => br_lkf_bnd g t p hv j)
  have h2 := br_pow10' ht
  unfold br_lk; omega
/-- bits of the numbers from 0 on at which f is above 0 -/
def br_bt (f : Nat → Int) : Nat → Int32
  | 0 => br_J 0
  | n + 1 => br_bt f n ||| (if 0 < f n then br_J 1 <<< (br_J n &&& 31) else br_J 0)
/-- the first greatest above 0: its number from 1 on, and it -/
def br_am (f : Nat → Int) : Nat → Int × Int
  | 0 => (-1, 0)
  | n + 1 => if (br_am f n).2 < f n then ((n : Int) + 1, f n) else br_am f n
theorem br_am_bnd {f : Nat → Int} {n : Nat} {b : Int} (hb : 0 ≤ b) (h : ∀ j : Nat, j < n → f j ≤ b) : (-1 ≤ (br_am f n).1 ∧ (br_am f n).1 ≤ n) ∧ 0 ≤ (br_am f n).2 ∧ (br_am f n).2 ≤ b := by
  induction n with
  | zero => exact ⟨⟨by show (-1 : Int) ≤ -1; omega, by show (-1 : Int) ≤ 0; omega⟩, by show (0 : Int) ≤ 0; omega, hb⟩
  | succ n ih =>
    have h1 := ih (fun j hj => h j (by omega))
    have h2 := h n (by omega)
    unfold br_am
    split
    · exact ⟨⟨by show (-1 : Int) ≤ (n : Int) + 1; omega, by show (n : Int) + 1 ≤ ((n + 1 : Nat) : Int); omega⟩, by show 0 ≤ f n; omega, h2⟩
    · exact ⟨⟨h1.1.1, by omega⟩, h1.2⟩
def br_sures (g : br_Gy) (t : br_Tr) (p : Nat) : Int32 := br_bt (fun v => br_lk g t p ((v : Int) + 1)) 9
def br_likely (g : br_Gy) (t : br_Tr) (p : Nat) : Int := (br_am (fun v => br_lk g t p ((v : Int) + 1)) 9).1
theorem br_narb {s : Nat} (h : s ≤ 1) : vp_nar .boolean (br_J s) = br_J s := by
  have key : ∀ s : Fin 2, vp_nar .boolean (br_J (s : Nat)) = br_J (s : Nat) := by decide +kernel
  exact key ⟨s, by omega⟩
theorem br_TC_add {q : Nat} {σ : br_Wd} {t : br_Tr} (ht : br_TC q σ t) (p b s : Nat) : br_TC q (br_up (br_up (br_up (br_up σ (q + 1) t.1 (br_J p)) (q + 2) t.1 (br_J b)) (q + 3) t.1 (br_J s)) q 4 (br_J (t.1 + 1))) (br_tadd t p b s) := by
  obtain ⟨hs, h1, h2, h3⟩ := ht
  refine ⟨by simp [br_up, br_tadd], fun j hj => ?_, fun j hj => ?_, fun j hj => ?_⟩ <;> (
    have hj' : j < t.1 + 1 := hj
    simp only [br_up, br_tadd]
    by_cases e : j = t.1
    · simp [e]
    · simp [e]
      first | exact h1 j (by omega) | exact h2 j (by omega) | exact h3 j (by omega))

set_option maxHeartbeats 4000000 in
set_option maxRecDepth 100000 in
theorem c_X3_add {σ : br_Wd} {q : Nat} (hq : br_shps[q]? = some (.inr (3, [br_fr 3, br_fr (q + 1), br_fr (q + 2), br_fr (q + 3), none]))) (hq1 : br_shps[q + 1]? = some (.inl (false, 8))) (hq2 : br_shps[q + 2]? = some (.inl (false, 8))) (hq3 : br_shps[q + 3]? = some (.inl (true, 8))) {t : br_Tr} (ht : br_TC q σ t) (p b s : Nat) (hlt : t.1 < 8) (hs1 : s ≤ 1) : br_Met 0 mX3_add [br_r q, br_i (br_J p), br_i (br_J b), br_i (br_J s)] σ (fun v τ => v = none ∧ br_TC q τ (br_tadd t p b s) ∧ br_sm [q, q + 1, q + 2, q + 3] σ τ) := by
  have ht0 := ht
  obtain ⟨hs, h1, h2, h3⟩ := ht
  refine br_ofW (by decide) 0 rfl (fun G C => ?_)
  refine br_aload_n C dX3_add_0 rfl rfl ?_
  refine br_getI C fdX3_22 dX3_add_1 hq rfl (by assumption) ?_
  refine br_bipushJ C (by decide) dX3_add_4 ?_
  refine br_icmp_geJ C (by omega) (by omega) dX3_add_6 (tgt := 49) (by decide) (fun c6 => ?_) (fun c6 => ?_)
  · omega
  · refine br_aload_n C dX3_add_9 rfl rfl ?_
    refine br_getR C fdX3_9 dX3_add_10 hq rfl ?_
    refine br_aload_n C dX3_add_13 rfl rfl ?_
    refine br_getI C fdX3_22 dX3_add_14 hq rfl (by assumption) ?_
    refine br_iload_n C dX3_add_17 rfl rfl ?_
    refine br_iastJ C hq1 (by decide) (by omega) (by omega) rfl dX3_add_18 ?_
    refine br_aload_n C dX3_add_19 rfl rfl ?_
    refine br_getR C fdX3_15 dX3_add_20 hq rfl ?_
    refine br_aload_n C dX3_add_23 rfl rfl ?_
    refine br_getI C fdX3_22 dX3_add_24 hq rfl (x := br_J t.1) (by simp [br_up]; exact hs) ?_
    refine br_iload_n C dX3_add_27 rfl rfl ?_
    refine br_iastJ C hq2 (by decide) (by omega) (by omega) rfl dX3_add_28 ?_
    refine br_aload_n C dX3_add_29 rfl rfl ?_
    refine br_getR C fdX3_18 dX3_add_30 hq rfl ?_
    refine br_aload_n C dX3_add_33 rfl rfl ?_
    refine br_getI C fdX3_22 dX3_add_34 hq rfl (x := br_J t.1) (by simp [br_up]; exact hs) ?_
    refine br_iload_n C dX3_add_37 rfl rfl ?_
    refine br_zastJ C hq3 (by decide) (by omega) (by omega) rfl dX3_add_38 ?_
    refine br_aload_n C dX3_add_39 rfl rfl ?_
    refine br_dup C dX3_add_40 rfl ?_
    refine br_getI C fdX3_22 dX3_add_41 hq rfl (x := br_J t.1) (by simp [br_up]; exact hs) ?_
    refine br_iconstJ C dX3_add_44 ?_
    refine br_iaddJ C dX3_add_45 ?_
    refine br_putI C fdX3_22 dX3_add_46 hq rfl rfl ?_
    exact br_vret C rfl dX3_add_49 ⟨rfl, by rw [br_narb hs1]; simpa using br_TC_add ht0 p b s, (((br_sm.rfl.up (by simp)).up (by simp)).up (by simp)).up (by simp)⟩

set_option maxHeartbeats 4000000 in
set_option maxRecDepth 100000 in
theorem c_X3_copyFrom {σ : br_Wd} {q : Nat} (hq : br_shps[q]? = some (.inr (3, [br_fr 3, br_fr (q + 1), br_fr (q + 2), br_fr (q + 3), none]))) (hq1 : br_shps[q + 1]? = some (.inl (false, 8))) (hq2 : br_shps[q + 2]? = some (.inl (false, 8))) (hq3 : br_shps[q + 3]? = some (.inl (true, 8))) {q2 : Nat} (hr : br_shps[q2]? = some (.inr (3, [br_fr 3, br_fr (q2 + 1), br_fr (q2 + 2), br_fr (q2 + 3), none]))) (hr1 : br_shps[q2 + 1]? = some (.inl (false, 8))) (hr2 : br_shps[q2 + 2]? = some (.inl (false, 8))) (hr3 : br_shps[q2 + 3]? = some (.inl (true, 8))) {t2 : br_Tr} (ht2 : br_TC q2 σ t2) (h82 : t2.1 ≤ 8 ∧ ∀ j : Nat, j < t2.1 → t2.2.2.2 j ≤ 1) (hne : q + 3 < q2 ∨ q2 + 3 < q) : br_Met 0 mX3_copyFrom [br_r q, br_r q2] σ (fun v τ => v = none ∧ br_TC q τ t2 ∧ br_sm [q, q + 1, q + 2, q + 3] σ τ) := by
  obtain ⟨hs2, k1, k2, k3⟩ := ht2
  have h8 := h82.1
  refine br_ofW (by decide) 1 rfl (fun G C => ?_)
  have loop : ∀ (n i : Nat) (τ : br_Wd), i + n = t2.1 → br_sm [q, q + 1, q + 2, q + 3] σ τ → τ.1 q 4 = br_J t2.1 → (∀ j : Nat, j < i → τ.1 (q + 1) j = br_J (t2.2.1 j : Nat) ∧ τ.1 (q + 2) j = br_J (t2.2.2.1 j : Nat) ∧ τ.1 (q + 3) j = br_J (t2.2.2.2 j : Nat)) → G 10 [some (br_r q), some (br_r q2), some (br_i (br_J i))] [] τ := by
    intro n
    induction n with
    | zero =>
      intro i τ hin hsm hs1 hm
      refine br_iload_n C dX3_copyFrom_10 rfl rfl ?_
      refine br_aload_n C dX3_copyFrom_11 rfl rfl ?_
      refine br_getI C fdX3_22 dX3_copyFrom_12 hq rfl hs1 ?_
      refine br_icmp_geJ C (by omega) (by omega) dX3_copyFrom_15 (tgt := 60) (by decide) (fun c15 => ?_) (fun c15 => ?_)
      · exact br_vret C rfl dX3_copyFrom_60 ⟨rfl, ⟨hs1, fun j hj => (hm j (by omega)).1, fun j hj => (hm j (by omega)).2.1, fun j hj => (hm j (by omega)).2.2⟩, hsm⟩
      · omega
    | succ n ih =>
      intro i τ hin hsm hs1 hm
      refine br_iload_n C dX3_copyFrom_10 rfl rfl ?_
      refine br_aload_n C dX3_copyFrom_11 rfl rfl ?_
      refine br_getI C fdX3_22 dX3_copyFrom_12 hq rfl hs1 ?_
      refine br_icmp_geJ C (by omega) (by omega) dX3_copyFrom_15 (tgt := 60) (by decide) (fun c15 => ?_) (fun c15 => ?_)
      · omega
      · refine br_aload_n C dX3_copyFrom_18 rfl rfl ?_
        refine br_getR C fdX3_9 dX3_copyFrom_19 hq rfl ?_
        refine br_iload_n C dX3_copyFrom_22 rfl rfl ?_
        refine br_aload_n C dX3_copyFrom_23 rfl rfl ?_
        refine br_getR C fdX3_9 dX3_copyFrom_24 hr rfl ?_
        refine br_iload_n C dX3_copyFrom_27 rfl rfl ?_
        refine br_ialdJ C hr1 (by decide) (by omega) (by omega) (y := (t2.2.1 i : Nat)) (by rw [show ((i : Nat) : Int).toNat = i by omega, hsm.1 (q2 + 1) (by simp; omega)]; exact k1 i (by omega)) dX3_copyFrom_28 ?_
        refine br_iastJ C hq1 (by decide) (by omega) (by omega) rfl dX3_copyFrom_29 ?_
        refine br_aload_n C dX3_copyFrom_30 rfl rfl ?_
        refine br_getR C fdX3_15 dX3_copyFrom_31 hq rfl ?_
        refine br_iload_n C dX3_copyFrom_34 rfl rfl ?_
        refine br_aload_n C dX3_copyFrom_35 rfl rfl ?_
        refine br_getR C fdX3_15 dX3_copyFrom_36 hr rfl ?_
        refine br_iload_n C dX3_copyFrom_39 rfl rfl ?_
        refine br_ialdJ C hr2 (by decide) (by omega) (by omega) (y := (t2.2.2.1 i : Nat)) (by rw [show ((i : Nat) : Int).toNat = i by omega, (hsm.up (by simp)).1 (q2 + 2) (by simp; omega)]; exact k2 i (by omega)) dX3_copyFrom_40 ?_
        refine br_iastJ C hq2 (by decide) (by omega) (by omega) rfl dX3_copyFrom_41 ?_
        refine br_aload_n C dX3_copyFrom_42 rfl rfl ?_
        refine br_getR C fdX3_18 dX3_copyFrom_43 hq rfl ?_
        refine br_iload_n C dX3_copyFrom_46 rfl rfl ?_
        refine br_aload_n C dX3_copyFrom_47 rfl rfl ?_
        refine br_getR C fdX3_18 dX3_copyFrom_48 hr rfl ?_
        refine br_iload_n C dX3_copyFrom_51 rfl rfl ?_
        refine br_zaldJ C hr3 (by decide) (by omega) (by omega) (y := (t2.2.2.2 i : Nat)) (by rw [show ((i : Nat) : Int).toNat = i by omega, ((hsm.up (by simp)).up (by simp)).1 (q2 + 3) (by simp; omega)]; exact k3 i (by omega)) dX3_copyFrom_52 ?_
        refine br_zastJ C hq3 (by decide) (by omega) (by omega) rfl dX3_copyFrom_53 ?_
        refine br_iincJ C dX3_copyFrom_54 rfl (by decide) rfl (L' := [_, _, _]) rfl ?_
        refine br_goto C dX3_copyFrom_57 (tgt := 10) (by decide) ?_
        refine ih (i + 1) _ (by omega) (((hsm.up (by simp)).up (by simp)).up (by simp)) (by simp [br_up]; exact hs1) (fun j hj => ?_)
        rw [br_narb (h82.2 i (by omega))]
        simp only [br_up]
        by_cases e : j = ((i : Nat) : Int).toNat
        · have e2 : j = i := by omega
          subst e2
          simp
        · have e2 : ¬ j = i := by omega
          simp [e2]; exact hm j (by omega)
  refine br_aload_n C dX3_copyFrom_0 rfl rfl ?_
  refine br_aload_n C dX3_copyFrom_1 rfl rfl ?_
  refine br_getI C fdX3_22 dX3_copyFrom_2 hr rfl hs2 ?_
  refine br_putI C fdX3_22 dX3_copyFrom_5 hq rfl rfl ?_
  refine br_iconstJ C dX3_copyFrom_8 ?_
  refine br_istore_n C dX3_copyFrom_9 rfl (by decide) rfl (L' := [_, _, _]) rfl ?_
  exact loop t2.1 0 _ (by omega) (br_sm.rfl.up (by simp)) (by simp [br_up]) (fun j hj => absurd hj (by omega))

set_option maxHeartbeats 4000000 in
set_option maxRecDepth 100000 in
theorem c_X3_likelihood {σ : br_Wd} {q : Nat} (hq : br_shps[q]? = some (.inr (3, [br_fr 3, br_fr (q + 1), br_fr (q + 2), br_fr (q + 3), none]))) (hq1 : br_shps[q + 1]? = some (.inl (false, 8))) (hq2 : br_shps[q + 2]? = some (.inl (false, 8))) (hq3 : br_shps[q + 3]? = some (.inl (true, 8))) {g : br_Gy} {t : br_Tr} (hg : br_GC σ g) (hgo : br_Gok g) (ht : br_TC q σ t) (hto : br_Tok g t) (p : Nat) (hpn : p < g.1) (v : Int) (hv : 0 ≤ v ∧ v ≤ 9) : br_Met 2 mX3_likelihood [br_r q, br_i (br_J p), br_i (br_J v)] σ (br_R (br_J (br_lk g t p v)) σ) := by
  have ht0 := ht
  obtain ⟨hs, h1, h2, h3⟩ := ht
  have hg0 := hg
  have h8 := hto.1
  have hn := hgo.1
  have hkp := (hgo.2 p hpn).1
  refine br_ofW (by decide) 3 rfl (fun G C => ?_)
  have loop : ∀ (n i : Nat) (a : Int) (x : Option br_V), i + n = t.1 → a = br_prod (br_lkf g t p v) i → G 5 [some (br_r q), some (br_i (br_J p)), some (br_i (br_J v)), some (br_i (br_J a)), some (br_i (br_J i)), x] [] σ := by
    intro n
    induction n with
    | zero =>
      intro i a x hin ha
      have ei : i = t.1 := by omega
      subst ei
      refine br_iload C dX3_likelihood_5 rfl ?_
      refine br_aload_n C dX3_likelihood_7 rfl rfl ?_
      refine br_getI C fdX3_22 dX3_likelihood_8 hq rfl (by assumption) ?_
      refine br_icmp_geJ C (by omega) (by omega) dX3_likelihood_11 (tgt := 75) (by decide) (fun c11 => ?_) (fun c11 => ?_)
      · refine br_iload_n C dX3_likelihood_75 rfl rfl ?_
        exact br_iret C rfl dX3_likelihood_76 ⟨by rw [ha]; rfl, rfl⟩
      · omega
    | succ n ih =>
      intro i a x hin ha
      have hi : i < t.1 := by omega
      refine br_iload C dX3_likelihood_5 rfl ?_
      refine br_aload_n C dX3_likelihood_7 rfl rfl ?_
      refine br_getI C fdX3_22 dX3_likelihood_8 hq rfl (by assumption) ?_
      refine br_icmp_geJ C (by omega) (by omega) dX3_likelihood_11 (tgt := 75) (by decide) (fun c11 => ?_) (fun c11 => ?_)
      · omega
      · have hti := hto.2 i hi
        refine br_aload_n C dX3_likelihood_14 rfl rfl ?_
        refine br_getR C fdX3_9 dX3_likelihood_15 hq rfl ?_
        refine br_iload C dX3_likelihood_18 rfl ?_
        refine br_ialdJ C hq1 (by decide) (by omega) (by omega) (h1 i (by omega)) dX3_likelihood_20 ?_
        refine br_iload_n C dX3_likelihood_21 rfl rfl ?_
        refine br_icmp_neJ C (by omega) (by omega) dX3_likelihood_22 (tgt := 69) (by decide) (fun c22 => ?_) (fun c22 => ?_)
        · refine br_iincJ C dX3_likelihood_69 rfl (by decide) rfl (L' := [_, _, _, _, _, _]) rfl ?_
          refine br_goto C dX3_likelihood_72 (tgt := 5) (by decide) ?_
          exact ih (i + 1) _ _ (by omega) (by show _ = br_prod _ i * br_lkf g t p v i; rw [← ha]; unfold br_lkf; first | rw [if_neg (by omega), Int.mul_one] | rw [if_pos (by omega), if_pos (by omega)] | rw [if_pos (by omega), if_neg (by omega)])
        · refine br_aload_n C dX3_likelihood_25 rfl rfl ?_
          refine br_getR C fdX3_26 dX3_likelihood_26 hq rfl ?_
          refine br_iload_n C dX3_likelihood_29 rfl rfl ?_
          refine br_cv1R C vcX3_34 ((br_kO_in hpn) ▸ c_X0_kindOf hg0 hn (p : Nat) (by omega)) (by decide) rfl rfl (fun _ => Nat.le_of_ble_eq_true rfl) dX3_likelihood_30 ?_
          refine br_iload_n C dX3_likelihood_33 rfl rfl ?_
          refine br_aload_n C dX3_likelihood_34 rfl rfl ?_
          refine br_getR C fdX3_15 dX3_likelihood_35 hq rfl ?_
          refine br_iload C dX3_likelihood_38 rfl ?_
          refine br_ialdJ C hq2 (by decide) (by omega) (by omega) (h2 i (by omega)) dX3_likelihood_40 ?_
          refine br_cs3R C scX3_40 (c_X4_chanceOf _ _ _ (by omega) (by omega) (by omega)) (by decide) (fun _ => Nat.le_of_ble_eq_true rfl) dX3_likelihood_41 ?_
          refine br_istore C dX3_likelihood_44 (by decide) rfl (L' := [_, _, _, _, _, _]) rfl ?_
          refine br_iload_n C dX3_likelihood_46 rfl rfl ?_
          refine br_aload_n C dX3_likelihood_47 rfl rfl ?_
          refine br_getR C fdX3_18 dX3_likelihood_48 hq rfl ?_
          refine br_iload C dX3_likelihood_51 rfl ?_
          refine br_zaldJ C hq3 (by decide) (by omega) (by omega) (h3 i (by omega)) dX3_likelihood_53 ?_
          refine br_if_eqJ C (by omega) dX3_likelihood_54 (tgt := 62) (by decide) (fun c54 => ?_) (fun c54 => ?_)
          · refine br_bipushJ C (by decide) dX3_likelihood_62 ?_
            refine br_iload C dX3_likelihood_64 rfl ?_
            refine br_isubJ C dX3_likelihood_66 ?_
            refine br_imulJ C dX3_likelihood_67 ?_
            refine br_istore_n C dX3_likelihood_68 rfl (by decide) rfl (L' := [_, _, _, _, _, _]) rfl ?_
            refine br_iincJ C dX3_likelihood_69 rfl (by decide) rfl (L' := [_, _, _, _, _, _]) rfl ?_
            refine br_goto C dX3_likelihood_72 (tgt := 5) (by decide) ?_
            exact ih (i + 1) _ _ (by omega) (by show _ = br_prod _ i * br_lkf g t p v i; rw [← ha]; unfold br_lkf; first | rw [if_neg (by omega), Int.mul_one] | rw [if_pos (by omega), if_pos (by omega)] | rw [if_pos (by omega), if_neg (by omega)])
          · refine br_iload C dX3_likelihood_57 rfl ?_
            refine br_goto C dX3_likelihood_59 (tgt := 67) (by decide) ?_
            refine br_imulJ C dX3_likelihood_67 ?_
            refine br_istore_n C dX3_likelihood_68 rfl (by decide) rfl (L' := [_, _, _, _, _, _]) rfl ?_
            refine br_iincJ C dX3_likelihood_69 rfl (by decide) rfl (L' := [_, _, _, _, _, _]) rfl ?_
            refine br_goto C dX3_likelihood_72 (tgt := 5) (by decide) ?_
            exact ih (i + 1) _ _ (by omega) (by show _ = br_prod _ i * br_lkf g t p v i; rw [← ha]; unfold br_lkf; first | rw [if_neg (by omega), Int.mul_one] | rw [if_pos (by omega), if_pos (by omega)] | rw [if_pos (by omega), if_neg (by omega)])
  refine br_iconstJ C dX3_likelihood_0 ?_
  refine br_istore_n C dX3_likelihood_1 rfl (by decide) rfl (L' := [_, _, _, _, _, _]) rfl ?_
  refine br_iconstJ C dX3_likelihood_2 ?_
  refine br_istore C dX3_likelihood_3 (by decide) rfl (L' := [_, _, _, _, _, _]) rfl ?_
  exact loop t.1 0 1 _ (by omega) rfl

set_option maxHeartbeats 4000000 in
set_option maxRecDepth 100000 in
theorem c_X3_possibleSures {σ : br_Wd} {q : Nat} (hq : br_shps[q]? = some (.inr (3, [br_fr 3, br_fr (q + 1), br_fr (q + 2), br_fr (q + 3), none]))) (hq1 : br_shps[q + 1]? = some (.inl (false, 8))) (hq2 : br_shps[q + 2]? = some (.inl (false, 8))) (hq3 : br_shps[q + 3]? = some (.inl (true, 8))) {g : br_Gy} {t : br_Tr} (hg : br_GC σ g) (hgo : br_Gok g) (ht : br_TC q σ t) (hto : br_Tok g t) (p : Nat) (hpn : p < g.1) : br_Met 3 mX3_possibleSures [br_r q, br_i (br_J p)] σ (br_R (br_sures g t p) σ) := by
  have ht0 := ht
  obtain ⟨hs, h1, h2, h3⟩ := ht
  have hg0 := hg
  have h8 := hto.1
  have hn := hgo.1
  refine br_ofW (by decide) 2 rfl (fun G C => ?_)
  have loop : ∀ (n i : Nat) (a : Int32), i + n = 9 → a = br_bt (fun v : Nat => br_lk g t p ((v : Int) + 1)) i → G 4 [some (br_r q), some (br_i (br_J p)), some (br_i a), some (br_i (br_J ((i : Int) + 1)))] [] σ := by
    intro n
    induction n with
    | zero =>
      intro i a hin ha
      refine br_iload_n C dX3_possibleSures_4 rfl rfl ?_
      refine br_bipushJ C (by decide) dX3_possibleSures_5 ?_
      refine br_icmp_gtJ C (by omega) (by omega) dX3_possibleSures_7 (tgt := 37) (by decide) (fun c7 => ?_) (fun c7 => ?_)
      · refine br_iload_n C dX3_possibleSures_37 rfl rfl ?_
        exact br_iret C rfl dX3_possibleSures_38 ⟨by rw [ha, show i = 9 by omega]; rfl, rfl⟩
      · omega
    | succ n ih =>
      intro i a hin ha
      have hi : i < 9 := by omega
      refine br_iload_n C dX3_possibleSures_4 rfl rfl ?_
      refine br_bipushJ C (by decide) dX3_possibleSures_5 ?_
      refine br_icmp_gtJ C (by omega) (by omega) dX3_possibleSures_7 (tgt := 37) (by decide) (fun c7 => ?_) (fun c7 => ?_)
      · omega
      · refine br_iload_n C dX3_possibleSures_10 rfl rfl ?_
        refine br_aload_n C dX3_possibleSures_11 rfl rfl ?_
        refine br_iload_n C dX3_possibleSures_12 rfl rfl ?_
        refine br_iload_n C dX3_possibleSures_13 rfl rfl ?_
        have hlb := br_lk_bnd g t p (v := (i : Int) + 1) (by omega) h8
        refine br_cv2R C vcX3_30 (c_X3_likelihood hq hq1 hq2 hq3 hg0 hgo ht0 hto p hpn ((i : Int) + 1) (by omega)) (by decide) hq rfl (fun _ => Nat.le_of_ble_eq_true rfl) dX3_possibleSures_14 ?_
        refine br_if_leJ C (by omega) dX3_possibleSures_17 (tgt := 28) (by decide) (fun c17 => ?_) (fun c17 => ?_)
        · refine br_iconstJ C dX3_possibleSures_28 ?_
          refine br_iorE C rfl dX3_possibleSures_29 ?_
          refine br_istore_n C dX3_possibleSures_30 rfl (by decide) rfl (L' := [_, _, _, _]) rfl ?_
          refine br_iincJ C dX3_possibleSures_31 rfl (by decide) rfl (L' := [_, _, _, _]) rfl ?_
          refine br_goto C dX3_possibleSures_34 (tgt := 4) (by decide) ?_
          exact ih (i + 1) _ (by omega) (by show _ = br_bt _ i ||| (if 0 < (fun v : Nat => br_lk g t p ((v : Int) + 1)) i then br_J 1 <<< (br_J i &&& 31) else br_J 0); rw [← ha]; first | (rw [if_pos c17]; rw [show (i : Int) + 1 - 1 = i by omega]) | rw [if_neg (by simp only []; omega)])
        · refine br_iconstJ C dX3_possibleSures_20 ?_
          refine br_iload_n C dX3_possibleSures_21 rfl rfl ?_
          refine br_iconstJ C dX3_possibleSures_22 ?_
          refine br_isubJ C dX3_possibleSures_23 ?_
          refine br_ishlE C rfl dX3_possibleSures_24 ?_
          refine br_goto C dX3_possibleSures_25 (tgt := 29) (by decide) ?_
          refine br_iorE C rfl dX3_possibleSures_29 ?_
          refine br_istore_n C dX3_possibleSures_30 rfl (by decide) rfl (L' := [_, _, _, _]) rfl ?_
          refine br_iincJ C dX3_possibleSures_31 rfl (by decide) rfl (L' := [_, _, _, _]) rfl ?_
          refine br_goto C dX3_possibleSures_34 (tgt := 4) (by decide) ?_
          exact ih (i + 1) _ (by omega) (by show _ = br_bt _ i ||| (if 0 < (fun v : Nat => br_lk g t p ((v : Int) + 1)) i then br_J 1 <<< (br_J i &&& 31) else br_J 0); rw [← ha]; first | (rw [if_pos c17]; rw [show (i : Int) + 1 - 1 = i by omega]) | rw [if_neg (by simp only []; omega)])
  refine br_iconstJ C dX3_possibleSures_0 ?_
  refine br_istore_n C dX3_possibleSures_1 rfl (by decide) rfl (L' := [_, _, _, _]) rfl ?_
  refine br_iconstJ C dX3_possibleSures_2 ?_
  refine br_istore_n C dX3_possibleSures_3 rfl (by decide) rfl (L' := [_, _, _, _]) rfl ?_
  exact loop 9 0 (br_J 0) (by omega) rfl

set_option maxHeartbeats 4000000 in
set_option maxRecDepth 100000 in
theorem c_X3_likeliestSure {σ : br_Wd} {q : Nat} (hq : br_shps[q]? = some (.inr (3, [br_fr 3, br_fr (q + 1), br_fr (q + 2), br_fr (q + 3), none]))) (hq1 : br_shps[q + 1]? = some (.inl (false, 8))) (hq2 : br_shps[q + 2]? = some (.inl (false, 8))) (hq3 : br_shps[q + 3]? = some (.inl (true, 8))) {g : br_Gy} {t : br_Tr} (hg : br_GC σ g) (hgo : br_Gok g) (ht : br_TC q σ t) (hto : br_Tok g t) (p : Nat) (hpn : p < g.1) : br_Met 3 mX3_likeliestSure [br_r q, br_i (br_J p)] σ (br_R (br_J (br_likely g t p)) σ) := by
  have ht0 := ht
  obtain ⟨hs, h1, h2, h3⟩ := ht
  have hg0 := hg
  have h8 := hto.1
  have hn := hgo.1
  refine br_ofW (by decide) 4 rfl (fun G C => ?_)
  have loop : ∀ (n i : Nat) (a : Int × Int) (x : Option br_V), i + n = 9 → a = br_am (fun v : Nat => br_lk g t p ((v : Int) + 1)) i → G 7 [some (br_r q), some (br_i (br_J p)), some (br_i (br_J a.1)), some (br_i (br_J a.2)), some (br_i (br_J ((i : Int) + 1))), x] [] σ := by
    intro n
    induction n with
    | zero =>
      intro i a x hin ha
      refine br_iload C dX3_likeliestSure_7 rfl ?_
      refine br_bipushJ C (by decide) dX3_likeliestSure_9 ?_
      refine br_icmp_gtJ C (by omega) (by omega) dX3_likeliestSure_11 (tgt := 41) (by decide) (fun c11 => ?_) (fun c11 => ?_)
      · refine br_iload_n C dX3_likeliestSure_41 rfl rfl ?_
        exact br_iret C rfl dX3_likeliestSure_42 ⟨by rw [ha, show i = 9 by omega]; rfl, rfl⟩
      · omega
    | succ n ih =>
      intro i a x hin ha
      have hi : i < 9 := by omega
      have hab : 0 ≤ a.2 ∧ a.2 ≤ 100000000 := by
        rw [ha]
        exact (br_am_bnd (by omega) (fun j hj => (br_lk_bnd g t p (v := (j : Int) + 1) (by omega) h8).2)).2
      refine br_iload C dX3_likeliestSure_7 rfl ?_
      refine br_bipushJ C (by decide) dX3_likeliestSure_9 ?_
      refine br_icmp_gtJ C (by omega) (by omega) dX3_likeliestSure_11 (tgt := 41) (by decide) (fun c11 => ?_) (fun c11 => ?_)
      · omega
      · have hlb := br_lk_bnd g t p (v := (i : Int) + 1) (by omega) h8
        refine br_aload_n C dX3_likeliestSure_14 rfl rfl ?_
        refine br_iload_n C dX3_likeliestSure_15 rfl rfl ?_
        refine br_iload C dX3_likeliestSure_16 rfl ?_
        refine br_cv2R C vcX3_30 (c_X3_likelihood hq hq1 hq2 hq3 hg0 hgo ht0 hto p hpn ((i : Int) + 1) (by omega)) (by decide) hq rfl (fun _ => Nat.le_of_ble_eq_true rfl) dX3_likeliestSure_18 ?_
        refine br_istore C dX3_likeliestSure_21 (by decide) rfl (L' := [_, _, _, _, _, _]) rfl ?_
        refine br_iload C dX3_likeliestSure_23 rfl ?_
        refine br_iload_n C dX3_likeliestSure_25 rfl rfl ?_
        refine br_icmp_leJ C (by omega) (by omega) dX3_likeliestSure_26 (tgt := 35) (by decide) (fun c26 => ?_) (fun c26 => ?_)
        · refine br_iincJ C dX3_likeliestSure_35 rfl (by decide) rfl (L' := [_, _, _, _, _, _]) rfl ?_
          refine br_goto C dX3_likeliestSure_38 (tgt := 7) (by decide) ?_
          exact ih (i + 1) _ _ (by omega) (show (_, _) = (if (br_am (fun v : Nat => br_lk g t p ((v : Int) + 1)) i).2 < (fun v : Nat => br_lk g t p ((v : Int) + 1)) i then ((i : Int) + 1, (fun v : Nat => br_lk g t p ((v : Int) + 1)) i) else br_am (fun v : Nat => br_lk g t p ((v : Int) + 1)) i) by rw [← ha]; first | (rw [if_pos c26]; done) | (rw [if_pos c26]; rfl) | rw [if_neg (by simp only []; omega)])
        · refine br_iload C dX3_likeliestSure_29 rfl ?_
          refine br_istore_n C dX3_likeliestSure_31 rfl (by decide) rfl (L' := [_, _, _, _, _, _]) rfl ?_
          refine br_iload C dX3_likeliestSure_32 rfl ?_
          refine br_istore_n C dX3_likeliestSure_34 rfl (by decide) rfl (L' := [_, _, _, _, _, _]) rfl ?_
          refine br_iincJ C dX3_likeliestSure_35 rfl (by decide) rfl (L' := [_, _, _, _, _, _]) rfl ?_
          refine br_goto C dX3_likeliestSure_38 (tgt := 7) (by decide) ?_
          exact ih (i + 1) _ _ (by omega) (show (_, _) = (if (br_am (fun v : Nat => br_lk g t p ((v : Int) + 1)) i).2 < (fun v : Nat => br_lk g t p ((v : Int) + 1)) i then ((i : Int) + 1, (fun v : Nat => br_lk g t p ((v : Int) + 1)) i) else br_am (fun v : Nat => br_lk g t p ((v : Int) + 1)) i) by rw [← ha]; first | (rw [if_pos c26]; done) | (rw [if_pos c26]; rfl) | rw [if_neg (by simp only []; omega)])
  refine br_iconstJ C dX3_likeliestSure_0 ?_
  refine br_istore_n C dX3_likeliestSure_1 rfl (by decide) rfl (L' := [_, _, _, _, _, _]) rfl ?_
  refine br_iconstJ C dX3_likeliestSure_2 ?_
  refine br_istore_n C dX3_likeliestSure_3 rfl (by decide) rfl (L' := [_, _, _, _, _, _]) rfl ?_
  refine br_iconstJ C dX3_likeliestSure_4 ?_
  refine br_istore C dX3_likeliestSure_5 (by decide) rfl (L' := [_, _, _, _, _, _]) rfl ?_
  exact loop 9 0 (-1, 0) _ (by omega) rfl
end
section
/-! The state that class and model share, and what each call answers and does, in one text for both. -/
-- page, gym, routine, changes, tried, gyms read, bests done, the image (kept?, its routine, changes, tried)
abbrev br_A : Type := br_Pg × br_Gy × br_Ro × Int × br_Tr × Nat × Nat × Bool × br_Ro × Int × br_Tr
def br_b2 (b : Bool) : Int := if b = true then 1 else 0
def br_CR (σ : br_Wd) : br_A → Prop
  | (w, g, r, c, t, n, b, kp, r2, c2, t2) => (br_PC σ w ∧ br_GC σ g ∧ br_RC 7 σ r ∧ br_TC 15 σ t) ∧ (σ.1 0 4 = br_J c ∧ σ.1 0 11 = br_J n ∧ σ.1 0 12 = br_J b ∧ σ.1 0 5 = br_J (br_b2 kp)) ∧ (kp = true → br_RC 9 σ r2 ∧ br_TC 19 σ t2 ∧ σ.1 0 8 = br_J c2)
def br_Aok : br_A → Prop
  | (w, g, r, _, t, n, b, kp, r2, _, t2) => (br_Pok w ∧ br_Gok g ∧ br_Rok g r ∧ br_Tok g t) ∧ (b ≤ 30 ∧ n ≤ 512) ∧ (kp = true → br_Rok g r2 ∧ br_Tok g t2)
/-- the model's cells are as they were; the class' cells are as they were -/
def br_fc (σ τ : br_Wd) : Prop := (∀ p : Nat, 23 ≤ p → τ.1 p = σ.1 p) ∧ τ.2 = σ.2
def br_fm (σ τ : br_Wd) : Prop := ∀ p : Nat, p < 23 → τ.1 p = σ.1 p
theorem br_fc.rfl {σ : br_Wd} : br_fc σ σ := ⟨fun _ _ => Eq.refl _, Eq.refl _⟩
theorem br_fm.rfl {σ : br_Wd} : br_fm σ σ := fun _ _ => Eq.refl _
theorem br_sm.fc {qs : List Nat} {σ τ : br_Wd} (h : br_sm qs σ τ) (hq : ∀ q ∈ qs, q < 23) : br_fc σ τ := ⟨fun p hp => h.1 p (fun hm => by have := hq p hm; omega), h.2⟩
theorem br_sm.fm {qs : List Nat} {σ τ : br_Wd} (h : br_sm qs σ τ) (hq : ∀ q ∈ qs, 23 ≤ q) : br_fm σ τ := fun p hp => h.1 p (fun hm => by have := hq p hm; omega)
theorem br_fc.trans {σ τ υ : br_Wd} (h1 : br_fc σ τ) (h2 : br_fc τ υ) : br_fc σ υ := ⟨fun p hp => (h2.1 p hp).trans (h1.1 p hp), h2.2.trans h1.2⟩
theorem br_fm.trans {σ τ υ : br_Wd} (h1 : br_fm σ τ) (h2 : br_fm τ υ) : br_fm σ υ := fun p hp => (h2 p hp).trans (h1 p hp)
theorem br_CR.keep {σ τ : br_Wd} {A : br_A} (h : br_CR σ A) (e : ∀ p : Nat, p < 23 → p ≤ 10 ∨ 15 ≤ p → τ.1 p = σ.1 p) : br_CR τ A := by
  obtain ⟨w, g, r, c, t, n, b, kp, r2, c2, t2⟩ := A
  obtain ⟨⟨h1, h2, h3, h4⟩, ⟨h5, h6, h7, h8⟩, h9⟩ := h
  have e0 := e 0 (by omega) (by omega); have e1 := e 1 (by omega) (by omega); have e2 := e 2 (by omega) (by omega); have e3 := e 3 (by omega) (by omega)
  have e4 := e 4 (by omega) (by omega); have e5 := e 5 (by omega) (by omega); have e6 := e 6 (by omega) (by omega); have e7 := e 7 (by omega) (by omega)
  have e8 := e 8 (by omega) (by omega); have e9 := e 9 (by omega) (by omega); have e10 := e 10 (by omega) (by omega)
  have e15 := e 15 (by omega) (by omega); have e16 := e 16 (by omega) (by omega); have e17 := e 17 (by omega) (by omega); have e18 := e 18 (by omega) (by omega)
  have e19 := e 19 (by omega) (by omega); have e20 := e 20 (by omega) (by omega); have e21 := e 21 (by omega) (by omega); have e22 := e 22 (by omega) (by omega)
  refine ⟨⟨?_, ?_, ?_, ?_⟩, ⟨?_, ?_, ?_, ?_⟩, fun hk => ⟨?_, ?_, ?_⟩⟩
  · exact ⟨by rw [e1]; exact h1.1, fun j hj => by rw [e2]; exact h1.2 j hj⟩
  · exact ⟨by rw [e3]; exact h2.1, fun j hj => by rw [e4]; exact h2.2.1 j hj, fun j hj => by rw [e5]; exact h2.2.2.1 j hj, fun j hj => by rw [e6]; exact h2.2.2.2 j hj⟩
  · exact ⟨by rw [e7]; exact h3.1, fun j hj => by rw [e8]; exact h3.2 j hj⟩
  · exact ⟨by rw [e15]; exact h4.1, fun j hj => by rw [e16]; exact h4.2.1 j hj, fun j hj => by rw [e17]; exact h4.2.2.1 j hj, fun j hj => by rw [e18]; exact h4.2.2.2 j hj⟩
  · rw [e0]; exact h5
  · rw [e0]; exact h6
  · rw [e0]; exact h7
  · rw [e0]; exact h8
  · have h := (h9 hk).1
    exact ⟨by rw [e9]; exact h.1, fun j hj => by rw [e10]; exact h.2 j hj⟩
  · have h := (h9 hk).2.1
    exact ⟨by rw [e19]; exact h.1, fun j hj => by rw [e20]; exact h.2.1 j hj, fun j hj => by rw [e21]; exact h.2.2.1 j hj, fun j hj => by rw [e22]; exact h.2.2.2 j hj⟩
  · rw [e0]; exact (h9 hk).2.2
/-- a call of the class: it answers x, and its world is that of A behind it -/
abbrev br_QC (x : Int32) (A : br_A) (σ : br_Wd) : br_post := fun v τ => v = some (br_i x) ∧ br_CR τ A ∧ br_fc σ τ
theorem br_QC.of {d : Nat} {Y : br_Y} {args : List br_V} {σ : br_Wd} {x : Int32} {A : br_A} (h : br_Met d Y args σ (br_R x σ)) (hc : br_CR σ A) : br_Met d Y args σ (br_QC x A σ) := h.to (fun v τ q => by
  obtain ⟨rfl, rfl⟩ := q
  exact ⟨Eq.refl _, hc, br_fc.rfl⟩)
-- lowest terms
def br_gcd (a b : Int) : Int := ((Nat.gcd a.toNat b.toNat : Nat) : Int)
def br_lo (a b k : Int) : Int := (if k = 0 then a else b) / br_gcd a b
theorem br_gcd_pos {a b : Int} (hb : 0 < b) : 0 < br_gcd a b ∧ br_gcd a b ≤ b := by
  unfold br_gcd
  have h1 := Nat.gcd_pos_of_pos_right a.toNat (show 0 < b.toNat by omega)
  have h2 := Nat.gcd_le_right a.toNat (show 0 < b.toNat by omega)
  omega
theorem br_gcd_step {x y : Int} (hx : 0 ≤ x) (hy : 0 < y) : br_gcd y (x % y) = br_gcd x y := by
  unfold br_gcd
  have e : (x % y).toNat = x.toNat % y.toNat := by
    rw [Int.toNat_emod hx (by omega)]
  rw [e, Nat.gcd_comm x.toNat y.toNat, Nat.gcd_rec y.toNat x.toNat, Nat.gcd_comm]
theorem br_gcd_zero {x : Int} (hx : 0 ≤ x) : br_gcd x 0 = x := by
  unfold br_gcd
  rw [show (0 : Int).toNat = 0 from rfl, Nat.gcd_zero_right]
  omega
-- what the calls answer
def br_vFault : br_A → Int
  | (w, _) => (br_fault w : Nat)
def br_vPiece (A : br_A) (z k : Int) : Int32 := match A with
  | (_, g, r, _, t, _) => if ¬ (0 ≤ z ∧ z < g.1) then br_J (-101) else if k = 0 then br_J (br_gK g z.toNat) else if k = 1 then br_J (br_gW g z.toNat) else if k = 2 then br_J (br_gS g z.toNat) else if k = 3 then br_J (br_po r z) else if k = 4 then br_J (if br_po r z = -1 then -1 else br_cr g r (br_po r z).toNat) else if k = 5 then br_sures g t z.toNat else if k = 6 then br_J (br_likely g t z.toNat) else br_J (-102)
def br_vAs (A : br_A) (z kd : Int) : Int := match A with
  | (_, g, _) => if ¬ (0 ≤ z ∧ z < g.1) then -101 else if ¬ (0 ≤ kd ∧ kd ≤ 4) then -102 else if br_isP g z kd then z else -1
def br_vAt (A : br_A) (z : Int) : Int := match A with
  | (_, _, r, _) => if 0 ≤ z ∧ z < r.1 then (r.2 z.toNat : Nat) else -101
def br_vScore (A : br_A) (z : Int) : Int := match A with
  | (_, g, r, _) => if ¬ (0 ≤ z ∧ z < (2 ^ r.1 : Nat)) then -102 else if g.1 = 0 then -103 else br_pt g r z.toNat + 200
def br_vMean (A : br_A) (k : Int) : Int := match A with
  | (_, g, r, _) => if ¬ (k = 0 ∨ k = 1) then -102 else if g.1 = 0 then -103 else br_lo (br_mh g r) 100 k
def br_vOdds (A : br_A) (s k : Int) : Int := match A with
  | (_, g, r, _) => if ¬ ((-100 ≤ s ∧ s ≤ 100) ∧ (k = 0 ∨ k = 1)) then -102 else if g.1 = 0 then -103 else br_lo (br_od g r s) ((10 : Int) ^ r.1) k
def br_vCount (A : br_A) (k : Int) : Int := match A with
  | (w, g, r, c, t, n, b, _) => if k = 0 then g.1 else if k = 1 then r.1 else if k = 2 then br_nF g r else if k = 3 then br_nT g r else if k = 4 then br_nJ g r else if k = 5 then c else if k = 6 then t.1 else if k = 7 then w.1 else if k = 8 then n else if k = 9 then b else -102
def br_sLetter (A : br_A) (z : Int) : Int × br_A := match A with
  | (w, u) => if ¬ (1 ≤ z ∧ z ≤ 126) then (-102, (w, u)) else if 30 ≤ w.1 then (-104, (w, u)) else ((w.1 : Int) + 1, ((w.1 + 1, fun j => if j = w.1 then z else w.2 j), u))
def br_sBlank (A : br_A) : Int × br_A := match A with
  | (w, u) => (w.1, ((0, w.2), u))
def br_sPut (A : br_A) (z : Int) : Int × br_A := match A with
  | (w, g, r, c, u) => if ¬ (0 ≤ z ∧ z < g.1) then (-101, A) else if ¬ br_po r z = -1 then (-103, A) else if 5 ≤ r.1 then (-104, A) else (r.1, (w, g, br_app r z.toNat, c + 1, u))
def br_sTake (A : br_A) (z : Int) : Int × br_A := match A with
  | (w, g, r, c, u) => if ¬ (0 ≤ z ∧ z < r.1) then (-101, A) else ((r.2 z.toNat : Nat), (w, g, br_rem r z.toNat, c + 1, u))
def br_sSwap (A : br_A) (x y : Int) : Int × br_A := match A with
  | (w, g, r, c, u) => if ¬ ((0 ≤ x ∧ x < r.1) ∧ (0 ≤ y ∧ y < r.1)) then (-101, A) else (c + 1, (w, g, br_swp r x.toNat y.toNat, c + 1, u))
def br_sTry (A : br_A) (z b : Int) (s : Nat) : Int × br_A := match A with
  | (w, g, r, c, t, u) => if ¬ (0 ≤ z ∧ z < g.1) then (-101, A) else if ¬ (0 ≤ b ∧ b ≤ 4) then (-102, A) else if 8 ≤ t.1 then (-104, A) else ((t.1 : Int) + 1, (w, g, r, c, br_tadd t z.toNat b.toNat s, u))
def br_sForget (A : br_A) : Int × br_A := match A with
  | (w, g, r, c, t, u) => (t.1, (w, g, r, c, (0, t.2), u))
def br_sImage (A : br_A) : Int × br_A := match A with
  | (w, g, r, c, t, n, b, _) => if g.1 = 0 then (-103, A) else (c, (w, g, r, c, t, n, b, true, r, c, t))
def br_sRestore (A : br_A) : Int × br_A := match A with
  | (w, g, _, _, _, n, b, kp, r2, c2, t2) => if kp = true then (c2, (w, g, r2, c2, t2, n, b, kp, r2, c2, t2)) else (-103, A)
def br_gy (w : br_Pg) : br_Gy := ((w.1 + 1) / 4, fun j => br_kd (w.2 (4 * j)), fun j => w.2 (4 * j + 1) - 48, fun j => w.2 (4 * j + 2) - 48)
def br_sGym (A : br_A) : Int × br_A := match A with
  | (w, _, r, _, t, n, b, _, u) => if br_tells w then (((br_gy w).1 : Nat), ((0, w.2), br_gy w, (0, r.2), 0, (0, t.2), n + 1, b, false, u)) else (-103, A)
theorem br_mt_bnd {g : br_Gy} {r : br_Ro} (hg : br_Gok g) (hr : br_Rok g r) (i : Nat) (hi : i < r.1) : -1000 ≤ br_mt g r i ∧ br_mt g r i ≤ 1100 := by
  have h1 := (hg.2 _ (hr.2.1 i hi)).2.1
  have h2 := br_jw_bnd g r i
  have h3 := br_cr_bnd hg hr i
  have h4 := br_cr_bnd hg hr (i + 1)
  have a1 := Int.mul_nonneg h3.1 (show 0 ≤ br_gW g (r.2 i) by omega)
  have a2 := Int.mul_le_mul h3.2 h1.2 (show 0 ≤ br_gW g (r.2 i) by omega) (show (0 : Int) ≤ 9 by omega)
  have b1 := Int.mul_nonneg h3.1 h4.1
  have b2 := Int.mul_le_mul h3.2 h4.2 h4.1 (show (0 : Int) ≤ 9 by omega)
  have c1 := Int.mul_nonneg b1 h2.1
  have c2 := Int.mul_le_mul b2 h2.2 h2.1 (show (0 : Int) ≤ 9 * 9 by omega)
  unfold br_mt
  omega
theorem br_mh_bnd {g : br_Gy} {r : br_Ro} (hg : br_Gok g) (hr : br_Rok g r) : 14000 ≤ br_mh g r ∧ br_mh g r ≤ 25500 := by
  have h1 := br_pen_bnd g r
  have h2 := br_sum_bnd (f := br_mt g r) (n := r.1) (a := -1000) (b := 1100) (fun j hj => br_mt_bnd hg hr j hj)
  have h3 := hr.1
  unfold br_mh
  omega
end
section
theorem br_PC.keep {σ τ : br_Wd} {w : br_Pg} (h : br_PC σ w) (e1 : τ.1 1 = σ.1 1) (e2 : τ.1 2 = σ.1 2) : br_PC τ w := ⟨by rw [e1]; exact h.1, fun j hj => by rw [e2]; exact h.2 j hj⟩
theorem br_GC.keep {σ τ : br_Wd} {g : br_Gy} (h : br_GC σ g) (e3 : τ.1 3 = σ.1 3) (e4 : τ.1 4 = σ.1 4) (e5 : τ.1 5 = σ.1 5) (e6 : τ.1 6 = σ.1 6) : br_GC τ g := ⟨by rw [e3]; exact h.1, fun j hj => by rw [e4]; exact h.2.1 j hj, fun j hj => by rw [e5]; exact h.2.2.1 j hj, fun j hj => by rw [e6]; exact h.2.2.2 j hj⟩
theorem br_RC.keep {q : Nat} {σ τ : br_Wd} {r : br_Ro} (h : br_RC q σ r) (e1 : τ.1 q = σ.1 q) (e2 : τ.1 (q + 1) = σ.1 (q + 1)) : br_RC q τ r := ⟨by rw [e1]; exact h.1, fun j hj => by rw [e2]; exact h.2 j hj⟩
theorem br_TC.keep {q : Nat} {σ τ : br_Wd} {t : br_Tr} (h : br_TC q σ t) (e0 : τ.1 q = σ.1 q) (e1 : τ.1 (q + 1) = σ.1 (q + 1)) (e2 : τ.1 (q + 2) = σ.1 (q + 2)) (e3 : τ.1 (q + 3) = σ.1 (q + 3)) : br_TC q τ t := ⟨by rw [e0]; exact h.1, fun j hj => by rw [e1]; exact h.2.1 j hj, fun j hj => by rw [e2]; exact h.2.2.1 j hj, fun j hj => by rw [e3]; exact h.2.2.2 j hj⟩

set_option maxHeartbeats 4000000 in
set_option maxRecDepth 100000 in
theorem c_X4_noGym {σ : br_Wd} {A : br_A} (hc : br_CR σ A) (hA : br_Aok A) : br_Met 0 mX4_noGym [br_r 0] σ (br_R (br_J (if A.2.1.1 = 0 then 1 else 0)) σ) := by
  obtain ⟨w, g, r, c, t, n, b, kp, ri, ci, ti⟩ := A
  have hc0 := hc
  obtain ⟨⟨hw, hg, hr, ht⟩, ⟨hcc, hnn, hbb, hkp⟩, him⟩ := hc
  obtain ⟨⟨hwo, hgo, hro, hto⟩, ⟨hb30, hn512⟩, hio⟩ := hA
  have hw1 := hw.1
  have hg1 := hg.1
  have hr1 := hr.1
  have ht1 := ht.1
  have hw30 := hwo.1
  have hg7 := hgo.1
  have h5r := hro.1
  have h8t := hto.1
  have hk4 := fun (j : Nat) (hj : j < g.1) => (hgo.2 j hj).1
  have hrb := fun (j : Nat) (hj : j < r.1) => (show r.2 j < 7 by have := hro.2.1 j hj; omega)
  refine br_ofW (by decide) 0 rfl (fun G C => ?_)
  refine br_aload_n C dX4_noGym_0 rfl rfl ?_
  refine br_getR C fdX4_19 dX4_noGym_1 rfl rfl ?_
  refine br_getI C fdX4_91 dX4_noGym_4 rfl rfl (by assumption) ?_
  refine br_if_neJ C (by omega) dX4_noGym_7 (tgt := 14) (by decide) (fun c7 => ?_) (fun c7 => ?_)
  · refine br_iconstJ C dX4_noGym_14 ?_
    exact br_zret C (by decide) rfl dX4_noGym_15 ⟨by show _ = some (br_i (br_J (if g.1 = 0 then 1 else 0))); first | rw [if_pos (by omega)] | rw [if_neg (by omega)], rfl⟩
  · refine br_iconstJ C dX4_noGym_10 ?_
    refine br_goto C dX4_noGym_11 (tgt := 15) (by decide) ?_
    exact br_zret C (by decide) rfl dX4_noGym_15 ⟨by show _ = some (br_i (br_J (if g.1 = 0 then 1 else 0))); first | rw [if_pos (by omega)] | rw [if_neg (by omega)], rfl⟩

set_option maxHeartbeats 4000000 in
set_option maxRecDepth 100000 in
theorem c_X4_isScore {σ : br_Wd} (s : Int) (hbs : -2147483648 ≤ s ∧ s < 2147483648) : br_Met 0 mX4_isScore [br_i (br_J s)] σ (br_R (br_J (if -100 ≤ s ∧ s ≤ 100 then 1 else 0)) σ) := by
  refine br_ofW (by decide) 0 rfl (fun G C => ?_)
  refine br_iload_n C dX4_isScore_0 rfl rfl ?_
  refine br_bipushJ C (by decide) dX4_isScore_1 ?_
  refine br_icmp_ltJ C (by omega) (by omega) dX4_isScore_3 (tgt := 16) (by decide) (fun c3 => ?_) (fun c3 => ?_)
  · refine br_iconstJ C dX4_isScore_16 ?_
    exact br_zret C (by decide) rfl dX4_isScore_17 ⟨by first | rw [if_pos (by omega)] | rw [if_neg (by omega)], rfl⟩
  · refine br_iload_n C dX4_isScore_6 rfl rfl ?_
    refine br_bipushJ C (by decide) dX4_isScore_7 ?_
    refine br_icmp_gtJ C (by omega) (by omega) dX4_isScore_9 (tgt := 16) (by decide) (fun c9 => ?_) (fun c9 => ?_)
    · refine br_iconstJ C dX4_isScore_16 ?_
      exact br_zret C (by decide) rfl dX4_isScore_17 ⟨by first | rw [if_pos (by omega)] | rw [if_neg (by omega)], rfl⟩
    · refine br_iconstJ C dX4_isScore_12 ?_
      refine br_goto C dX4_isScore_13 (tgt := 17) (by decide) ?_
      exact br_zret C (by decide) rfl dX4_isScore_17 ⟨by first | rw [if_pos (by omega)] | rw [if_neg (by omega)], rfl⟩

set_option maxHeartbeats 4000000 in
set_option maxRecDepth 100000 in
theorem c_X4_asksAboveOrBelow {σ : br_Wd} (k : Int) (hbk : -2147483648 ≤ k ∧ k < 2147483648) : br_Met 0 mX4_asksAboveOrBelow [br_i (br_J k)] σ (br_R (br_J (if k = 0 ∨ k = 1 then 1 else 0)) σ) := by
  refine br_ofW (by decide) 0 rfl (fun G C => ?_)
  refine br_iload_n C dX4_asksAboveOrBelow_0 rfl rfl ?_
  refine br_if_eqJ C (by omega) dX4_asksAboveOrBelow_1 (tgt := 9) (by decide) (fun c1 => ?_) (fun c1 => ?_)
  · refine br_iconstJ C dX4_asksAboveOrBelow_9 ?_
    refine br_goto C dX4_asksAboveOrBelow_10 (tgt := 14) (by decide) ?_
    exact br_zret C (by decide) rfl dX4_asksAboveOrBelow_14 ⟨by first | rw [if_pos (by omega)] | rw [if_neg (by omega)], rfl⟩
  · refine br_iload_n C dX4_asksAboveOrBelow_4 rfl rfl ?_
    refine br_iconstJ C dX4_asksAboveOrBelow_5 ?_
    refine br_icmp_neJ C (by omega) (by omega) dX4_asksAboveOrBelow_6 (tgt := 13) (by decide) (fun c6 => ?_) (fun c6 => ?_)
    · refine br_iconstJ C dX4_asksAboveOrBelow_13 ?_
      exact br_zret C (by decide) rfl dX4_asksAboveOrBelow_14 ⟨by first | rw [if_pos (by omega)] | rw [if_neg (by omega)], rfl⟩
    · refine br_iconstJ C dX4_asksAboveOrBelow_9 ?_
      refine br_goto C dX4_asksAboveOrBelow_10 (tgt := 14) (by decide) ?_
      exact br_zret C (by decide) rfl dX4_asksAboveOrBelow_14 ⟨by first | rw [if_pos (by omega)] | rw [if_neg (by omega)], rfl⟩

set_option maxHeartbeats 4000000 in
set_option maxRecDepth 100000 in
theorem c_X4_commonDivisor {σ : br_Wd} (a b : Int) (ha : 0 ≤ a ∧ a < 2147483648) (hb : 0 < b ∧ b < 2147483648) : br_Met 0 mX4_commonDivisor [br_i (br_J a), br_i (br_J b)] σ (br_R (br_J (br_gcd a b)) σ) := by
  refine br_ofW (by decide) 4 rfl (fun G C => ?_)
  have loop : ∀ (m : Nat) (s : Nat) (x y : Int) (u : Option br_V), s + 2 * m ≤ 64 → 0 ≤ y → y ≤ x → x < 2147483648 → x < (2 ^ m : Nat) → br_gcd x y = br_gcd a b → G 7 [some (br_i (br_J a)), some (br_i (br_J b)), some (br_i (br_J x)), some (br_i (br_J y)), some (br_i (br_J s)), u] [] σ := by
    intro m
    induction m with
    | zero =>
      intro s x y u hs hy0 hyx hx31 hx hG
      have hx1 : x < 1 := hx
      have hxy : y = 0 := by omega
      refine br_iload C dX4_commonDivisor_7 rfl ?_
      refine br_bipushJ C (by decide) dX4_commonDivisor_9 ?_
      refine br_icmp_geJ C (by omega) (by omega) dX4_commonDivisor_11 (tgt := 34) (by decide) (fun c11 => ?_) (fun c11 => ?_)
      · refine br_iload_n C dX4_commonDivisor_34 rfl rfl ?_
        exact br_iret C rfl dX4_commonDivisor_35 ⟨by first | (exfalso; omega) | (rw [← hG, hxy, br_gcd_zero (by omega)]), rfl⟩
      · refine br_iload_n C dX4_commonDivisor_14 rfl rfl ?_
        refine br_if_eqJ C (by omega) dX4_commonDivisor_15 (tgt := 34) (by decide) (fun c15 => ?_) (fun c15 => ?_)
        · refine br_iload_n C dX4_commonDivisor_34 rfl rfl ?_
          exact br_iret C rfl dX4_commonDivisor_35 ⟨by first | (exfalso; omega) | (rw [← hG, hxy, br_gcd_zero (by omega)]), rfl⟩
        · omega
    | succ m ih =>
      intro s x y u hs hy0 hyx hx31 hx hG
      have hp : (2 ^ (m + 1) : Nat) = 2 * (2 ^ m : Nat) := by rw [Nat.pow_succ]; omega
      have hpp := Nat.pos_of_ne_zero (show (2 ^ m : Nat) ≠ 0 from by simp)
      refine br_iload C dX4_commonDivisor_7 rfl ?_
      refine br_bipushJ C (by decide) dX4_commonDivisor_9 ?_
      refine br_icmp_geJ C (by omega) (by omega) dX4_commonDivisor_11 (tgt := 34) (by decide) (fun c11 => ?_) (fun c11 => ?_)
      · refine br_iload_n C dX4_commonDivisor_34 rfl rfl ?_
        exact br_iret C rfl dX4_commonDivisor_35 ⟨by first | (exfalso; omega) | (rw [← hG, show y = 0 by omega, br_gcd_zero (by omega)]), rfl⟩
      · refine br_iload_n C dX4_commonDivisor_14 rfl rfl ?_
        refine br_if_eqJ C (by omega) dX4_commonDivisor_15 (tgt := 34) (by decide) (fun c15 => ?_) (fun c15 => ?_)
        · refine br_iload_n C dX4_commonDivisor_34 rfl rfl ?_
          exact br_iret C rfl dX4_commonDivisor_35 ⟨by first | (exfalso; omega) | (rw [← hG, show y = 0 by omega, br_gcd_zero (by omega)]), rfl⟩
        · refine br_iload_n C dX4_commonDivisor_18 rfl rfl ?_
          refine br_iload_n C dX4_commonDivisor_19 rfl rfl ?_
          have hm1 := Int.emod_nonneg x (show y ≠ 0 by omega)
          have hm2 := Int.emod_lt_of_pos x (show 0 < y by omega)
          refine br_iremJ C (by omega) (by omega) dX4_commonDivisor_20 ?_
          refine br_istore C dX4_commonDivisor_21 (by decide) rfl (L' := [_, _, _, _, _, _]) rfl ?_
          refine br_iload_n C dX4_commonDivisor_23 rfl rfl ?_
          refine br_istore_n C dX4_commonDivisor_24 rfl (by decide) rfl (L' := [_, _, _, _, _, _]) rfl ?_
          refine br_iload C dX4_commonDivisor_25 rfl ?_
          refine br_istore_n C dX4_commonDivisor_27 rfl (by decide) rfl (L' := [_, _, _, _, _, _]) rfl ?_
          refine br_iincJ C dX4_commonDivisor_28 rfl (by decide) rfl (L' := [_, _, _, _, _, _]) rfl ?_
          refine br_goto C dX4_commonDivisor_31 (tgt := 7) (by decide) ?_
          refine br_iload C dX4_commonDivisor_7 rfl ?_
          refine br_bipushJ C (by decide) dX4_commonDivisor_9 ?_
          refine br_icmp_geJ C (by omega) (by omega) dX4_commonDivisor_11 (tgt := 34) (by decide) (fun c11 => ?_) (fun c11 => ?_)
          · refine br_iload_n C dX4_commonDivisor_34 rfl rfl ?_
            exact br_iret C rfl dX4_commonDivisor_35 ⟨by first | (exfalso; omega) | (rw [← hG, ← br_gcd_step (by omega) (show 0 < y by omega), show x % y = 0 by omega, br_gcd_zero (by omega)]), rfl⟩
          · refine br_iload_n C dX4_commonDivisor_14 rfl rfl ?_
            refine br_if_eqJ C (by omega) dX4_commonDivisor_15 (tgt := 34) (by decide) (fun c15 => ?_) (fun c15 => ?_)
            · refine br_iload_n C dX4_commonDivisor_34 rfl rfl ?_
              exact br_iret C rfl dX4_commonDivisor_35 ⟨by first | (exfalso; omega) | (rw [← hG, ← br_gcd_step (by omega) (show 0 < y by omega), show x % y = 0 by omega, br_gcd_zero (by omega)]), rfl⟩
            · refine br_iload_n C dX4_commonDivisor_18 rfl rfl ?_
              refine br_iload_n C dX4_commonDivisor_19 rfl rfl ?_
              have hn1 := Int.emod_nonneg y (show x % y ≠ 0 by omega)
              have hn2 := Int.emod_lt_of_pos y (show 0 < x % y by omega)
              refine br_iremJ C (by omega) (by omega) dX4_commonDivisor_20 ?_
              refine br_istore C dX4_commonDivisor_21 (by decide) rfl (L' := [_, _, _, _, _, _]) rfl ?_
              refine br_iload_n C dX4_commonDivisor_23 rfl rfl ?_
              refine br_istore_n C dX4_commonDivisor_24 rfl (by decide) rfl (L' := [_, _, _, _, _, _]) rfl ?_
              refine br_iload C dX4_commonDivisor_25 rfl ?_
              refine br_istore_n C dX4_commonDivisor_27 rfl (by decide) rfl (L' := [_, _, _, _, _, _]) rfl ?_
              refine br_iincJ C dX4_commonDivisor_28 rfl (by decide) rfl (L' := [_, _, _, _, _, _]) rfl ?_
              refine br_goto C dX4_commonDivisor_31 (tgt := 7) (by decide) ?_
              refine ih (s + 2) (x % y) (y % (x % y)) _ (by omega) hn1 (by omega) (by omega) ?_ ?_
              · have hd := Int.mul_ediv_add_emod x y
                have hq : 1 ≤ x / y := by
                  have := Int.ediv_le_ediv (show 0 < y by omega) hyx
                  rw [Int.ediv_self (by omega)] at this
                  exact this
                have hq2 : y * 1 ≤ y * (x / y) := Int.mul_le_mul_of_nonneg_left hq (by omega)
                omega
              · rw [br_gcd_step (show 0 ≤ y by omega) (show 0 < x % y by omega), br_gcd_step (by omega) (show 0 < y by omega)]
                exact hG
  refine br_iload_n C dX4_commonDivisor_0 rfl rfl ?_
  refine br_istore_n C dX4_commonDivisor_1 rfl (by decide) rfl (L' := [_, _, _, _, _, _]) rfl ?_
  refine br_iload_n C dX4_commonDivisor_2 rfl rfl ?_
  refine br_istore_n C dX4_commonDivisor_3 rfl (by decide) rfl (L' := [_, _, _, _, _, _]) rfl ?_
  refine br_iconstJ C dX4_commonDivisor_4 ?_
  refine br_istore C dX4_commonDivisor_5 (by decide) rfl (L' := [_, _, _, _, _, _]) rfl ?_
  by_cases hab : b ≤ a
  · exact loop 31 0 a b none (by omega) (by omega) hab (by omega) (by omega) rfl
  · have hba : a % b = a := Int.emod_eq_of_lt (by omega) (by omega)
    refine br_iload C dX4_commonDivisor_7 rfl ?_
    refine br_bipushJ C (by decide) dX4_commonDivisor_9 ?_
    refine br_icmp_geJ C (by omega) (by omega) dX4_commonDivisor_11 (tgt := 34) (by decide) (fun c => absurd c (by decide)) (fun _ => ?_)
    refine br_iload_n C dX4_commonDivisor_14 rfl rfl ?_
    refine br_if_eqJ C (by omega) dX4_commonDivisor_15 (tgt := 34) (by decide) (fun c15 => ?_) (fun c15 => ?_)
    · omega
    · refine br_iload_n C dX4_commonDivisor_18 rfl rfl ?_
      refine br_iload_n C dX4_commonDivisor_19 rfl rfl ?_
      refine br_iremJ C (by omega) (by omega) dX4_commonDivisor_20 ?_
      refine br_istore C dX4_commonDivisor_21 (by decide) rfl (L' := [_, _, _, _, _, _]) rfl ?_
      refine br_iload_n C dX4_commonDivisor_23 rfl rfl ?_
      refine br_istore_n C dX4_commonDivisor_24 rfl (by decide) rfl (L' := [_, _, _, _, _, _]) rfl ?_
      refine br_iload C dX4_commonDivisor_25 rfl ?_
      refine br_istore_n C dX4_commonDivisor_27 rfl (by decide) rfl (L' := [_, _, _, _, _, _]) rfl ?_
      refine br_iincJ C dX4_commonDivisor_28 rfl (by decide) rfl (L' := [_, _, _, _, _, _]) rfl ?_
      refine br_goto C dX4_commonDivisor_31 (tgt := 7) (by decide) ?_
      rw [hba]
      exact loop 31 1 b a _ (by omega) (by omega) (by omega) (by omega) (by omega) (by unfold br_gcd; rw [Nat.gcd_comm])

set_option maxHeartbeats 4000000 in
set_option maxRecDepth 100000 in
theorem c_X4_inLowestTerms {σ : br_Wd} (a b k : Int) (ha : 0 ≤ a ∧ a < 2147483648) (hb : 0 < b ∧ b < 2147483648) (hk : -2147483648 ≤ k ∧ k < 2147483648) : br_Met 1 mX4_inLowestTerms [br_i (br_J a), br_i (br_J b), br_i (br_J k)] σ (br_R (br_J (br_lo a b k)) σ) := by
  refine br_ofW (by decide) 1 rfl (fun G C => ?_)
  have hgp := br_gcd_pos (a := a) hb.1
  refine br_iload_n C dX4_inLowestTerms_0 rfl rfl ?_
  refine br_iload_n C dX4_inLowestTerms_1 rfl rfl ?_
  refine br_cs2R C scX4_225 (c_X4_commonDivisor a b ha hb) (by decide) (fun _ => Nat.le_of_ble_eq_true rfl) dX4_inLowestTerms_2 ?_
  refine br_istore_n C dX4_inLowestTerms_5 rfl (by decide) rfl (L' := [_, _, _, _]) rfl ?_
  refine br_iload_n C dX4_inLowestTerms_6 rfl rfl ?_
  refine br_if_neJ C (by omega) dX4_inLowestTerms_7 (tgt := 20) (by decide) (fun c7 => ?_) (fun c7 => ?_)
  · refine br_iload_n C dX4_inLowestTerms_20 rfl rfl ?_
    refine br_if_neJ C (by omega) dX4_inLowestTerms_21 (tgt := 28) (by decide) (fun c21 => ?_) (fun c21 => ?_)
    · refine br_iload_n C dX4_inLowestTerms_28 rfl rfl ?_
      refine br_iload_n C dX4_inLowestTerms_29 rfl rfl ?_
      refine br_idivJ C (by omega) (by omega) dX4_inLowestTerms_30 ?_
      exact br_iret C rfl dX4_inLowestTerms_31 ⟨by first | (exfalso; omega) | (unfold br_lo; rw [if_pos (by omega)]) | (unfold br_lo; rw [if_neg (by omega)]), rfl⟩
    · refine br_iload_n C dX4_inLowestTerms_24 rfl rfl ?_
      refine br_goto C dX4_inLowestTerms_25 (tgt := 29) (by decide) ?_
      refine br_iload_n C dX4_inLowestTerms_29 rfl rfl ?_
      refine br_idivJ C (by omega) (by omega) dX4_inLowestTerms_30 ?_
      exact br_iret C rfl dX4_inLowestTerms_31 ⟨by first | (exfalso; omega) | (unfold br_lo; rw [if_pos (by omega)]) | (unfold br_lo; rw [if_neg (by omega)]), rfl⟩
  · refine br_iload_n C dX4_inLowestTerms_10 rfl rfl ?_
    refine br_if_neJ C (by omega) dX4_inLowestTerms_11 (tgt := 18) (by decide) (fun c11 => ?_) (fun c11 => ?_)
    · refine br_iload_n C dX4_inLowestTerms_18 rfl rfl ?_
      exact br_iret C rfl dX4_inLowestTerms_19 ⟨by first | (exfalso; omega) | (unfold br_lo; rw [if_pos (by omega)]) | (unfold br_lo; rw [if_neg (by omega)]), rfl⟩
    · refine br_iload_n C dX4_inLowestTerms_14 rfl rfl ?_
      refine br_goto C dX4_inLowestTerms_15 (tgt := 19) (by decide) ?_
      exact br_iret C rfl dX4_inLowestTerms_19 ⟨by first | (exfalso; omega) | (unfold br_lo; rw [if_pos (by omega)]) | (unfold br_lo; rw [if_neg (by omega)]), rfl⟩

set_option maxHeartbeats 4000000 in
set_option maxRecDepth 100000 in
theorem c_X4_letter {σ : br_Wd} {A : br_A} (hc : br_CR σ A) (hA : br_Aok A) (z : Int) (hbz : -2147483648 ≤ z ∧ z < 2147483648) : br_Met 1 mX4_letter [br_r 0, br_i (br_J z)] σ (br_QC (br_J (br_sLetter A z).1) (br_sLetter A z).2 σ) := by
  obtain ⟨w, g, r, c, t, n, b, kp, ri, ci, ti⟩ := A
  have hc0 := hc
  obtain ⟨⟨hw, hg, hr, ht⟩, ⟨hcc, hnn, hbb, hkp⟩, him⟩ := hc
  obtain ⟨⟨hwo, hgo, hro, hto⟩, ⟨hb30, hn512⟩, hio⟩ := hA
  have hw1 := hw.1
  have hg1 := hg.1
  have hr1 := hr.1
  have ht1 := ht.1
  have hw30 := hwo.1
  have hg7 := hgo.1
  have h5r := hro.1
  have h8t := hto.1
  have hk4 := fun (j : Nat) (hj : j < g.1) => (hgo.2 j hj).1
  have hrb := fun (j : Nat) (hj : j < r.1) => (show r.2 j < 7 by have := hro.2.1 j hj; omega)
  refine br_ofW (by decide) 0 rfl (fun G C => ?_)
  refine br_iload_n C dX4_letter_0 rfl rfl ?_
  refine br_iconstJ C dX4_letter_1 ?_
  refine br_icmp_ltJ C (by omega) (by omega) dX4_letter_2 (tgt := 11) (by decide) (fun c2 => ?_) (fun c2 => ?_)
  · refine br_bipushJ C (by decide) dX4_letter_11 ?_
    exact br_iret C rfl dX4_letter_13 (by
        rw [show br_sLetter (w, g, r, c, t, n, b, kp, ri, ci, ti) z = (-102, (w, g, r, c, t, n, b, kp, ri, ci, ti)) from if_pos (by omega)]
        exact ⟨rfl, hc0, br_fc.rfl⟩)
  · refine br_iload_n C dX4_letter_5 rfl rfl ?_
    refine br_bipushJ C (by decide) dX4_letter_6 ?_
    refine br_icmp_leJ C (by omega) (by omega) dX4_letter_8 (tgt := 14) (by decide) (fun c8 => ?_) (fun c8 => ?_)
    · refine br_aload_n C dX4_letter_14 rfl rfl ?_
      refine br_getR C fdX4_12 dX4_letter_15 rfl rfl ?_
      refine br_getI C fdX4_68 dX4_letter_18 rfl rfl (by assumption) ?_
      refine br_bipushJ C (by decide) dX4_letter_21 ?_
      refine br_icmp_ltJ C (by omega) (by omega) dX4_letter_23 (tgt := 29) (by decide) (fun c23 => ?_) (fun c23 => ?_)
      · refine br_aload_n C dX4_letter_29 rfl rfl ?_
        refine br_getR C fdX4_12 dX4_letter_30 rfl rfl ?_
        refine br_iload_n C dX4_letter_33 rfl rfl ?_
        have hlt : w.1 < 30 := by omega
        refine br_cv1V C vcX4_71 (c_X1_add hw (by omega) z (by omega) (by omega)) (by decide) rfl rfl (fun _ => Nat.le_of_ble_eq_true rfl) dX4_letter_34 ?_
        refine br_aload_n C dX4_letter_37 rfl rfl ?_
        refine br_getR C fdX4_12 dX4_letter_38 rfl rfl ?_
        refine br_getI C fdX4_68 dX4_letter_41 rfl rfl (x := br_J (w.1 + 1)) rfl ?_
        exact br_iret C rfl dX4_letter_44 (by
            rw [show br_sLetter (w, g, r, c, t, n, b, kp, ri, ci, ti) z = ((w.1 : Int) + 1, ((w.1 + 1, fun j => if j = w.1 then z else w.2 j), g, r, c, t, n, b, kp, ri, ci, ti)) from (if_neg (by omega)).trans (if_neg (by omega))]
            exact ⟨rfl, ⟨⟨⟨rfl, fun j hj => by
              have hj2 : j < w.1 + 1 := hj
              show (if j = w.1 then br_J z else σ.1 2 j) = br_J (if j = w.1 then z else w.2 j)
              by_cases e : j = w.1
              · rw [if_pos e, if_pos e]
              · rw [if_neg e, if_neg e]; exact hw.2 j (by omega)⟩, hg.keep rfl rfl rfl rfl, hr.keep rfl rfl, ht.keep rfl rfl rfl rfl⟩, ⟨hcc, hnn, hbb, hkp⟩, fun h => ⟨(him h).1.keep rfl rfl, (him h).2.1.keep rfl rfl rfl rfl, (him h).2.2⟩⟩, ((br_sm.rfl (qs := [1, 2])).up (by simp)).up (by simp) |>.fc (by decide)⟩)
      · refine br_bipushJ C (by decide) dX4_letter_26 ?_
        exact br_iret C rfl dX4_letter_28 (by
            rw [show br_sLetter (w, g, r, c, t, n, b, kp, ri, ci, ti) z = (-104, (w, g, r, c, t, n, b, kp, ri, ci, ti)) from (if_neg (by omega)).trans (if_pos (by omega))]
            exact ⟨rfl, hc0, br_fc.rfl⟩)
    · refine br_bipushJ C (by decide) dX4_letter_11 ?_
      exact br_iret C rfl dX4_letter_13 (by
          rw [show br_sLetter (w, g, r, c, t, n, b, kp, ri, ci, ti) z = (-102, (w, g, r, c, t, n, b, kp, ri, ci, ti)) from if_pos (by omega)]
          exact ⟨rfl, hc0, br_fc.rfl⟩)

set_option maxHeartbeats 4000000 in
set_option maxRecDepth 100000 in
theorem c_X4_blank {σ : br_Wd} {A : br_A} (hc : br_CR σ A) (hA : br_Aok A) : br_Met 0 mX4_blank [br_r 0] σ (br_QC (br_J (br_sBlank A).1) (br_sBlank A).2 σ) := by
  obtain ⟨w, g, r, c, t, n, b, kp, ri, ci, ti⟩ := A
  have hc0 := hc
  obtain ⟨⟨hw, hg, hr, ht⟩, ⟨hcc, hnn, hbb, hkp⟩, him⟩ := hc
  obtain ⟨⟨hwo, hgo, hro, hto⟩, ⟨hb30, hn512⟩, hio⟩ := hA
  have hw1 := hw.1
  have hg1 := hg.1
  have hr1 := hr.1
  have ht1 := ht.1
  have hw30 := hwo.1
  have hg7 := hgo.1
  have h5r := hro.1
  have h8t := hto.1
  have hk4 := fun (j : Nat) (hj : j < g.1) => (hgo.2 j hj).1
  have hrb := fun (j : Nat) (hj : j < r.1) => (show r.2 j < 7 by have := hro.2.1 j hj; omega)
  refine br_ofW (by decide) 1 rfl (fun G C => ?_)
  refine br_aload_n C dX4_blank_0 rfl rfl ?_
  refine br_getR C fdX4_12 dX4_blank_1 rfl rfl ?_
  refine br_getI C fdX4_68 dX4_blank_4 rfl rfl (by assumption) ?_
  refine br_istore_n C dX4_blank_7 rfl (by decide) rfl (L' := [_, _]) rfl ?_
  refine br_aload_n C dX4_blank_8 rfl rfl ?_
  refine br_getR C fdX4_12 dX4_blank_9 rfl rfl ?_
  refine br_iconstJ C dX4_blank_12 ?_
  refine br_putI C fdX4_68 dX4_blank_13 rfl rfl rfl ?_
  refine br_iload_n C dX4_blank_16 rfl rfl ?_
  exact br_iret C rfl dX4_blank_17 ⟨rfl, ⟨⟨⟨rfl, fun j hj => absurd hj (Nat.not_lt_zero j)⟩, hg.keep rfl rfl rfl rfl, hr.keep rfl rfl, ht.keep rfl rfl rfl rfl⟩, ⟨hcc, hnn, hbb, hkp⟩, fun h => ⟨(him h).1.keep rfl rfl, (him h).2.1.keep rfl rfl rfl rfl, (him h).2.2⟩⟩, (br_sm.rfl (qs := [1])).up (by simp) |>.fc (by decide)⟩

set_option maxHeartbeats 4000000 in
set_option maxRecDepth 100000 in
theorem c_X4_fault {σ : br_Wd} {A : br_A} (hc : br_CR σ A) (hA : br_Aok A) : br_Met 3 mX4_fault [br_r 0] σ (br_R (br_J (br_vFault A)) σ) := by
  obtain ⟨w, g, r, c, t, n, b, kp, ri, ci, ti⟩ := A
  have hc0 := hc
  obtain ⟨⟨hw, hg, hr, ht⟩, ⟨hcc, hnn, hbb, hkp⟩, him⟩ := hc
  obtain ⟨⟨hwo, hgo, hro, hto⟩, ⟨hb30, hn512⟩, hio⟩ := hA
  have hw1 := hw.1
  have hg1 := hg.1
  have hr1 := hr.1
  have ht1 := ht.1
  have hw30 := hwo.1
  have hg7 := hgo.1
  have h5r := hro.1
  have h8t := hto.1
  have hk4 := fun (j : Nat) (hj : j < g.1) => (hgo.2 j hj).1
  have hrb := fun (j : Nat) (hj : j < r.1) => (show r.2 j < 7 by have := hro.2.1 j hj; omega)
  have hcb := fun (j : Nat) (hj : j < w.1) => (show -2147483648 ≤ w.2 j ∧ w.2 j < 2147483648 by have := hwo.2 j hj; omega)
  refine br_ofW (by decide) 0 rfl (fun G C => ?_)
  refine br_aload_n C dX4_fault_0 rfl rfl ?_
  refine br_getR C fdX4_12 dX4_fault_1 rfl rfl ?_
  refine br_cv0R C vcX4_75 (c_X1_firstFault hw (by omega) hcb) (by decide) rfl rfl (fun _ => Nat.le_of_ble_eq_true rfl) dX4_fault_4 ?_
  exact br_iret C rfl dX4_fault_7 ⟨rfl, rfl⟩

set_option maxHeartbeats 4000000 in
set_option maxRecDepth 100000 in
theorem c_X4_piece {σ : br_Wd} {A : br_A} (hc : br_CR σ A) (hA : br_Aok A) (z : Int) (hbz : -2147483648 ≤ z ∧ z < 2147483648) (k : Int) (hbk : -2147483648 ≤ k ∧ k < 2147483648) : br_Met 4 mX4_piece [br_r 0, br_i (br_J z), br_i (br_J k)] σ (br_R (br_vPiece A z k) σ) := by
  obtain ⟨w, g, r, c, t, n, b, kp, ri, ci, ti⟩ := A
  have hc0 := hc
  obtain ⟨⟨hw, hg, hr, ht⟩, ⟨hcc, hnn, hbb, hkp⟩, him⟩ := hc
  obtain ⟨⟨hwo, hgo, hro, hto⟩, ⟨hb30, hn512⟩, hio⟩ := hA
  have hw1 := hw.1
  have hg1 := hg.1
  have hr1 := hr.1
  have ht1 := ht.1
  have hw30 := hwo.1
  have hg7 := hgo.1
  have h5r := hro.1
  have h8t := hto.1
  have hk4 := fun (j : Nat) (hj : j < g.1) => (hgo.2 j hj).1
  have hrb := fun (j : Nat) (hj : j < r.1) => (show r.2 j < 7 by have := hro.2.1 j hj; omega)
  have hpo : -1 ≤ br_po r z ∧ br_po r z < r.1 := br_lst_bnd _ _
  refine br_ofW (by decide) 0 rfl (fun G C => ?_)
  refine br_aload_n C dX4_piece_0 rfl rfl ?_
  refine br_getR C fdX4_19 dX4_piece_1 rfl rfl ?_
  refine br_iload_n C dX4_piece_4 rfl rfl ?_
  refine br_cv1B C vcX4_92 (c_X0_has hg (by omega) z hbz) (by decide) rfl rfl (fun _ => Nat.le_of_ble_eq_true rfl) dX4_piece_5 (fun h5_ => ?_) (fun h5_ => ?_)
  · refine br_if_ne1 C dX4_piece_8 (tgt := 14) (by decide) ?_
    refine br_iload_n C dX4_piece_14 rfl rfl ?_
    rcases (show (k < 0 ∨ 6 < k) ∨ k = 0 ∨ k = 1 ∨ k = 2 ∨ k = 3 ∨ k = 4 ∨ k = 5 ∨ k = 6 by omega) with c15 | rfl | rfl | rfl | rfl | rfl | rfl | rfl
    · refine br_tableOutJ C c15 (by omega) dX4_piece_15 (tgt := 141) (by decide) ?_
      refine br_bipushJ C (by decide) dX4_piece_141 ?_
      exact br_iret C rfl dX4_piece_143 ⟨congrArg (fun x => some (br_i x)) (show _ = br_vPiece (w, g, r, c, t, n, b, kp, ri, ci, ti) z k from ((if_neg (by omega)).trans ((if_neg (by omega)).trans ((if_neg (by omega)).trans ((if_neg (by omega)).trans ((if_neg (by omega)).trans ((if_neg (by omega)).trans ((if_neg (by omega)).trans (if_neg (by omega))))))))).symm), rfl⟩
    · refine br_tableInJ C (by decide) (by decide) (by decide) dX4_piece_15 (off := 41) rfl (tgt := 56) (by decide) ?_
      refine br_aload_n C dX4_piece_56 rfl rfl ?_
      refine br_getR C fdX4_19 dX4_piece_57 rfl rfl ?_
      refine br_iload_n C dX4_piece_60 rfl rfl ?_
      refine br_cv1R C vcX4_96 (c_X0_kindOf hg (by omega) z hbz) (by decide) rfl rfl (fun _ => Nat.le_of_ble_eq_true rfl) dX4_piece_61 ?_
      exact br_iret C rfl dX4_piece_64 ⟨by unfold br_kO; rw [if_pos h5_]; exact congrArg (fun x => some (br_i x)) (show _ = br_vPiece (w, g, r, c, t, n, b, kp, ri, ci, ti) z 0 from ((if_neg (by omega)).trans (if_pos rfl)).symm), rfl⟩
    · refine br_tableInJ C (by decide) (by decide) (by decide) dX4_piece_15 (off := 50) rfl (tgt := 65) (by decide) ?_
      refine br_aload_n C dX4_piece_65 rfl rfl ?_
      refine br_getR C fdX4_19 dX4_piece_66 rfl rfl ?_
      refine br_iload_n C dX4_piece_69 rfl rfl ?_
      refine br_cv1R C vcX4_100 (c_X0_worthOf hg (by omega) z hbz) (by decide) rfl rfl (fun _ => Nat.le_of_ble_eq_true rfl) dX4_piece_70 ?_
      exact br_iret C rfl dX4_piece_73 ⟨by unfold br_wO; rw [if_pos h5_]; exact congrArg (fun x => some (br_i x)) (show _ = br_vPiece (w, g, r, c, t, n, b, kp, ri, ci, ti) z 1 from ((if_neg (by omega)).trans ((if_neg (by decide)).trans (if_pos rfl))).symm), rfl⟩
    · refine br_tableInJ C (by decide) (by decide) (by decide) dX4_piece_15 (off := 59) rfl (tgt := 74) (by decide) ?_
      refine br_aload_n C dX4_piece_74 rfl rfl ?_
      refine br_getR C fdX4_19 dX4_piece_75 rfl rfl ?_
      refine br_iload_n C dX4_piece_78 rfl rfl ?_
      refine br_cv1R C vcX4_103 (c_X0_sureOf hg (by omega) z hbz) (by decide) rfl rfl (fun _ => Nat.le_of_ble_eq_true rfl) dX4_piece_79 ?_
      exact br_iret C rfl dX4_piece_82 ⟨by unfold br_sO; rw [if_pos h5_]; exact congrArg (fun x => some (br_i x)) (show _ = br_vPiece (w, g, r, c, t, n, b, kp, ri, ci, ti) z 2 from ((if_neg (by omega)).trans ((if_neg (by decide)).trans ((if_neg (by decide)).trans (if_pos rfl)))).symm), rfl⟩
    · refine br_tableInJ C (by decide) (by decide) (by decide) dX4_piece_15 (off := 68) rfl (tgt := 83) (by decide) ?_
      refine br_aload_n C dX4_piece_83 rfl rfl ?_
      refine br_getR C fdX4_28 dX4_piece_84 rfl rfl ?_
      refine br_iload_n C dX4_piece_87 rfl rfl ?_
      refine br_cv1R C vcX4_106 (c_X2_placeOf (q := 7) rfl rfl hr h5r hro.2.2 hrb z hbz) (by decide) rfl rfl (fun _ => Nat.le_of_ble_eq_true rfl) dX4_piece_88 ?_
      exact br_iret C rfl dX4_piece_91 ⟨congrArg (fun x => some (br_i x)) (show _ = br_vPiece (w, g, r, c, t, n, b, kp, ri, ci, ti) z 3 from ((if_neg (by omega)).trans ((if_neg (by decide)).trans ((if_neg (by decide)).trans ((if_neg (by decide)).trans (if_pos rfl))))).symm), rfl⟩
    · refine br_tableInJ C (by decide) (by decide) (by decide) dX4_piece_15 (off := 77) rfl (tgt := 92) (by decide) ?_
      refine br_aload_n C dX4_piece_92 rfl rfl ?_
      refine br_getR C fdX4_28 dX4_piece_93 rfl rfl ?_
      refine br_iload_n C dX4_piece_96 rfl rfl ?_
      refine br_cv1B C vcX4_109 (c_X2_holds (q := 7) rfl rfl hr h5r hro.2.2 hrb z hbz) (by decide) rfl rfl (fun _ => Nat.le_of_ble_eq_true rfl) dX4_piece_97 (fun h97 => ?_) (fun h97 => ?_)
      · refine br_if_eq1 C dX4_piece_100 (tgt := 121) (by decide) ?_
        refine br_aload_n C dX4_piece_103 rfl rfl ?_
        refine br_getR C fdX4_28 dX4_piece_104 rfl rfl ?_
        refine br_aload_n C dX4_piece_107 rfl rfl ?_
        refine br_getR C fdX4_28 dX4_piece_108 rfl rfl ?_
        refine br_iload_n C dX4_piece_111 rfl rfl ?_
        refine br_cv1R C vcX4_106 (c_X2_placeOf (q := 7) rfl rfl hr h5r hro.2.2 hrb z hbz) (by decide) rfl rfl (fun _ => Nat.le_of_ble_eq_true rfl) dX4_piece_112 ?_
        have epo : (((br_po r z).toNat : Nat) : Int) = br_po r z := by omega
        have hch := c_X2_chanceAt (q := 7) rfl rfl hg hgo hr hro (br_po r z).toNat (by omega)
        rw [epo] at hch
        refine br_cv1R C vcX4_112 (hch) (by decide) rfl rfl (fun _ => Nat.le_of_ble_eq_true rfl) dX4_piece_115 ?_
        refine br_goto C dX4_piece_118 (tgt := 122) (by decide) ?_
        exact br_iret C rfl dX4_piece_122 ⟨congrArg (fun x => some (br_i x)) (show _ = br_vPiece (w, g, r, c, t, n, b, kp, ri, ci, ti) z 4 from ((if_neg (by omega)).trans ((if_neg (by decide)).trans ((if_neg (by decide)).trans ((if_neg (by decide)).trans ((if_neg (by decide)).trans ((if_pos rfl).trans (by first | rw [if_neg h97] | rw [if_pos (Decidable.not_not.mp h97)]))))))).symm), rfl⟩
      · refine br_if_eq0 C dX4_piece_100 (tgt := 121) (by decide) ?_
        refine br_iconstJ C dX4_piece_121 ?_
        exact br_iret C rfl dX4_piece_122 ⟨congrArg (fun x => some (br_i x)) (show _ = br_vPiece (w, g, r, c, t, n, b, kp, ri, ci, ti) z 4 from ((if_neg (by omega)).trans ((if_neg (by decide)).trans ((if_neg (by decide)).trans ((if_neg (by decide)).trans ((if_neg (by decide)).trans ((if_pos rfl).trans (by first | rw [if_neg h97] | rw [if_pos (Decidable.not_not.mp h97)]))))))).symm), rfl⟩
    · refine br_tableInJ C (by decide) (by decide) (by decide) dX4_piece_15 (off := 108) rfl (tgt := 123) (by decide) ?_
      refine br_aload_n C dX4_piece_123 rfl rfl ?_
      refine br_getR C fdX4_35 dX4_piece_124 rfl rfl ?_
      refine br_iload_n C dX4_piece_127 rfl rfl ?_
      have ez : ((z.toNat : Nat) : Int) = z := by omega
      have hps := c_X3_possibleSures (q := 15) rfl rfl rfl rfl hg hgo ht hto z.toNat (by omega)
      rw [ez] at hps
      refine br_cv1R C vcX4_115 (hps) (by decide) rfl rfl (fun _ => Nat.le_of_ble_eq_true rfl) dX4_piece_128 ?_
      exact br_iret C rfl dX4_piece_131 ⟨congrArg (fun x => some (br_i x)) (show _ = br_vPiece (w, g, r, c, t, n, b, kp, ri, ci, ti) z 5 from ((if_neg (by omega)).trans ((if_neg (by decide)).trans ((if_neg (by decide)).trans ((if_neg (by decide)).trans ((if_neg (by decide)).trans ((if_neg (by decide)).trans (if_pos rfl))))))).symm), rfl⟩
    · refine br_tableInJ C (by decide) (by decide) (by decide) dX4_piece_15 (off := 117) rfl (tgt := 132) (by decide) ?_
      refine br_aload_n C dX4_piece_132 rfl rfl ?_
      refine br_getR C fdX4_35 dX4_piece_133 rfl rfl ?_
      refine br_iload_n C dX4_piece_136 rfl rfl ?_
      have ez : ((z.toNat : Nat) : Int) = z := by omega
      have hls := c_X3_likeliestSure (q := 15) rfl rfl rfl rfl hg hgo ht hto z.toNat (by omega)
      rw [ez] at hls
      refine br_cv1R C vcX4_118 (hls) (by decide) rfl rfl (fun _ => Nat.le_of_ble_eq_true rfl) dX4_piece_137 ?_
      exact br_iret C rfl dX4_piece_140 ⟨congrArg (fun x => some (br_i x)) (show _ = br_vPiece (w, g, r, c, t, n, b, kp, ri, ci, ti) z 6 from ((if_neg (by omega)).trans ((if_neg (by decide)).trans ((if_neg (by decide)).trans ((if_neg (by decide)).trans ((if_neg (by decide)).trans ((if_neg (by decide)).trans ((if_neg (by decide)).trans (if_pos rfl)))))))).symm), rfl⟩
  · refine br_if_ne0 C dX4_piece_8 (tgt := 14) (by decide) ?_
    refine br_bipushJ C (by decide) dX4_piece_11 ?_
    exact br_iret C rfl dX4_piece_13 ⟨congrArg (fun x => some (br_i x)) (show br_J (-101) = br_vPiece (w, g, r, c, t, n, b, kp, ri, ci, ti) z k from (if_pos h5_).symm), rfl⟩

set_option maxHeartbeats 4000000 in
set_option maxRecDepth 100000 in
theorem c_X4_as {σ : br_Wd} {A : br_A} (hc : br_CR σ A) (hA : br_Aok A) (z : Int) (hbz : -2147483648 ≤ z ∧ z < 2147483648) (kd : Int) (hbkd : -2147483648 ≤ kd ∧ kd < 2147483648) : br_Met 2 mX4_as [br_r 0, br_i (br_J z), br_i (br_J kd)] σ (br_R (br_J (br_vAs A z kd)) σ) := by
  obtain ⟨w, g, r, c, t, n, b, kp, ri, ci, ti⟩ := A
  have hc0 := hc
  obtain ⟨⟨hw, hg, hr, ht⟩, ⟨hcc, hnn, hbb, hkp⟩, him⟩ := hc
  obtain ⟨⟨hwo, hgo, hro, hto⟩, ⟨hb30, hn512⟩, hio⟩ := hA
  have hw1 := hw.1
  have hg1 := hg.1
  have hr1 := hr.1
  have ht1 := ht.1
  have hw30 := hwo.1
  have hg7 := hgo.1
  have h5r := hro.1
  have h8t := hto.1
  have hk4 := fun (j : Nat) (hj : j < g.1) => (hgo.2 j hj).1
  have hrb := fun (j : Nat) (hj : j < r.1) => (show r.2 j < 7 by have := hro.2.1 j hj; omega)
  refine br_ofW (by decide) 0 rfl (fun G C => ?_)
  refine br_aload_n C dX4_as_0 rfl rfl ?_
  refine br_getR C fdX4_19 dX4_as_1 rfl rfl ?_
  refine br_iload_n C dX4_as_4 rfl rfl ?_
  refine br_cv1B C vcX4_92 (c_X0_has hg (by omega) z hbz) (by decide) rfl rfl (fun _ => Nat.le_of_ble_eq_true rfl) dX4_as_5 (fun h5_ => ?_) (fun h5_ => ?_)
  · refine br_if_ne1 C dX4_as_8 (tgt := 14) (by decide) ?_
    refine br_iload_n C dX4_as_14 rfl rfl ?_
    refine br_if_ltJ C (by omega) dX4_as_15 (tgt := 23) (by decide) (fun c15 => ?_) (fun c15 => ?_)
    · refine br_bipushJ C (by decide) dX4_as_23 ?_
      exact br_iret C rfl dX4_as_25 ⟨congrArg (fun x => some (br_i (br_J x))) (show _ = br_vAs (w, g, r, c, t, n, b, kp, ri, ci, ti) z kd from ((if_neg (by omega)).trans (if_pos (by omega))).symm), rfl⟩
    · refine br_iload_n C dX4_as_18 rfl rfl ?_
      refine br_iconstJ C dX4_as_19 ?_
      refine br_icmp_leJ C (by omega) (by omega) dX4_as_20 (tgt := 26) (by decide) (fun c20 => ?_) (fun c20 => ?_)
      · refine br_aload_n C dX4_as_26 rfl rfl ?_
        refine br_getR C fdX4_19 dX4_as_27 rfl rfl ?_
        refine br_iload_n C dX4_as_30 rfl rfl ?_
        refine br_iload_n C dX4_as_31 rfl rfl ?_
        refine br_cv2B C vcX4_121 (c_X0_isA hg (by omega) hk4 z kd hbz hbkd) (by decide) rfl rfl (fun _ => Nat.le_of_ble_eq_true rfl) dX4_as_32 (fun h32 => ?_) (fun h32 => ?_)
        · refine br_if_eq1 C dX4_as_35 (tgt := 42) (by decide) ?_
          refine br_iload_n C dX4_as_38 rfl rfl ?_
          refine br_goto C dX4_as_39 (tgt := 43) (by decide) ?_
          exact br_iret C rfl dX4_as_43 ⟨congrArg (fun x => some (br_i (br_J x))) (show _ = br_vAs (w, g, r, c, t, n, b, kp, ri, ci, ti) z kd from ((if_neg (by omega)).trans ((if_neg (by omega)).trans (by first | rw [if_pos h32] | rw [if_neg h32]))).symm), rfl⟩
        · refine br_if_eq0 C dX4_as_35 (tgt := 42) (by decide) ?_
          refine br_iconstJ C dX4_as_42 ?_
          exact br_iret C rfl dX4_as_43 ⟨congrArg (fun x => some (br_i (br_J x))) (show _ = br_vAs (w, g, r, c, t, n, b, kp, ri, ci, ti) z kd from ((if_neg (by omega)).trans ((if_neg (by omega)).trans (by first | rw [if_pos h32] | rw [if_neg h32]))).symm), rfl⟩
      · refine br_bipushJ C (by decide) dX4_as_23 ?_
        exact br_iret C rfl dX4_as_25 ⟨congrArg (fun x => some (br_i (br_J x))) (show _ = br_vAs (w, g, r, c, t, n, b, kp, ri, ci, ti) z kd from ((if_neg (by omega)).trans (if_pos (by omega))).symm), rfl⟩
  · refine br_if_ne0 C dX4_as_8 (tgt := 14) (by decide) ?_
    refine br_bipushJ C (by decide) dX4_as_11 ?_
    exact br_iret C rfl dX4_as_13 ⟨congrArg (fun x => some (br_i (br_J x))) (show _ = br_vAs (w, g, r, c, t, n, b, kp, ri, ci, ti) z kd from (if_pos (by omega)).symm), rfl⟩

set_option maxHeartbeats 4000000 in
set_option maxRecDepth 100000 in
theorem c_X4_put {σ : br_Wd} {A : br_A} (hc : br_CR σ A) (hA : br_Aok A) (z : Int) (hbz : -2147483648 ≤ z ∧ z < 2147483648) : br_Met 2 mX4_put [br_r 0, br_i (br_J z)] σ (br_QC (br_J (br_sPut A z).1) (br_sPut A z).2 σ) := by
  obtain ⟨w, g, r, c, t, n, b, kp, ri, ci, ti⟩ := A
  have hc0 := hc
  obtain ⟨⟨hw, hg, hr, ht⟩, ⟨hcc, hnn, hbb, hkp⟩, him⟩ := hc
  obtain ⟨⟨hwo, hgo, hro, hto⟩, ⟨hb30, hn512⟩, hio⟩ := hA
  have hw1 := hw.1
  have hg1 := hg.1
  have hr1 := hr.1
  have ht1 := ht.1
  have hw30 := hwo.1
  have hg7 := hgo.1
  have h5r := hro.1
  have h8t := hto.1
  have hk4 := fun (j : Nat) (hj : j < g.1) => (hgo.2 j hj).1
  have hrb := fun (j : Nat) (hj : j < r.1) => (show r.2 j < 7 by have := hro.2.1 j hj; omega)
  have hpo : -1 ≤ br_po r z ∧ br_po r z < r.1 := br_lst_bnd _ _
  refine br_ofW (by decide) 0 rfl (fun G C => ?_)
  refine br_aload_n C dX4_put_0 rfl rfl ?_
  refine br_getR C fdX4_19 dX4_put_1 rfl rfl ?_
  refine br_iload_n C dX4_put_4 rfl rfl ?_
  refine br_cv1B C vcX4_92 (c_X0_has hg (by omega) z hbz) (by decide) rfl rfl (fun _ => Nat.le_of_ble_eq_true rfl) dX4_put_5 (fun h5_ => ?_) (fun h5_ => ?_)
  · refine br_if_ne1 C dX4_put_8 (tgt := 14) (by decide) ?_
    refine br_aload_n C dX4_put_14 rfl rfl ?_
    refine br_getR C fdX4_28 dX4_put_15 rfl rfl ?_
    refine br_iload_n C dX4_put_18 rfl rfl ?_
    refine br_cv1B C vcX4_109 (c_X2_holds (q := 7) rfl rfl hr h5r hro.2.2 hrb z hbz) (by decide) rfl rfl (fun _ => Nat.le_of_ble_eq_true rfl) dX4_put_19 (fun h19 => ?_) (fun h19 => ?_)
    · refine br_if_eq1 C dX4_put_22 (tgt := 28) (by decide) ?_
      refine br_bipushJ C (by decide) dX4_put_25 ?_
      exact br_iret C rfl dX4_put_27 (by
          rw [show br_sPut (w, g, r, c, t, n, b, kp, ri, ci, ti) z = (-103, (w, g, r, c, t, n, b, kp, ri, ci, ti)) from (if_neg (by omega)).trans (if_pos h19)]
          exact ⟨rfl, hc0, br_fc.rfl⟩)
    · refine br_if_eq0 C dX4_put_22 (tgt := 28) (by decide) ?_
      refine br_aload_n C dX4_put_28 rfl rfl ?_
      refine br_getR C fdX4_28 dX4_put_29 rfl rfl ?_
      refine br_getI C fdX4_87 dX4_put_32 rfl rfl (by assumption) ?_
      refine br_iconstJ C dX4_put_35 ?_
      refine br_icmp_ltJ C (by omega) (by omega) dX4_put_36 (tgt := 42) (by decide) (fun c36 => ?_) (fun c36 => ?_)
      · refine br_aload_n C dX4_put_42 rfl rfl ?_
        refine br_getR C fdX4_28 dX4_put_43 rfl rfl ?_
        refine br_iload_n C dX4_put_46 rfl rfl ?_
        have ez : ((z.toNat : Nat) : Int) = z := by omega
        have hap := c_X2_append (q := 7) rfl rfl hr h5r z.toNat (by omega)
        rw [ez] at hap
        refine br_cv1 C vcX4_125 (hap) (by decide) rfl rfl (fun _ => Nat.le_of_ble_eq_true rfl) dX4_put_47 (fun v47 τ47 hv => ?_)
        obtain ⟨rfl, hr2, hsm⟩ := hv
        refine br_aload_n C dX4_put_50 rfl rfl ?_
        refine br_dup C dX4_put_51 rfl ?_
        refine br_getI C fdX4_39 dX4_put_52 rfl rfl (x := br_J c) ((congrFun (hsm.1 0 (by decide)) 4).trans hcc) ?_
        refine br_iconstJ C dX4_put_55 ?_
        refine br_iaddJ C dX4_put_56 ?_
        refine br_putI C fdX4_39 dX4_put_57 rfl rfl rfl ?_
        refine br_aload_n C dX4_put_60 rfl rfl ?_
        refine br_getR C fdX4_28 dX4_put_61 rfl rfl ?_
        refine br_getI C fdX4_87 dX4_put_64 rfl rfl (x := br_J (r.1 + 1)) (by rw [show ((r.1 : Int) + 1) = ((r.1 + 1 : Nat) : Int) from rfl]; exact hr2.1) ?_
        refine br_iconstJ C dX4_put_67 ?_
        refine br_isubJ C dX4_put_68 ?_
        exact br_iret C rfl dX4_put_69 (by
            rw [show br_sPut (w, g, r, c, t, n, b, kp, ri, ci, ti) z = ((r.1 : Int), (w, g, br_app r z.toNat, c + 1, t, n, b, kp, ri, ci, ti)) from (if_neg (by omega)).trans ((if_neg h19).trans (if_neg (by omega)))]
            exact ⟨by rw [show (r.1 : Int) + 1 - 1 = r.1 by omega], ⟨⟨hw.keep (hsm.1 1 (by decide)) (hsm.1 2 (by decide)), hg.keep (hsm.1 3 (by decide)) (hsm.1 4 (by decide)) (hsm.1 5 (by decide)) (hsm.1 6 (by decide)), hr2.keep rfl rfl, ht.keep (hsm.1 15 (by decide)) (hsm.1 16 (by decide)) (hsm.1 17 (by decide)) (hsm.1 18 (by decide))⟩, ⟨rfl, (congrFun (hsm.1 0 (by decide)) 11).trans hnn, (congrFun (hsm.1 0 (by decide)) 12).trans hbb, (congrFun (hsm.1 0 (by decide)) 5).trans hkp⟩, fun h => ⟨(him h).1.keep (hsm.1 9 (by decide)) (hsm.1 10 (by decide)), (him h).2.1.keep (hsm.1 19 (by decide)) (hsm.1 20 (by decide)) (hsm.1 21 (by decide)) (hsm.1 22 (by decide)), (congrFun (hsm.1 0 (by decide)) 8).trans (him h).2.2⟩⟩, ((hsm.mono (qs' := [0, 7, 8]) (by decide)).up (by simp)).fc (by decide)⟩)
      · refine br_bipushJ C (by decide) dX4_put_39 ?_
        exact br_iret C rfl dX4_put_41 (by
            rw [show br_sPut (w, g, r, c, t, n, b, kp, ri, ci, ti) z = (-104, (w, g, r, c, t, n, b, kp, ri, ci, ti)) from (if_neg (by omega)).trans ((if_neg h19).trans (if_pos (by omega)))]
            exact ⟨rfl, hc0, br_fc.rfl⟩)
  · refine br_if_ne0 C dX4_put_8 (tgt := 14) (by decide) ?_
    refine br_bipushJ C (by decide) dX4_put_11 ?_
    exact br_iret C rfl dX4_put_13 (by
        rw [show br_sPut (w, g, r, c, t, n, b, kp, ri, ci, ti) z = (-101, (w, g, r, c, t, n, b, kp, ri, ci, ti)) from if_pos (by omega)]
        exact ⟨rfl, hc0, br_fc.rfl⟩)

set_option maxHeartbeats 4000000 in
set_option maxRecDepth 100000 in
theorem c_X4_take {σ : br_Wd} {A : br_A} (hc : br_CR σ A) (hA : br_Aok A) (z : Int) (hbz : -2147483648 ≤ z ∧ z < 2147483648) : br_Met 2 mX4_take [br_r 0, br_i (br_J z)] σ (br_QC (br_J (br_sTake A z).1) (br_sTake A z).2 σ) := by
  obtain ⟨w, g, r, c, t, n, b, kp, ri, ci, ti⟩ := A
  have hc0 := hc
  obtain ⟨⟨hw, hg, hr, ht⟩, ⟨hcc, hnn, hbb, hkp⟩, him⟩ := hc
  obtain ⟨⟨hwo, hgo, hro, hto⟩, ⟨hb30, hn512⟩, hio⟩ := hA
  have hw1 := hw.1
  have hg1 := hg.1
  have hr1 := hr.1
  have ht1 := ht.1
  have hw30 := hwo.1
  have hg7 := hgo.1
  have h5r := hro.1
  have h8t := hto.1
  have hk4 := fun (j : Nat) (hj : j < g.1) => (hgo.2 j hj).1
  have hrb := fun (j : Nat) (hj : j < r.1) => (show r.2 j < 7 by have := hro.2.1 j hj; omega)
  have hpo : -1 ≤ br_po r z ∧ br_po r z < r.1 := br_lst_bnd _ _
  refine br_ofW (by decide) 0 rfl (fun G C => ?_)
  refine br_aload_n C dX4_take_0 rfl rfl ?_
  refine br_getR C fdX4_28 dX4_take_1 rfl rfl ?_
  refine br_iload_n C dX4_take_4 rfl rfl ?_
  refine br_cv1B C vcX4_128 (c_X2_reaches (q := 7) rfl rfl hr h5r z hbz) (by decide) rfl rfl (fun _ => Nat.le_of_ble_eq_true rfl) dX4_take_5 (fun h5_ => ?_) (fun h5_ => ?_)
  · refine br_if_ne1 C dX4_take_8 (tgt := 14) (by decide) ?_
    refine br_aload_n C dX4_take_14 rfl rfl ?_
    refine br_dup C dX4_take_15 rfl ?_
    refine br_getI C fdX4_39 dX4_take_16 rfl rfl (by assumption) ?_
    refine br_iconstJ C dX4_take_19 ?_
    refine br_iaddJ C dX4_take_20 ?_
    refine br_putI C fdX4_39 dX4_take_21 rfl rfl rfl ?_
    refine br_aload_n C dX4_take_24 rfl rfl ?_
    refine br_getR C fdX4_28 dX4_take_25 rfl rfl ?_
    refine br_iload_n C dX4_take_28 rfl rfl ?_
    have ez : ((z.toNat : Nat) : Int) = z := by omega
    have hrm := c_X2_removeAt (q := 7) rfl rfl (br_RC.keep (q := 7) (τ := br_up σ 0 4 (br_J (c + 1))) hr rfl rfl) h5r z.toNat (by omega)
    rw [ez] at hrm
    refine br_cv1 C vcX4_131 (hrm) (by decide) rfl rfl (fun _ => Nat.le_of_ble_eq_true rfl) dX4_take_29 (fun v29 τ29 hv => ?_)
    obtain ⟨rfl, hr2, hsm⟩ := hv
    exact br_iret C rfl dX4_take_32 (by
        rw [show br_sTake (w, g, r, c, t, n, b, kp, ri, ci, ti) z = (((r.2 z.toNat : Nat) : Int), (w, g, br_rem r z.toNat, c + 1, t, n, b, kp, ri, ci, ti)) from if_neg (by omega)]
        exact ⟨rfl, ⟨⟨hw.keep (hsm.1 1 (by decide)) (hsm.1 2 (by decide)), hg.keep (hsm.1 3 (by decide)) (hsm.1 4 (by decide)) (hsm.1 5 (by decide)) (hsm.1 6 (by decide)), hr2, ht.keep (hsm.1 15 (by decide)) (hsm.1 16 (by decide)) (hsm.1 17 (by decide)) (hsm.1 18 (by decide))⟩, ⟨(congrFun (hsm.1 0 (by decide)) 4), (congrFun (hsm.1 0 (by decide)) 11).trans hnn, (congrFun (hsm.1 0 (by decide)) 12).trans hbb, (congrFun (hsm.1 0 (by decide)) 5).trans hkp⟩, fun h => ⟨(him h).1.keep (hsm.1 9 (by decide)) (hsm.1 10 (by decide)), (him h).2.1.keep (hsm.1 19 (by decide)) (hsm.1 20 (by decide)) (hsm.1 21 (by decide)) (hsm.1 22 (by decide)), (congrFun (hsm.1 0 (by decide)) 8).trans (him h).2.2⟩⟩, (((br_sm.rfl (qs := [0, 7, 8])).up (by simp)).trans (hsm.mono (by decide))).fc (by decide)⟩)
  · refine br_if_ne0 C dX4_take_8 (tgt := 14) (by decide) ?_
    refine br_bipushJ C (by decide) dX4_take_11 ?_
    exact br_iret C rfl dX4_take_13 (by
        rw [show br_sTake (w, g, r, c, t, n, b, kp, ri, ci, ti) z = (-101, (w, g, r, c, t, n, b, kp, ri, ci, ti)) from if_pos (by omega)]
        exact ⟨rfl, hc0, br_fc.rfl⟩)

set_option maxHeartbeats 4000000 in
set_option maxRecDepth 100000 in
theorem c_X4_swap {σ : br_Wd} {A : br_A} (hc : br_CR σ A) (hA : br_Aok A) (x : Int) (hbx : -2147483648 ≤ x ∧ x < 2147483648) (y : Int) (hby : -2147483648 ≤ y ∧ y < 2147483648) : br_Met 2 mX4_swap [br_r 0, br_i (br_J x), br_i (br_J y)] σ (br_QC (br_J (br_sSwap A x y).1) (br_sSwap A x y).2 σ) := by
  obtain ⟨w, g, r, c, t, n, b, kp, ri, ci, ti⟩ := A
  have hc0 := hc
  obtain ⟨⟨hw, hg, hr, ht⟩, ⟨hcc, hnn, hbb, hkp⟩, him⟩ := hc
  obtain ⟨⟨hwo, hgo, hro, hto⟩, ⟨hb30, hn512⟩, hio⟩ := hA
  have hw1 := hw.1
  have hg1 := hg.1
  have hr1 := hr.1
  have ht1 := ht.1
  have hw30 := hwo.1
  have hg7 := hgo.1
  have h5r := hro.1
  have h8t := hto.1
  have hk4 := fun (j : Nat) (hj : j < g.1) => (hgo.2 j hj).1
  have hrb := fun (j : Nat) (hj : j < r.1) => (show r.2 j < 7 by have := hro.2.1 j hj; omega)
  have hpo : -1 ≤ br_po r x ∧ br_po r x < r.1 := br_lst_bnd _ _
  refine br_ofW (by decide) 0 rfl (fun G C => ?_)
  refine br_aload_n C dX4_swap_0 rfl rfl ?_
  refine br_getR C fdX4_28 dX4_swap_1 rfl rfl ?_
  refine br_iload_n C dX4_swap_4 rfl rfl ?_
  refine br_cv1B C vcX4_128 (c_X2_reaches (q := 7) rfl rfl hr h5r x hbx) (by decide) rfl rfl (fun _ => Nat.le_of_ble_eq_true rfl) dX4_swap_5 (fun h5_ => ?_) (fun h5_ => ?_)
  · refine br_if_eq1 C dX4_swap_8 (tgt := 22) (by decide) ?_
    refine br_aload_n C dX4_swap_11 rfl rfl ?_
    refine br_getR C fdX4_28 dX4_swap_12 rfl rfl ?_
    refine br_iload_n C dX4_swap_15 rfl rfl ?_
    refine br_cv1B C vcX4_128 (c_X2_reaches (q := 7) rfl rfl hr h5r y hby) (by decide) rfl rfl (fun _ => Nat.le_of_ble_eq_true rfl) dX4_swap_16 (fun h16 => ?_) (fun h16 => ?_)
    · refine br_if_ne1 C dX4_swap_19 (tgt := 25) (by decide) ?_
      refine br_aload_n C dX4_swap_25 rfl rfl ?_
      refine br_getR C fdX4_28 dX4_swap_26 rfl rfl ?_
      refine br_iload_n C dX4_swap_29 rfl rfl ?_
      refine br_iload_n C dX4_swap_30 rfl rfl ?_
      have ex : ((x.toNat : Nat) : Int) = x := by omega
      have ey : ((y.toNat : Nat) : Int) = y := by omega
      have hex := c_X2_exchange (q := 7) rfl rfl hr h5r x.toNat y.toNat (by omega) (by omega)
      rw [ex, ey] at hex
      refine br_cv2 C vcX4_134 (hex) (by decide) rfl rfl (fun _ => Nat.le_of_ble_eq_true rfl) dX4_swap_31 (fun v31 τ31 hv => ?_)
      obtain ⟨rfl, hr2, hsm⟩ := hv
      refine br_aload_n C dX4_swap_34 rfl rfl ?_
      refine br_dup C dX4_swap_35 rfl ?_
      refine br_getI C fdX4_39 dX4_swap_36 rfl rfl (x := br_J c) ((congrFun (hsm.1 0 (by decide)) 4).trans hcc) ?_
      refine br_iconstJ C dX4_swap_39 ?_
      refine br_iaddJ C dX4_swap_40 ?_
      refine br_putI C fdX4_39 dX4_swap_41 rfl rfl rfl ?_
      refine br_aload_n C dX4_swap_44 rfl rfl ?_
      refine br_getI C fdX4_39 dX4_swap_45 rfl rfl (x := br_J (c + 1)) rfl ?_
      exact br_iret C rfl dX4_swap_48 (by
          rw [show br_sSwap (w, g, r, c, t, n, b, kp, ri, ci, ti) x y = (c + 1, (w, g, br_swp r x.toNat y.toNat, c + 1, t, n, b, kp, ri, ci, ti)) from if_neg (by omega)]
          exact ⟨rfl, ⟨⟨hw.keep (hsm.1 1 (by decide)) (hsm.1 2 (by decide)), hg.keep (hsm.1 3 (by decide)) (hsm.1 4 (by decide)) (hsm.1 5 (by decide)) (hsm.1 6 (by decide)), hr2.keep rfl rfl, ht.keep (hsm.1 15 (by decide)) (hsm.1 16 (by decide)) (hsm.1 17 (by decide)) (hsm.1 18 (by decide))⟩, ⟨rfl, (congrFun (hsm.1 0 (by decide)) 11).trans hnn, (congrFun (hsm.1 0 (by decide)) 12).trans hbb, (congrFun (hsm.1 0 (by decide)) 5).trans hkp⟩, fun h => ⟨(him h).1.keep (hsm.1 9 (by decide)) (hsm.1 10 (by decide)), (him h).2.1.keep (hsm.1 19 (by decide)) (hsm.1 20 (by decide)) (hsm.1 21 (by decide)) (hsm.1 22 (by decide)), (congrFun (hsm.1 0 (by decide)) 8).trans (him h).2.2⟩⟩, ((hsm.mono (qs' := [0, 7, 8]) (by decide)).up (by simp)).fc (by decide)⟩)
    · refine br_if_ne0 C dX4_swap_19 (tgt := 25) (by decide) ?_
      refine br_bipushJ C (by decide) dX4_swap_22 ?_
      exact br_iret C rfl dX4_swap_24 (by
          rw [show br_sSwap (w, g, r, c, t, n, b, kp, ri, ci, ti) x y = (-101, (w, g, r, c, t, n, b, kp, ri, ci, ti)) from if_pos (by omega)]
          exact ⟨rfl, hc0, br_fc.rfl⟩)
  · refine br_if_eq0 C dX4_swap_8 (tgt := 22) (by decide) ?_
    refine br_bipushJ C (by decide) dX4_swap_22 ?_
    exact br_iret C rfl dX4_swap_24 (by
        rw [show br_sSwap (w, g, r, c, t, n, b, kp, ri, ci, ti) x y = (-101, (w, g, r, c, t, n, b, kp, ri, ci, ti)) from if_pos (by omega)]
        exact ⟨rfl, hc0, br_fc.rfl⟩)

set_option maxHeartbeats 4000000 in
set_option maxRecDepth 100000 in
theorem c_X4_at {σ : br_Wd} {A : br_A} (hc : br_CR σ A) (hA : br_Aok A) (z : Int) (hbz : -2147483648 ≤ z ∧ z < 2147483648) : br_Met 2 mX4_at [br_r 0, br_i (br_J z)] σ (br_R (br_J (br_vAt A z)) σ) := by
  obtain ⟨w, g, r, c, t, n, b, kp, ri, ci, ti⟩ := A
  have hc0 := hc
  obtain ⟨⟨hw, hg, hr, ht⟩, ⟨hcc, hnn, hbb, hkp⟩, him⟩ := hc
  obtain ⟨⟨hwo, hgo, hro, hto⟩, ⟨hb30, hn512⟩, hio⟩ := hA
  have hw1 := hw.1
  have hg1 := hg.1
  have hr1 := hr.1
  have ht1 := ht.1
  have hw30 := hwo.1
  have hg7 := hgo.1
  have h5r := hro.1
  have h8t := hto.1
  have hk4 := fun (j : Nat) (hj : j < g.1) => (hgo.2 j hj).1
  have hrb := fun (j : Nat) (hj : j < r.1) => (show r.2 j < 7 by have := hro.2.1 j hj; omega)
  refine br_ofW (by decide) 0 rfl (fun G C => ?_)
  refine br_aload_n C dX4_at_0 rfl rfl ?_
  refine br_getR C fdX4_28 dX4_at_1 rfl rfl ?_
  refine br_iload_n C dX4_at_4 rfl rfl ?_
  refine br_cv1B C vcX4_128 (c_X2_reaches (q := 7) rfl rfl hr h5r z hbz) (by decide) rfl rfl (fun _ => Nat.le_of_ble_eq_true rfl) dX4_at_5 (fun h5_ => ?_) (fun h5_ => ?_)
  · refine br_if_eq1 C dX4_at_8 (tgt := 22) (by decide) ?_
    refine br_aload_n C dX4_at_11 rfl rfl ?_
    refine br_getR C fdX4_28 dX4_at_12 rfl rfl ?_
    refine br_iload_n C dX4_at_15 rfl rfl ?_
    refine br_cv1R C vcX4_138 (c_X2_pieceAt (q := 7) rfl rfl hr h5r z hbz) (by decide) rfl rfl (fun _ => Nat.le_of_ble_eq_true rfl) dX4_at_16 ?_
    refine br_goto C dX4_at_19 (tgt := 24) (by decide) ?_
    exact br_iret C rfl dX4_at_24 ⟨congrArg (fun x => some (br_i (br_J x))) (show _ = br_vAt (w, g, r, c, t, n, b, kp, ri, ci, ti) z from by first | exact (if_neg h5_).symm | (unfold br_pO; rw [if_pos h5_]; exact (if_pos h5_).symm)), rfl⟩
  · refine br_if_eq0 C dX4_at_8 (tgt := 22) (by decide) ?_
    refine br_bipushJ C (by decide) dX4_at_22 ?_
    exact br_iret C rfl dX4_at_24 ⟨congrArg (fun x => some (br_i (br_J x))) (show _ = br_vAt (w, g, r, c, t, n, b, kp, ri, ci, ti) z from by first | exact (if_neg h5_).symm | (unfold br_pO; rw [if_pos h5_]; exact (if_pos h5_).symm)), rfl⟩

set_option maxHeartbeats 4000000 in
set_option maxRecDepth 100000 in
theorem c_X4_score {σ : br_Wd} {A : br_A} (hc : br_CR σ A) (hA : br_Aok A) (z : Int) (hbz : -2147483648 ≤ z ∧ z < 2147483648) : br_Met 5 mX4_score [br_r 0, br_i (br_J z)] σ (br_R (br_J (br_vScore A z)) σ) := by
  obtain ⟨w, g, r, c, t, n, b, kp, ri, ci, ti⟩ := A
  have hc0 := hc
  have hA0 := hA
  obtain ⟨⟨hw, hg, hr, ht⟩, ⟨hcc, hnn, hbb, hkp⟩, him⟩ := hc
  obtain ⟨⟨hwo, hgo, hro, hto⟩, ⟨hb30, hn512⟩, hio⟩ := hA
  have hw1 := hw.1
  have hg1 := hg.1
  have hr1 := hr.1
  have ht1 := ht.1
  have hw30 := hwo.1
  have hg7 := hgo.1
  have h5r := hro.1
  have h8t := hto.1
  have hk4 := fun (j : Nat) (hj : j < g.1) => (hgo.2 j hj).1
  have hrb := fun (j : Nat) (hj : j < r.1) => (show r.2 j < 7 by have := hro.2.1 j hj; omega)
  refine br_ofW (by decide) 0 rfl (fun G C => ?_)
  have hp2 := br_pow2 h5r
  refine br_iload_n C dX4_score_0 rfl rfl ?_
  refine br_if_ltJ C (by omega) dX4_score_1 (tgt := 17) (by decide) (fun c1 => ?_) (fun c1 => ?_)
  · refine br_bipushJ C (by decide) dX4_score_17 ?_
    exact br_iret C rfl dX4_score_19 ⟨congrArg (fun x => some (br_i (br_J x))) (show _ = br_vScore (w, g, r, c, t, n, b, kp, ri, ci, ti) z from (if_pos (by omega)).symm), rfl⟩
  · refine br_iload_n C dX4_score_4 rfl rfl ?_
    refine br_iconstJ C dX4_score_5 ?_
    refine br_aload_n C dX4_score_6 rfl rfl ?_
    refine br_getR C fdX4_28 dX4_score_7 rfl rfl ?_
    refine br_getI C fdX4_87 dX4_score_10 rfl rfl (by assumption) ?_
    refine br_ishlE C (br_shl1 h5r) dX4_score_13 ?_
    refine br_icmp_ltJ C (by omega) (by omega) dX4_score_14 (tgt := 20) (by decide) (fun c14 => ?_) (fun c14 => ?_)
    · refine br_aload_n C dX4_score_20 rfl rfl ?_
      refine br_cv0B C vcX4_141 (c_X4_noGym (A := (w, g, r, c, t, n, b, kp, ri, ci, ti)) hc0 hA0) (by decide) rfl rfl (fun _ => Nat.le_of_ble_eq_true rfl) dX4_score_21 (fun h21 => ?_) (fun h21 => ?_)
      · refine br_if_eq1 C dX4_score_24 (tgt := 30) (by decide) ?_
        refine br_bipushJ C (by decide) dX4_score_27 ?_
        exact br_iret C rfl dX4_score_29 ⟨congrArg (fun x => some (br_i (br_J x))) (show _ = br_vScore (w, g, r, c, t, n, b, kp, ri, ci, ti) z from ((if_neg (by omega)).trans (if_pos h21)).symm), rfl⟩
      · refine br_if_eq0 C dX4_score_24 (tgt := 30) (by decide) ?_
        refine br_aload_n C dX4_score_30 rfl rfl ?_
        refine br_getR C fdX4_28 dX4_score_31 rfl rfl ?_
        refine br_iload_n C dX4_score_34 rfl rfl ?_
        have ez : ((z.toNat : Nat) : Int) = z := by omega
        have hpt := c_X2_points (q := 7) rfl rfl hg hgo hr hro z.toNat (by omega)
        rw [ez] at hpt
        refine br_cv1R C vcX4_144 (hpt) (by decide) rfl rfl (fun _ => Nat.le_of_ble_eq_true rfl) dX4_score_35 ?_
        refine br_sipushJ C (by decide) dX4_score_38 ?_
        refine br_iaddJ C dX4_score_41 ?_
        exact br_iret C rfl dX4_score_42 ⟨congrArg (fun x => some (br_i (br_J x))) (show _ = br_vScore (w, g, r, c, t, n, b, kp, ri, ci, ti) z from ((if_neg (by omega)).trans (if_neg h21)).symm), rfl⟩
    · refine br_bipushJ C (by decide) dX4_score_17 ?_
      exact br_iret C rfl dX4_score_19 ⟨congrArg (fun x => some (br_i (br_J x))) (show _ = br_vScore (w, g, r, c, t, n, b, kp, ri, ci, ti) z from (if_pos (by omega)).symm), rfl⟩

set_option maxHeartbeats 4000000 in
set_option maxRecDepth 100000 in
theorem c_X4_mean {σ : br_Wd} {A : br_A} (hc : br_CR σ A) (hA : br_Aok A) (k : Int) (hbk : -2147483648 ≤ k ∧ k < 2147483648) : br_Met 5 mX4_mean [br_r 0, br_i (br_J k)] σ (br_R (br_J (br_vMean A k)) σ) := by
  obtain ⟨w, g, r, c, t, n, b, kp, ri, ci, ti⟩ := A
  have hc0 := hc
  have hA0 := hA
  obtain ⟨⟨hw, hg, hr, ht⟩, ⟨hcc, hnn, hbb, hkp⟩, him⟩ := hc
  obtain ⟨⟨hwo, hgo, hro, hto⟩, ⟨hb30, hn512⟩, hio⟩ := hA
  have hw1 := hw.1
  have hg1 := hg.1
  have hr1 := hr.1
  have ht1 := ht.1
  have hw30 := hwo.1
  have hg7 := hgo.1
  have h5r := hro.1
  have h8t := hto.1
  have hk4 := fun (j : Nat) (hj : j < g.1) => (hgo.2 j hj).1
  have hrb := fun (j : Nat) (hj : j < r.1) => (show r.2 j < 7 by have := hro.2.1 j hj; omega)
  refine br_ofW (by decide) 0 rfl (fun G C => ?_)
  have hmb := br_mh_bnd hgo hro
  refine br_iload_n C dX4_mean_0 rfl rfl ?_
  refine br_cs1B C scX4_147 (c_X4_asksAboveOrBelow k hbk) (by decide) (fun _ => Nat.le_of_ble_eq_true rfl) dX4_mean_1 (fun h1 => ?_) (fun h1 => ?_)
  · refine br_if_ne1 C dX4_mean_4 (tgt := 10) (by decide) ?_
    refine br_aload_n C dX4_mean_10 rfl rfl ?_
    refine br_cv0B C vcX4_141 (c_X4_noGym (A := (w, g, r, c, t, n, b, kp, ri, ci, ti)) hc0 hA0) (by decide) rfl rfl (fun _ => Nat.le_of_ble_eq_true rfl) dX4_mean_11 (fun h11 => ?_) (fun h11 => ?_)
    · refine br_if_eq1 C dX4_mean_14 (tgt := 20) (by decide) ?_
      refine br_bipushJ C (by decide) dX4_mean_17 ?_
      exact br_iret C rfl dX4_mean_19 ⟨congrArg (fun x => some (br_i (br_J x))) (show _ = br_vMean (w, g, r, c, t, n, b, kp, ri, ci, ti) k from ((if_neg (fun q => q h1)).trans (if_pos h11)).symm), rfl⟩
    · refine br_if_eq0 C dX4_mean_14 (tgt := 20) (by decide) ?_
      refine br_aload_n C dX4_mean_20 rfl rfl ?_
      refine br_getR C fdX4_28 dX4_mean_21 rfl rfl ?_
      refine br_cv0R C vcX4_150 (c_X2_meanInHundredths (q := 7) rfl rfl hg hgo hr hro) (by decide) rfl rfl (fun _ => Nat.le_of_ble_eq_true rfl) dX4_mean_24 ?_
      refine br_bipushJ C (by decide) dX4_mean_27 ?_
      refine br_iload_n C dX4_mean_29 rfl rfl ?_
      refine br_cs3R C scX4_153 (c_X4_inLowestTerms _ 100 k (by omega) (by omega) hbk) (by decide) (fun _ => Nat.le_of_ble_eq_true rfl) dX4_mean_30 ?_
      exact br_iret C rfl dX4_mean_33 ⟨congrArg (fun x => some (br_i (br_J x))) (show _ = br_vMean (w, g, r, c, t, n, b, kp, ri, ci, ti) k from ((if_neg (fun q => q h1)).trans (if_neg h11)).symm), rfl⟩
  · refine br_if_ne0 C dX4_mean_4 (tgt := 10) (by decide) ?_
    refine br_bipushJ C (by decide) dX4_mean_7 ?_
    exact br_iret C rfl dX4_mean_9 ⟨congrArg (fun x => some (br_i (br_J x))) (show _ = br_vMean (w, g, r, c, t, n, b, kp, ri, ci, ti) k from (if_pos h1).symm), rfl⟩

set_option maxHeartbeats 4000000 in
set_option maxRecDepth 100000 in
theorem c_X4_odds {σ : br_Wd} {A : br_A} (hc : br_CR σ A) (hA : br_Aok A) (s : Int) (hbs : -2147483648 ≤ s ∧ s < 2147483648) (k : Int) (hbk : -2147483648 ≤ k ∧ k < 2147483648) : br_Met 5 mX4_odds [br_r 0, br_i (br_J s), br_i (br_J k)] σ (br_R (br_J (br_vOdds A s k)) σ) := by
  obtain ⟨w, g, r, c, t, n, b, kp, ri, ci, ti⟩ := A
  have hc0 := hc
  have hA0 := hA
  obtain ⟨⟨hw, hg, hr, ht⟩, ⟨hcc, hnn, hbb, hkp⟩, him⟩ := hc
  obtain ⟨⟨hwo, hgo, hro, hto⟩, ⟨hb30, hn512⟩, hio⟩ := hA
  have hw1 := hw.1
  have hg1 := hg.1
  have hr1 := hr.1
  have ht1 := ht.1
  have hw30 := hwo.1
  have hg7 := hgo.1
  have h5r := hro.1
  have h8t := hto.1
  have hk4 := fun (j : Nat) (hj : j < g.1) => (hgo.2 j hj).1
  have hrb := fun (j : Nat) (hj : j < r.1) => (show r.2 j < 7 by have := hro.2.1 j hj; omega)
  refine br_ofW (by decide) 0 rfl (fun G C => ?_)
  have hob := br_od_bnd hgo hro s
  have hpb := br_pow10 h5r
  refine br_iload_n C dX4_odds_0 rfl rfl ?_
  refine br_cs1B C scX4_157 (c_X4_isScore s hbs) (by decide) (fun _ => Nat.le_of_ble_eq_true rfl) dX4_odds_1 (fun h1 => ?_) (fun h1 => ?_)
  · refine br_if_eq1 C dX4_odds_4 (tgt := 14) (by decide) ?_
    refine br_iload_n C dX4_odds_7 rfl rfl ?_
    refine br_cs1B C scX4_147 (c_X4_asksAboveOrBelow k hbk) (by decide) (fun _ => Nat.le_of_ble_eq_true rfl) dX4_odds_8 (fun h8 => ?_) (fun h8 => ?_)
    · refine br_if_ne1 C dX4_odds_11 (tgt := 17) (by decide) ?_
      refine br_aload_n C dX4_odds_17 rfl rfl ?_
      refine br_cv0B C vcX4_141 (c_X4_noGym (A := (w, g, r, c, t, n, b, kp, ri, ci, ti)) hc0 hA0) (by decide) rfl rfl (fun _ => Nat.le_of_ble_eq_true rfl) dX4_odds_18 (fun h18 => ?_) (fun h18 => ?_)
      · refine br_if_eq1 C dX4_odds_21 (tgt := 27) (by decide) ?_
        refine br_bipushJ C (by decide) dX4_odds_24 ?_
        exact br_iret C rfl dX4_odds_26 ⟨congrArg (fun x => some (br_i (br_J x))) (show _ = br_vOdds (w, g, r, c, t, n, b, kp, ri, ci, ti) s k from ((if_neg (fun q => q ⟨h1, h8⟩)).trans (if_pos h18)).symm), rfl⟩
      · refine br_if_eq0 C dX4_odds_21 (tgt := 27) (by decide) ?_
        refine br_aload_n C dX4_odds_27 rfl rfl ?_
        refine br_getR C fdX4_28 dX4_odds_28 rfl rfl ?_
        refine br_iload_n C dX4_odds_31 rfl rfl ?_
        refine br_cv1R C vcX4_160 (c_X2_partsWith (q := 7) rfl rfl hg hgo hr hro s h1) (by decide) rfl rfl (fun _ => Nat.le_of_ble_eq_true rfl) dX4_odds_32 ?_
        refine br_aload_n C dX4_odds_35 rfl rfl ?_
        refine br_getR C fdX4_28 dX4_odds_36 rfl rfl ?_
        refine br_cv0R C vcX4_163 (c_X2_allParts (q := 7) rfl rfl hr h5r) (by decide) rfl rfl (fun _ => Nat.le_of_ble_eq_true rfl) dX4_odds_39 ?_
        refine br_iload_n C dX4_odds_42 rfl rfl ?_
        refine br_cs3R C scX4_153 (c_X4_inLowestTerms _ _ k (by omega) (by omega) hbk) (by decide) (fun _ => Nat.le_of_ble_eq_true rfl) dX4_odds_43 ?_
        exact br_iret C rfl dX4_odds_46 ⟨congrArg (fun x => some (br_i (br_J x))) (show _ = br_vOdds (w, g, r, c, t, n, b, kp, ri, ci, ti) s k from ((if_neg (fun q => q ⟨h1, h8⟩)).trans (if_neg h18)).symm), rfl⟩
    · refine br_if_ne0 C dX4_odds_11 (tgt := 17) (by decide) ?_
      refine br_bipushJ C (by decide) dX4_odds_14 ?_
      exact br_iret C rfl dX4_odds_16 ⟨congrArg (fun x => some (br_i (br_J x))) (show _ = br_vOdds (w, g, r, c, t, n, b, kp, ri, ci, ti) s k from (if_pos (fun q => by first | exact h1 q.1 | exact h8 q.2)).symm), rfl⟩
  · refine br_if_eq0 C dX4_odds_4 (tgt := 14) (by decide) ?_
    refine br_bipushJ C (by decide) dX4_odds_14 ?_
    exact br_iret C rfl dX4_odds_16 ⟨congrArg (fun x => some (br_i (br_J x))) (show _ = br_vOdds (w, g, r, c, t, n, b, kp, ri, ci, ti) s k from (if_pos (fun q => by first | exact h1 q.1 | exact h8 q.2)).symm), rfl⟩
end
section
theorem br_J_bool {s : Nat} (h : s ≤ 1) : s = 0 ∨ s = 1 := by omega

set_option maxHeartbeats 4000000 in
set_option maxRecDepth 100000 in
theorem c_X4_tryIt {σ : br_Wd} {A : br_A} (hc : br_CR σ A) (hA : br_Aok A) (z : Int) (hbz : -2147483648 ≤ z ∧ z < 2147483648) (x : Int) (hbx : -2147483648 ≤ x ∧ x < 2147483648) (s : Nat) (hs1 : s ≤ 1) : br_Met 1 mX4_tryIt [br_r 0, br_i (br_J z), br_i (br_J x), br_i (br_J s)] σ (br_QC (br_J (br_sTry A z x s).1) (br_sTry A z x s).2 σ) := by
  obtain ⟨w, g, r, c, t, n, b, kp, ri, ci, ti⟩ := A
  have hc0 := hc
  obtain ⟨⟨hw, hg, hr, ht⟩, ⟨hcc, hnn, hbb, hkp⟩, him⟩ := hc
  obtain ⟨⟨hwo, hgo, hro, hto⟩, ⟨hb30, hn512⟩, hio⟩ := hA
  have hw1 := hw.1
  have hg1 := hg.1
  have hr1 := hr.1
  have ht1 := ht.1
  have hw30 := hwo.1
  have hg7 := hgo.1
  have h5r := hro.1
  have h8t := hto.1
  have hk4 := fun (j : Nat) (hj : j < g.1) => (hgo.2 j hj).1
  have hrb := fun (j : Nat) (hj : j < r.1) => (show r.2 j < 7 by have := hro.2.1 j hj; omega)
  refine br_ofW (by decide) 0 rfl (fun G C => ?_)
  refine br_aload_n C dX4_tryIt_0 rfl rfl ?_
  refine br_getR C fdX4_19 dX4_tryIt_1 rfl rfl ?_
  refine br_iload_n C dX4_tryIt_4 rfl rfl ?_
  refine br_cv1B C vcX4_92 (c_X0_has hg (by omega) z hbz) (by decide) rfl rfl (fun _ => Nat.le_of_ble_eq_true rfl) dX4_tryIt_5 (fun h5 => ?_) (fun h5 => ?_)
  · refine br_if_ne1 C dX4_tryIt_8 (tgt := 14) (by decide) ?_
    refine br_iload_n C dX4_tryIt_14 rfl rfl ?_
    refine br_if_ltJ C (by omega) dX4_tryIt_15 (tgt := 23) (by decide) (fun c15 => ?_) (fun c15 => ?_)
    · refine br_bipushJ C (by decide) dX4_tryIt_23 ?_
      exact br_iret C rfl dX4_tryIt_25 (by
          rw [show br_sTry (w, g, r, c, t, n, b, kp, ri, ci, ti) z x s = (-102, (w, g, r, c, t, n, b, kp, ri, ci, ti)) from (if_neg (by omega)).trans (if_pos (by omega))]
          exact ⟨rfl, hc0, br_fc.rfl⟩)
    · refine br_iload_n C dX4_tryIt_18 rfl rfl ?_
      refine br_iconstJ C dX4_tryIt_19 ?_
      refine br_icmp_ltJ C (by omega) (by omega) dX4_tryIt_20 (tgt := 26) (by decide) (fun c20 => ?_) (fun c20 => ?_)
      · refine br_aload_n C dX4_tryIt_26 rfl rfl ?_
        refine br_getR C fdX4_35 dX4_tryIt_27 rfl rfl ?_
        refine br_getI C fdX4_90 dX4_tryIt_30 rfl rfl (by assumption) ?_
        refine br_bipushJ C (by decide) dX4_tryIt_33 ?_
        refine br_icmp_ltJ C (by omega) (by omega) dX4_tryIt_35 (tgt := 41) (by decide) (fun c35 => ?_) (fun c35 => ?_)
        · refine br_aload_n C dX4_tryIt_41 rfl rfl ?_
          refine br_getR C fdX4_35 dX4_tryIt_42 rfl rfl ?_
          refine br_iload_n C dX4_tryIt_45 rfl rfl ?_
          refine br_iload_n C dX4_tryIt_46 rfl rfl ?_
          refine br_iload_n C dX4_tryIt_47 rfl rfl ?_
          have ez : ((z.toNat : Nat) : Int) = z := by omega
          have ex : ((x.toNat : Nat) : Int) = x := by omega
          have had := c_X3_add (q := 15) rfl rfl rfl rfl ht z.toNat x.toNat s (by omega) hs1
          rw [ez, ex] at had
          refine br_cv3 C vcX4_173 (had) (by decide) rfl rfl (fun _ => Nat.le_of_ble_eq_true rfl) dX4_tryIt_48 (fun v48 τ48 hv => ?_)
          obtain ⟨rfl, ht2, hsm⟩ := hv
          refine br_aload_n C dX4_tryIt_51 rfl rfl ?_
          refine br_getR C fdX4_35 dX4_tryIt_52 rfl rfl ?_
          refine br_getI C fdX4_90 dX4_tryIt_55 rfl rfl (x := br_J (t.1 + 1)) (by rw [show ((t.1 : Int) + 1) = ((t.1 + 1 : Nat) : Int) from rfl]; exact ht2.1) ?_
          exact br_iret C rfl dX4_tryIt_58 (by
              rw [show br_sTry (w, g, r, c, t, n, b, kp, ri, ci, ti) z x s = ((t.1 : Int) + 1, (w, g, r, c, br_tadd t z.toNat x.toNat s, n, b, kp, ri, ci, ti)) from (if_neg (by omega)).trans ((if_neg (by omega)).trans (if_neg (by omega)))]
              exact ⟨rfl, ⟨⟨hw.keep (hsm.1 1 (by decide)) (hsm.1 2 (by decide)), hg.keep (hsm.1 3 (by decide)) (hsm.1 4 (by decide)) (hsm.1 5 (by decide)) (hsm.1 6 (by decide)), hr.keep (hsm.1 7 (by decide)) (hsm.1 8 (by decide)), ht2⟩, ⟨(congrFun (hsm.1 0 (by decide)) 4).trans hcc, (congrFun (hsm.1 0 (by decide)) 11).trans hnn, (congrFun (hsm.1 0 (by decide)) 12).trans hbb, (congrFun (hsm.1 0 (by decide)) 5).trans hkp⟩, fun h => ⟨(him h).1.keep (hsm.1 9 (by decide)) (hsm.1 10 (by decide)), (him h).2.1.keep (hsm.1 19 (by decide)) (hsm.1 20 (by decide)) (hsm.1 21 (by decide)) (hsm.1 22 (by decide)), (congrFun (hsm.1 0 (by decide)) 8).trans (him h).2.2⟩⟩, hsm.fc (by decide)⟩)
        · refine br_bipushJ C (by decide) dX4_tryIt_38 ?_
          exact br_iret C rfl dX4_tryIt_40 (by
              rw [show br_sTry (w, g, r, c, t, n, b, kp, ri, ci, ti) z x s = (-104, (w, g, r, c, t, n, b, kp, ri, ci, ti)) from (if_neg (by omega)).trans ((if_neg (by omega)).trans (if_pos (by omega)))]
              exact ⟨rfl, hc0, br_fc.rfl⟩)
      · refine br_bipushJ C (by decide) dX4_tryIt_23 ?_
        exact br_iret C rfl dX4_tryIt_25 (by
            rw [show br_sTry (w, g, r, c, t, n, b, kp, ri, ci, ti) z x s = (-102, (w, g, r, c, t, n, b, kp, ri, ci, ti)) from (if_neg (by omega)).trans (if_pos (by omega))]
            exact ⟨rfl, hc0, br_fc.rfl⟩)
  · refine br_if_ne0 C dX4_tryIt_8 (tgt := 14) (by decide) ?_
    refine br_bipushJ C (by decide) dX4_tryIt_11 ?_
    exact br_iret C rfl dX4_tryIt_13 (by
        rw [show br_sTry (w, g, r, c, t, n, b, kp, ri, ci, ti) z x s = (-101, (w, g, r, c, t, n, b, kp, ri, ci, ti)) from if_pos (by omega)]
        exact ⟨rfl, hc0, br_fc.rfl⟩)

set_option maxHeartbeats 4000000 in
set_option maxRecDepth 100000 in
theorem c_X4_forget {σ : br_Wd} {A : br_A} (hc : br_CR σ A) (hA : br_Aok A) : br_Met 0 mX4_forget [br_r 0] σ (br_QC (br_J (br_sForget A).1) (br_sForget A).2 σ) := by
  obtain ⟨w, g, r, c, t, n, b, kp, ri, ci, ti⟩ := A
  have hc0 := hc
  obtain ⟨⟨hw, hg, hr, ht⟩, ⟨hcc, hnn, hbb, hkp⟩, him⟩ := hc
  obtain ⟨⟨hwo, hgo, hro, hto⟩, ⟨hb30, hn512⟩, hio⟩ := hA
  have hw1 := hw.1
  have hg1 := hg.1
  have hr1 := hr.1
  have ht1 := ht.1
  have hw30 := hwo.1
  have hg7 := hgo.1
  have h5r := hro.1
  have h8t := hto.1
  have hk4 := fun (j : Nat) (hj : j < g.1) => (hgo.2 j hj).1
  have hrb := fun (j : Nat) (hj : j < r.1) => (show r.2 j < 7 by have := hro.2.1 j hj; omega)
  refine br_ofW (by decide) 1 rfl (fun G C => ?_)
  refine br_aload_n C dX4_forget_0 rfl rfl ?_
  refine br_getR C fdX4_35 dX4_forget_1 rfl rfl ?_
  refine br_getI C fdX4_90 dX4_forget_4 rfl rfl (by assumption) ?_
  refine br_istore_n C dX4_forget_7 rfl (by decide) rfl (L' := [_, _]) rfl ?_
  refine br_aload_n C dX4_forget_8 rfl rfl ?_
  refine br_getR C fdX4_35 dX4_forget_9 rfl rfl ?_
  refine br_iconstJ C dX4_forget_12 ?_
  refine br_putI C fdX4_90 dX4_forget_13 rfl rfl rfl ?_
  refine br_iload_n C dX4_forget_16 rfl rfl ?_
  exact br_iret C rfl dX4_forget_17 ⟨rfl, ⟨⟨hw.keep rfl rfl, hg.keep rfl rfl rfl rfl, hr.keep rfl rfl, ⟨rfl, fun j hj => absurd hj (Nat.not_lt_zero j), fun j hj => absurd hj (Nat.not_lt_zero j), fun j hj => absurd hj (Nat.not_lt_zero j)⟩⟩, ⟨hcc, hnn, hbb, hkp⟩, fun h => ⟨(him h).1.keep rfl rfl, (him h).2.1.keep rfl rfl rfl rfl, (him h).2.2⟩⟩, (br_sm.rfl (qs := [15])).up (by simp) |>.fc (by decide)⟩

set_option maxHeartbeats 4000000 in
set_option maxRecDepth 100000 in
theorem c_X4_image {σ : br_Wd} {A : br_A} (hc : br_CR σ A) (hA : br_Aok A) : br_Met 1 mX4_image [br_r 0] σ (br_QC (br_J (br_sImage A).1) (br_sImage A).2 σ) := by
  obtain ⟨w, g, r, c, t, n, b, kp, ri, ci, ti⟩ := A
  have hc0 := hc
  have hA0 := hA
  obtain ⟨⟨hw, hg, hr, ht⟩, ⟨hcc, hnn, hbb, hkp⟩, him⟩ := hc
  obtain ⟨⟨hwo, hgo, hro, hto⟩, ⟨hb30, hn512⟩, hio⟩ := hA
  have hw1 := hw.1
  have hg1 := hg.1
  have hr1 := hr.1
  have ht1 := ht.1
  have hw30 := hwo.1
  have hg7 := hgo.1
  have h5r := hro.1
  have h8t := hto.1
  have hk4 := fun (j : Nat) (hj : j < g.1) => (hgo.2 j hj).1
  have hrb := fun (j : Nat) (hj : j < r.1) => (show r.2 j < 7 by have := hro.2.1 j hj; omega)
  refine br_ofW (by decide) 0 rfl (fun G C => ?_)
  refine br_aload_n C dX4_image_0 rfl rfl ?_
  refine br_cv0B C vcX4_141 (c_X4_noGym (A := (w, g, r, c, t, n, b, kp, ri, ci, ti)) hc0 hA0) (by decide) rfl rfl (fun _ => Nat.le_of_ble_eq_true rfl) dX4_image_1 (fun h1 => ?_) (fun h1 => ?_)
  · refine br_if_eq1 C dX4_image_4 (tgt := 10) (by decide) ?_
    refine br_bipushJ C (by decide) dX4_image_7 ?_
    exact br_iret C rfl dX4_image_9 (by
        rw [show br_sImage (w, g, r, c, t, n, b, kp, ri, ci, ti)  = (-103, (w, g, r, c, t, n, b, kp, ri, ci, ti)) from if_pos h1]
        exact ⟨rfl, hc0, br_fc.rfl⟩)
  · refine br_if_eq0 C dX4_image_4 (tgt := 10) (by decide) ?_
    refine br_aload_n C dX4_image_10 rfl rfl ?_
    refine br_getR C fdX4_47 dX4_image_11 rfl rfl ?_
    refine br_aload_n C dX4_image_14 rfl rfl ?_
    refine br_getR C fdX4_28 dX4_image_15 rfl rfl ?_
    refine br_cv1 C vcX4_169 (c_X2_copyFrom (q := 9) rfl rfl (q2 := 7) rfl rfl hr h5r (by omega)) (by decide) rfl rfl (fun _ => Nat.le_of_ble_eq_true rfl) dX4_image_18 (fun v18 τ18 hv => ?_)
    obtain ⟨rfl, hri, hs1⟩ := hv
    refine br_aload_n C dX4_image_21 rfl rfl ?_
    refine br_getR C fdX4_50 dX4_image_22 rfl rfl ?_
    refine br_aload_n C dX4_image_25 rfl rfl ?_
    refine br_getR C fdX4_35 dX4_image_26 rfl rfl ?_
    refine br_cv1 C vcX4_182 (c_X3_copyFrom (q := 19) rfl rfl rfl rfl (q2 := 15) rfl rfl rfl rfl (br_TC.keep (q := 15) ht (hs1.1 15 (by decide)) (hs1.1 16 (by decide)) (hs1.1 17 (by decide)) (hs1.1 18 (by decide))) ⟨h8t, fun j hj => (hto.2 j hj).2.2⟩ (by omega)) (by decide) rfl rfl (fun _ => Nat.le_of_ble_eq_true rfl) dX4_image_29 (fun v29 τ29 hv => ?_)
    obtain ⟨rfl, hti, hs2⟩ := hv
    have hsm := (hs1.mono (qs' := [9, 10, 19, 20, 21, 22]) (by decide)).trans (hs2.mono (qs' := [9, 10, 19, 20, 21, 22]) (by decide))
    refine br_aload_n C dX4_image_32 rfl rfl ?_
    refine br_aload_n C dX4_image_33 rfl rfl ?_
    refine br_getI C fdX4_39 dX4_image_34 rfl rfl (x := br_J c) ((congrFun (hsm.1 0 (by decide)) 4).trans hcc) ?_
    refine br_putI C fdX4_53 dX4_image_37 rfl rfl rfl ?_
    refine br_aload_n C dX4_image_40 rfl rfl ?_
    refine br_iconstJ C dX4_image_41 ?_
    refine br_put C fdX4_43 dX4_image_42 rfl rfl (by decide) (by decide) rfl ?_
    refine br_aload_n C dX4_image_45 rfl rfl ?_
    refine br_getI C fdX4_39 dX4_image_46 rfl rfl (x := br_J c) ((congrFun (hsm.1 0 (by decide)) 4).trans hcc) ?_
    exact br_iret C rfl dX4_image_49 (by
        rw [show br_sImage (w, g, r, c, t, n, b, kp, ri, ci, ti)  = (c, (w, g, r, c, t, n, b, true, r, c, t)) from if_neg h1]
        exact ⟨rfl, ⟨⟨hw.keep (hsm.1 1 (by decide)) (hsm.1 2 (by decide)), hg.keep (hsm.1 3 (by decide)) (hsm.1 4 (by decide)) (hsm.1 5 (by decide)) (hsm.1 6 (by decide)), hr.keep (hsm.1 7 (by decide)) (hsm.1 8 (by decide)), ht.keep (hsm.1 15 (by decide)) (hsm.1 16 (by decide)) (hsm.1 17 (by decide)) (hsm.1 18 (by decide))⟩, ⟨(congrFun (hsm.1 0 (by decide)) 4).trans hcc, (congrFun (hsm.1 0 (by decide)) 11).trans hnn, (congrFun (hsm.1 0 (by decide)) 12).trans hbb, rfl⟩, fun _ => ⟨hri.keep (hs2.1 9 (by decide)) (hs2.1 10 (by decide)), hti.keep rfl rfl rfl rfl, rfl⟩⟩, (((hsm.mono (qs' := [0, 9, 10, 19, 20, 21, 22]) (by decide)).up (by simp)).up (by simp)).fc (by decide)⟩)

set_option maxHeartbeats 4000000 in
set_option maxRecDepth 100000 in
theorem c_X4_restore {σ : br_Wd} {A : br_A} (hc : br_CR σ A) (hA : br_Aok A) : br_Met 1 mX4_restore [br_r 0] σ (br_QC (br_J (br_sRestore A).1) (br_sRestore A).2 σ) := by
  obtain ⟨w, g, r, c, t, n, b, kp, ri, ci, ti⟩ := A
  have hc0 := hc
  obtain ⟨⟨hw, hg, hr, ht⟩, ⟨hcc, hnn, hbb, hkp⟩, him⟩ := hc
  obtain ⟨⟨hwo, hgo, hro, hto⟩, ⟨hb30, hn512⟩, hio⟩ := hA
  have hw1 := hw.1
  have hg1 := hg.1
  have hr1 := hr.1
  have ht1 := ht.1
  have hw30 := hwo.1
  have hg7 := hgo.1
  have h5r := hro.1
  have h8t := hto.1
  have hk4 := fun (j : Nat) (hj : j < g.1) => (hgo.2 j hj).1
  have hrb := fun (j : Nat) (hj : j < r.1) => (show r.2 j < 7 by have := hro.2.1 j hj; omega)
  have hkb : br_b2 kp = 0 ∨ br_b2 kp = 1 := by cases kp <;> simp [br_b2]
  refine br_ofW (by decide) 0 rfl (fun G C => ?_)
  refine br_aload_n C dX4_restore_0 rfl rfl ?_
  refine br_getI C fdX4_43 dX4_restore_1 rfl rfl (by assumption) ?_
  refine br_if_neJ C (by omega) dX4_restore_4 (tgt := 10) (by decide) (fun c4 => ?_) (fun c4 => ?_)
  · have hkt : kp = true := by cases kp with
      | true => rfl
      | false => exact absurd rfl c4
    refine br_aload_n C dX4_restore_10 rfl rfl ?_
    refine br_getR C fdX4_28 dX4_restore_11 rfl rfl ?_
    refine br_aload_n C dX4_restore_14 rfl rfl ?_
    refine br_getR C fdX4_47 dX4_restore_15 rfl rfl ?_
    refine br_cv1 C vcX4_169 (c_X2_copyFrom (q := 7) rfl rfl (q2 := 9) rfl rfl (him hkt).1 (hio hkt).1.1 (by omega)) (by decide) rfl rfl (fun _ => Nat.le_of_ble_eq_true rfl) dX4_restore_18 (fun v18 τ18 hv => ?_)
    obtain ⟨rfl, hri, hs1⟩ := hv
    refine br_aload_n C dX4_restore_21 rfl rfl ?_
    refine br_getR C fdX4_35 dX4_restore_22 rfl rfl ?_
    refine br_aload_n C dX4_restore_25 rfl rfl ?_
    refine br_getR C fdX4_50 dX4_restore_26 rfl rfl ?_
    refine br_cv1 C vcX4_182 (c_X3_copyFrom (q := 15) rfl rfl rfl rfl (q2 := 19) rfl rfl rfl rfl (br_TC.keep (q := 19) (him hkt).2.1 (hs1.1 19 (by decide)) (hs1.1 20 (by decide)) (hs1.1 21 (by decide)) (hs1.1 22 (by decide))) ⟨(hio hkt).2.1, fun j hj => ((hio hkt).2.2 j hj).2.2⟩ (by omega)) (by decide) rfl rfl (fun _ => Nat.le_of_ble_eq_true rfl) dX4_restore_29 (fun v29 τ29 hv => ?_)
    obtain ⟨rfl, hti, hs2⟩ := hv
    have hsm := (hs1.mono (qs' := [7, 8, 15, 16, 17, 18]) (by decide)).trans (hs2.mono (qs' := [7, 8, 15, 16, 17, 18]) (by decide))
    refine br_aload_n C dX4_restore_32 rfl rfl ?_
    refine br_aload_n C dX4_restore_33 rfl rfl ?_
    refine br_getI C fdX4_53 dX4_restore_34 rfl rfl (x := br_J ci) ((congrFun (hsm.1 0 (by decide)) 8).trans (him hkt).2.2) ?_
    refine br_putI C fdX4_39 dX4_restore_37 rfl rfl rfl ?_
    refine br_aload_n C dX4_restore_40 rfl rfl ?_
    refine br_getI C fdX4_39 dX4_restore_41 rfl rfl (x := br_J ci) rfl ?_
    exact br_iret C rfl dX4_restore_44 (by
        rw [show br_sRestore (w, g, r, c, t, n, b, kp, ri, ci, ti)  = (ci, (w, g, ri, ci, ti, n, b, kp, ri, ci, ti)) from if_pos hkt]
        exact ⟨rfl, ⟨⟨hw.keep (hsm.1 1 (by decide)) (hsm.1 2 (by decide)), hg.keep (hsm.1 3 (by decide)) (hsm.1 4 (by decide)) (hsm.1 5 (by decide)) (hsm.1 6 (by decide)), hri.keep (hs2.1 7 (by decide)) (hs2.1 8 (by decide)), hti.keep rfl rfl rfl rfl⟩, ⟨rfl, (congrFun (hsm.1 0 (by decide)) 11).trans hnn, (congrFun (hsm.1 0 (by decide)) 12).trans hbb, (congrFun (hsm.1 0 (by decide)) 5).trans hkp⟩, fun h => ⟨(him h).1.keep (hsm.1 9 (by decide)) (hsm.1 10 (by decide)), (him h).2.1.keep (hsm.1 19 (by decide)) (hsm.1 20 (by decide)) (hsm.1 21 (by decide)) (hsm.1 22 (by decide)), (congrFun (hsm.1 0 (by decide)) 8).trans (him h).2.2⟩⟩, ((hsm.mono (qs' := [0, 7, 8, 15, 16, 17, 18]) (by decide)).up (by simp)).fc (by decide)⟩)
  · have hkf : ¬ kp = true := by intro h; rw [h] at c4; exact absurd c4 (by decide)
    refine br_bipushJ C (by decide) dX4_restore_7 ?_
    exact br_iret C rfl dX4_restore_9 (by
        rw [show br_sRestore (w, g, r, c, t, n, b, kp, ri, ci, ti)  = (-103, (w, g, r, c, t, n, b, kp, ri, ci, ti)) from if_neg hkf]
        exact ⟨rfl, hc0, br_fc.rfl⟩)

set_option maxHeartbeats 4000000 in
set_option maxRecDepth 100000 in
theorem c_X4_count {σ : br_Wd} {A : br_A} (hc : br_CR σ A) (hA : br_Aok A) (k : Int) (hbk : -2147483648 ≤ k ∧ k < 2147483648) : br_Met 4 mX4_count [br_r 0, br_i (br_J k)] σ (br_R (br_J (br_vCount A k)) σ) := by
  obtain ⟨w, g, r, c, t, n, b, kp, ri, ci, ti⟩ := A
  have hc0 := hc
  obtain ⟨⟨hw, hg, hr, ht⟩, ⟨hcc, hnn, hbb, hkp⟩, him⟩ := hc
  obtain ⟨⟨hwo, hgo, hro, hto⟩, ⟨hb30, hn512⟩, hio⟩ := hA
  have hw1 := hw.1
  have hg1 := hg.1
  have hr1 := hr.1
  have ht1 := ht.1
  have hw30 := hwo.1
  have hg7 := hgo.1
  have h5r := hro.1
  have h8t := hto.1
  have hk4 := fun (j : Nat) (hj : j < g.1) => (hgo.2 j hj).1
  have hrb := fun (j : Nat) (hj : j < r.1) => (show r.2 j < 7 by have := hro.2.1 j hj; omega)
  refine br_ofW (by decide) 0 rfl (fun G C => ?_)
  refine br_iload_n C dX4_count_0 rfl rfl ?_
  rcases (show (k < 0 ∨ 9 < k) ∨ k = 0 ∨ k = 1 ∨ k = 2 ∨ k = 3 ∨ k = 4 ∨ k = 5 ∨ k = 6 ∨ k = 7 ∨ k = 8 ∨ k = 9 by omega) with c1 | rfl | rfl | rfl | rfl | rfl | rfl | rfl | rfl | rfl | rfl
  · refine br_tableOutJ C c1 (by omega) dX4_count_1 (tgt := 129) (by decide) ?_
    refine br_bipushJ C (by decide) dX4_count_129 ?_
    exact br_iret C rfl dX4_count_131 ⟨by unfold br_vCount; simp only []; (repeat rw [if_neg (by omega)]), rfl⟩
  · refine br_tableInJ C (by decide) (by decide) (by decide) dX4_count_1 (off := 55) rfl (tgt := 56) (by decide) ?_
    refine br_aload_n C dX4_count_56 rfl rfl ?_
    refine br_getR C fdX4_19 dX4_count_57 rfl rfl ?_
    refine br_getI C fdX4_91 dX4_count_60 rfl rfl (by assumption) ?_
    exact br_iret C rfl dX4_count_63 ⟨congrArg (fun x => some (br_i (br_J x))) (show _ = br_vCount (w, g, r, c, t, n, b, kp, ri, ci, ti) 0 from rfl), rfl⟩
  · refine br_tableInJ C (by decide) (by decide) (by decide) dX4_count_1 (off := 63) rfl (tgt := 64) (by decide) ?_
    refine br_aload_n C dX4_count_64 rfl rfl ?_
    refine br_getR C fdX4_28 dX4_count_65 rfl rfl ?_
    refine br_getI C fdX4_87 dX4_count_68 rfl rfl (by assumption) ?_
    exact br_iret C rfl dX4_count_71 ⟨congrArg (fun x => some (br_i (br_J x))) (show _ = br_vCount (w, g, r, c, t, n, b, kp, ri, ci, ti) 1 from rfl), rfl⟩
  · refine br_tableInJ C (by decide) (by decide) (by decide) dX4_count_1 (off := 71) rfl (tgt := 72) (by decide) ?_
    refine br_aload_n C dX4_count_72 rfl rfl ?_
    refine br_getR C fdX4_28 dX4_count_73 rfl rfl ?_
    refine br_iconstJ C dX4_count_76 ?_
    refine br_cv1R C vcX4_185 (c_howF (q := 7) rfl rfl hg hgo hr hro) (by decide) rfl rfl (fun _ => Nat.le_of_ble_eq_true rfl) dX4_count_77 ?_
    exact br_iret C rfl dX4_count_80 ⟨congrArg (fun x => some (br_i (br_J x))) (show _ = br_vCount (w, g, r, c, t, n, b, kp, ri, ci, ti) 2 from rfl), rfl⟩
  · refine br_tableInJ C (by decide) (by decide) (by decide) dX4_count_1 (off := 80) rfl (tgt := 81) (by decide) ?_
    refine br_aload_n C dX4_count_81 rfl rfl ?_
    refine br_getR C fdX4_28 dX4_count_82 rfl rfl ?_
    refine br_iconstJ C dX4_count_85 ?_
    refine br_cv1R C vcX4_185 (c_howT (q := 7) rfl rfl hg hgo hr hro) (by decide) rfl rfl (fun _ => Nat.le_of_ble_eq_true rfl) dX4_count_86 ?_
    exact br_iret C rfl dX4_count_89 ⟨congrArg (fun x => some (br_i (br_J x))) (show _ = br_vCount (w, g, r, c, t, n, b, kp, ri, ci, ti) 3 from rfl), rfl⟩
  · refine br_tableInJ C (by decide) (by decide) (by decide) dX4_count_1 (off := 89) rfl (tgt := 90) (by decide) ?_
    refine br_aload_n C dX4_count_90 rfl rfl ?_
    refine br_getR C fdX4_28 dX4_count_91 rfl rfl ?_
    refine br_cv0R C vcX4_188 (c_X2_joins (q := 7) rfl rfl hg hgo hr hro) (by decide) rfl rfl (fun _ => Nat.le_of_ble_eq_true rfl) dX4_count_94 ?_
    exact br_iret C rfl dX4_count_97 ⟨congrArg (fun x => some (br_i (br_J x))) (show _ = br_vCount (w, g, r, c, t, n, b, kp, ri, ci, ti) 4 from rfl), rfl⟩
  · refine br_tableInJ C (by decide) (by decide) (by decide) dX4_count_1 (off := 97) rfl (tgt := 98) (by decide) ?_
    refine br_aload_n C dX4_count_98 rfl rfl ?_
    refine br_getI C fdX4_39 dX4_count_99 rfl rfl (by assumption) ?_
    exact br_iret C rfl dX4_count_102 ⟨congrArg (fun x => some (br_i (br_J x))) (show _ = br_vCount (w, g, r, c, t, n, b, kp, ri, ci, ti) 5 from rfl), rfl⟩
  · refine br_tableInJ C (by decide) (by decide) (by decide) dX4_count_1 (off := 102) rfl (tgt := 103) (by decide) ?_
    refine br_aload_n C dX4_count_103 rfl rfl ?_
    refine br_getR C fdX4_35 dX4_count_104 rfl rfl ?_
    refine br_getI C fdX4_90 dX4_count_107 rfl rfl (by assumption) ?_
    exact br_iret C rfl dX4_count_110 ⟨congrArg (fun x => some (br_i (br_J x))) (show _ = br_vCount (w, g, r, c, t, n, b, kp, ri, ci, ti) 6 from rfl), rfl⟩
  · refine br_tableInJ C (by decide) (by decide) (by decide) dX4_count_1 (off := 110) rfl (tgt := 111) (by decide) ?_
    refine br_aload_n C dX4_count_111 rfl rfl ?_
    refine br_getR C fdX4_12 dX4_count_112 rfl rfl ?_
    refine br_getI C fdX4_68 dX4_count_115 rfl rfl (by assumption) ?_
    exact br_iret C rfl dX4_count_118 ⟨congrArg (fun x => some (br_i (br_J x))) (show _ = br_vCount (w, g, r, c, t, n, b, kp, ri, ci, ti) 7 from rfl), rfl⟩
  · refine br_tableInJ C (by decide) (by decide) (by decide) dX4_count_1 (off := 118) rfl (tgt := 119) (by decide) ?_
    refine br_aload_n C dX4_count_119 rfl rfl ?_
    refine br_getI C fdX4_62 dX4_count_120 rfl rfl (by assumption) ?_
    exact br_iret C rfl dX4_count_123 ⟨congrArg (fun x => some (br_i (br_J x))) (show _ = br_vCount (w, g, r, c, t, n, b, kp, ri, ci, ti) 8 from rfl), rfl⟩
  · refine br_tableInJ C (by decide) (by decide) (by decide) dX4_count_1 (off := 123) rfl (tgt := 124) (by decide) ?_
    refine br_aload_n C dX4_count_124 rfl rfl ?_
    refine br_getI C fdX4_65 dX4_count_125 rfl rfl (by assumption) ?_
    exact br_iret C rfl dX4_count_128 ⟨congrArg (fun x => some (br_i (br_J x))) (show _ = br_vCount (w, g, r, c, t, n, b, kp, ri, ci, ti) 9 from rfl), rfl⟩

set_option maxHeartbeats 4000000 in
set_option maxRecDepth 100000 in
theorem c_X0_read {σ : br_Wd} {w : br_Pg} (hw : br_PC σ w) (hn : w.1 ≤ 27) (hm3 : w.1 % 4 = 3) (hb : ∀ j : Nat, j < w.1 → 1 ≤ w.2 j ∧ w.2 j ≤ 126) : br_Met 1 mX0_read [br_r 3, br_r 1] σ (fun v τ => v = none ∧ br_GC τ (br_gy w) ∧ br_sm [3, 4, 5, 6] σ τ) := by
  refine br_ofW (by decide) 1 rfl (fun G C => ?_)
  have loop : ∀ (m j : Nat) (τ : br_Wd), j + m = (w.1 + 1) / 4 → br_sm [3, 4, 5, 6] σ τ → τ.1 3 3 = br_J j → (∀ i : Nat, i < j → τ.1 4 i = br_J (br_kd (w.2 (4 * i))) ∧ τ.1 5 i = br_J (w.2 (4 * i + 1) - 48) ∧ τ.1 6 i = br_J (w.2 (4 * i + 2) - 48)) → G 7 [some (br_r 3), some (br_r 1), some (br_i (br_J ((4 * j : Nat) : Int)))] [] τ := by
    intro m
    induction m with
    | zero =>
      intro j τ hjm hsm hs1 hm
      have hwτ : br_PC τ w := hw.keep (hsm.1 1 (by decide)) (hsm.1 2 (by decide))
      refine br_iload_n C dX0_read_7 rfl rfl ?_
      refine br_aload_n C dX0_read_8 rfl rfl ?_
      refine br_getI C fdX0_25 dX0_read_9 rfl rfl (x := br_J w.1) hwτ.1 ?_
      refine br_icmp_geJ C (by omega) (by omega) dX0_read_12 (tgt := 95) (by decide) (fun c12 => ?_) (fun c12 => ?_)
      · exact br_vret C rfl dX0_read_95 ⟨rfl, ⟨by rw [hs1]; exact congrArg (fun x : Nat => br_J (x : Int)) (show j = (w.1 + 1) / 4 by omega), fun i hi => (hm i (by have : i < (w.1 + 1) / 4 := hi; omega)).1, fun i hi => (hm i (by have : i < (w.1 + 1) / 4 := hi; omega)).2.1, fun i hi => (hm i (by have : i < (w.1 + 1) / 4 := hi; omega)).2.2⟩, hsm⟩
      · omega
    | succ m ih =>
      intro j τ hjm hsm hs1 hm
      have hwτ : br_PC τ w := hw.keep (hsm.1 1 (by decide)) (hsm.1 2 (by decide))
      refine br_iload_n C dX0_read_7 rfl rfl ?_
      refine br_aload_n C dX0_read_8 rfl rfl ?_
      refine br_getI C fdX0_25 dX0_read_9 rfl rfl (x := br_J w.1) hwτ.1 ?_
      refine br_icmp_geJ C (by omega) (by omega) dX0_read_12 (tgt := 95) (by decide) (fun c12 => ?_) (fun c12 => ?_)
      · omega
      · refine br_aload_n C dX0_read_15 rfl rfl ?_
        refine br_getI C fdX0_21 dX0_read_16 rfl rfl (x := br_J j) hs1 ?_
        refine br_bipushJ C (by decide) dX0_read_19 ?_
        refine br_icmp_geJ C (by omega) (by omega) dX0_read_21 (tgt := 95) (by decide) (fun c21 => ?_) (fun c21 => ?_)
        · omega
        · have hb0 := hb (4 * j) (by omega)
          have hb1 := hb (4 * j + 1) (by omega)
          have hb2 := hb (4 * j + 2) (by omega)
          refine br_aload_n C dX0_read_24 rfl rfl ?_
          refine br_getR C fdX0_9 dX0_read_25 rfl rfl ?_
          refine br_aload_n C dX0_read_28 rfl rfl ?_
          refine br_getI C fdX0_21 dX0_read_29 rfl rfl (x := br_J j) hs1 ?_
          refine br_aload_n C dX0_read_32 rfl rfl ?_
          refine br_iload_n C dX0_read_33 rfl rfl ?_
          refine br_cv1R C vcX0_30 (c_X1_codeAt hwτ (by omega) ((4 * j : Nat) : Int) (by omega) (by omega)) (by decide) rfl rfl (fun _ => Nat.le_of_ble_eq_true rfl) dX0_read_34 ?_
          refine br_cs1R C scX0_34 (c_X1_kindByLetter (w.2 (4 * j)) (by omega)) (by decide) (fun _ => Nat.le_of_ble_eq_true rfl) dX0_read_37 ?_
          refine br_iastJ C rfl (by decide) (by omega) (by omega) rfl dX0_read_40 ?_
          refine br_aload_n C dX0_read_41 rfl rfl ?_
          refine br_getR C fdX0_15 dX0_read_42 rfl rfl ?_
          refine br_aload_n C dX0_read_45 rfl rfl ?_
          refine br_getI C fdX0_21 dX0_read_46 rfl rfl (x := br_J j) hs1 ?_
          refine br_aload_n C dX0_read_49 rfl rfl ?_
          refine br_iload_n C dX0_read_50 rfl rfl ?_
          refine br_iconstJ C dX0_read_51 ?_
          refine br_iaddJ C dX0_read_52 ?_
          have hca1 := c_X1_codeAt (br_PC.keep (τ := br_up τ 4 ((j : Nat) : Int).toNat (br_J (br_kd (w.2 (4 * j))))) hwτ rfl rfl) (by omega) ((4 * j : Nat) + 1) (by omega) (by omega)
          rw [show (((4 * j : Nat) : Int) + 1).toNat = 4 * j + 1 by omega] at hca1
          refine br_cv1R C vcX0_30 (hca1) (by decide) rfl rfl (fun _ => Nat.le_of_ble_eq_true rfl) dX0_read_53 ?_
          refine br_bipushJ C (by decide) dX0_read_56 ?_
          refine br_isubJ C dX0_read_58 ?_
          refine br_iastJ C rfl (by decide) (by omega) (by omega) rfl dX0_read_59 ?_
          refine br_aload_n C dX0_read_60 rfl rfl ?_
          refine br_getR C fdX0_18 dX0_read_61 rfl rfl ?_
          refine br_aload_n C dX0_read_64 rfl rfl ?_
          refine br_getI C fdX0_21 dX0_read_65 rfl rfl (x := br_J j) hs1 ?_
          refine br_aload_n C dX0_read_68 rfl rfl ?_
          refine br_iload_n C dX0_read_69 rfl rfl ?_
          refine br_iconstJ C dX0_read_70 ?_
          refine br_iaddJ C dX0_read_71 ?_
          have hca2 := c_X1_codeAt (br_PC.keep (τ := br_up (br_up τ 4 ((j : Nat) : Int).toNat (br_J (br_kd (w.2 (4 * j))))) 5 ((j : Nat) : Int).toNat (br_J (w.2 (4 * j + 1) - 48))) hwτ rfl rfl) (by omega) ((4 * j : Nat) + 2) (by omega) (by omega)
          rw [show (((4 * j : Nat) : Int) + 2).toNat = 4 * j + 2 by omega] at hca2
          refine br_cv1R C vcX0_30 (hca2) (by decide) rfl rfl (fun _ => Nat.le_of_ble_eq_true rfl) dX0_read_72 ?_
          refine br_bipushJ C (by decide) dX0_read_75 ?_
          refine br_isubJ C dX0_read_77 ?_
          refine br_iastJ C rfl (by decide) (by omega) (by omega) rfl dX0_read_78 ?_
          refine br_aload_n C dX0_read_79 rfl rfl ?_
          refine br_dup C dX0_read_80 rfl ?_
          refine br_getI C fdX0_21 dX0_read_81 rfl rfl (x := br_J j) hs1 ?_
          refine br_iconstJ C dX0_read_84 ?_
          refine br_iaddJ C dX0_read_85 ?_
          refine br_putI C fdX0_21 dX0_read_86 rfl rfl rfl ?_
          refine br_iincJ C dX0_read_89 rfl (by decide) rfl (L' := [_, _, _]) rfl ?_
          refine br_goto C dX0_read_92 (tgt := 7) (by decide) ?_
          rw [show ((4 * j : Nat) : Int) + 4 = ((4 * (j + 1) : Nat) : Int) by omega]
          refine ih (j + 1) _ (by omega) ((((hsm.up (by simp)).up (by simp)).up (by simp)).up (by simp)) rfl (fun i hi => ?_)
          rw [show ((j : Nat) : Int).toNat = j by omega]
          by_cases e : i = j
          · subst e
            exact ⟨by simp [br_up], by simp [br_up], by simp [br_up]⟩
          · have h9 := hm i (by omega)
            exact ⟨by simp [br_up, e]; exact h9.1, by simp [br_up, e]; exact h9.2.1, by simp [br_up, e]; exact h9.2.2⟩
  refine br_aload_n C dX0_read_0 rfl rfl ?_
  refine br_iconstJ C dX0_read_1 ?_
  refine br_putI C fdX0_21 dX0_read_2 rfl rfl rfl ?_
  refine br_iconstJ C dX0_read_5 ?_
  refine br_istore_n C dX0_read_6 rfl (by decide) rfl (L' := [_, _, _]) rfl ?_
  exact loop ((w.1 + 1) / 4) 0 _ (by omega) ((br_sm.rfl).up (by simp)) rfl (fun i hi => absurd hi (by omega))

theorem br_ff_fit (w : br_Pg) : ∀ (n i : Nat), i + n = w.1 → br_ff w i n = w.1 → ∀ j : Nat, i ≤ j → j < w.1 → br_fit j (w.2 j) := by
  intro n
  induction n with
  | zero => intro i h _ j h1 h2; omega
  | succ n ih =>
    intro i h hf j h1 h2
    unfold br_ff at hf
    by_cases hi : br_fit i (w.2 i)
    · rw [if_pos hi] at hf
      rcases Nat.lt_or_ge i j with q | q
      · exact ih (i + 1) (by omega) hf j (by omega) h2
      · rw [show j = i by omega]; exact hi
    · rw [if_neg hi] at hf; omega
theorem br_tells_fit {w : br_Pg} (h : br_tells w) : ∀ j : Nat, j < w.1 → br_fit j (w.2 j) := fun j hj => br_ff_fit w w.1 0 (by omega) h.2.2 j (by omega) hj
theorem br_tells_27 {w : br_Pg} (h : br_tells w) : w.1 ≤ 27 := by
  rcases Nat.lt_or_ge 27 w.1 with q | q
  · have := (br_tells_fit h 27 (by omega)).1
    omega
  · exact q
theorem br_gy_ok {w : br_Pg} (h : br_tells w) : br_Gok (br_gy w) := by
  have h27 := br_tells_27 h
  refine ⟨by show (w.1 + 1) / 4 ≤ 7; omega, fun j hj => ?_⟩
  have hj2 : j < (w.1 + 1) / 4 := hj
  have h3 := h.2.1
  have f0 := br_tells_fit h (4 * j) (by omega)
  have f1 := br_tells_fit h (4 * j + 1) (by omega)
  have f2 := br_tells_fit h (4 * j + 2) (by omega)
  have hk := br_kd_bnd (w.2 (4 * j))
  have k0 : ¬ br_kd (w.2 (4 * j)) = -1 := by
    rcases f0.2 with q | q | q
    · exact q.2
    · omega
    · omega
  have k1 : 49 ≤ w.2 (4 * j + 1) ∧ w.2 (4 * j + 1) ≤ 57 := by
    rcases f1.2 with q | q | q
    · omega
    · omega
    · exact q.2
  have k2 : 49 ≤ w.2 (4 * j + 2) ∧ w.2 (4 * j + 2) ≤ 57 := by
    rcases f2.2 with q | q | q
    · omega
    · omega
    · exact q.2
  refine ⟨⟨?_, ?_⟩, ⟨?_, ?_⟩, ?_, ?_⟩
  · show 0 ≤ br_kd (w.2 (4 * j)); omega
  · show br_kd (w.2 (4 * j)) ≤ 4; omega
  · show 1 ≤ w.2 (4 * j + 1) - 48; omega
  · show w.2 (4 * j + 1) - 48 ≤ 9; omega
  · show 1 ≤ w.2 (4 * j + 2) - 48; omega
  · show w.2 (4 * j + 2) - 48 ≤ 9; omega

set_option maxHeartbeats 4000000 in
set_option maxRecDepth 100000 in
theorem c_X4_gym {σ : br_Wd} {A : br_A} (hc : br_CR σ A) (hA : br_Aok A) : br_Met 4 mX4_gym [br_r 0] σ (br_QC (br_J (br_sGym A).1) (br_sGym A).2 σ) := by
  obtain ⟨w, g, r, c, t, n, b, kp, ri, ci, ti⟩ := A
  have hc0 := hc
  obtain ⟨⟨hw, hg, hr, ht⟩, ⟨hcc, hnn, hbb, hkp⟩, him⟩ := hc
  obtain ⟨⟨hwo, hgo, hro, hto⟩, ⟨hb30, hn512⟩, hio⟩ := hA
  have hw1 := hw.1
  have hg1 := hg.1
  have hr1 := hr.1
  have ht1 := ht.1
  have hw30 := hwo.1
  have hg7 := hgo.1
  have h5r := hro.1
  have h8t := hto.1
  have hk4 := fun (j : Nat) (hj : j < g.1) => (hgo.2 j hj).1
  have hrb := fun (j : Nat) (hj : j < r.1) => (show r.2 j < 7 by have := hro.2.1 j hj; omega)
  have hcb := fun (j : Nat) (hj : j < w.1) => (show -2147483648 ≤ w.2 j ∧ w.2 j < 2147483648 by have := hwo.2 j hj; omega)
  refine br_ofW (by decide) 0 rfl (fun G C => ?_)
  refine br_aload_n C dX4_gym_0 rfl rfl ?_
  refine br_getR C fdX4_12 dX4_gym_1 rfl rfl ?_
  refine br_cv0B C vcX4_79 (c_X1_tellsGym hw (by omega) hcb) (by decide) rfl rfl (fun _ => Nat.le_of_ble_eq_true rfl) dX4_gym_4 (fun h4 => ?_) (fun h4 => ?_)
  · refine br_if_ne1 C dX4_gym_7 (tgt := 13) (by decide) ?_
    refine br_aload_n C dX4_gym_13 rfl rfl ?_
    refine br_getR C fdX4_19 dX4_gym_14 rfl rfl ?_
    refine br_aload_n C dX4_gym_17 rfl rfl ?_
    refine br_getR C fdX4_12 dX4_gym_18 rfl rfl ?_
    refine br_cv1 C vcX4_83 (c_X0_read hw (br_tells_27 h4) h4.2.1 hwo.2) (by decide) rfl rfl (fun _ => Nat.le_of_ble_eq_true rfl) dX4_gym_21 (fun v21 τ21 hv => ?_)
    obtain ⟨rfl, hgg, hsm⟩ := hv
    refine br_aload_n C dX4_gym_24 rfl rfl ?_
    refine br_getR C fdX4_12 dX4_gym_25 rfl rfl ?_
    refine br_iconstJ C dX4_gym_28 ?_
    refine br_putI C fdX4_68 dX4_gym_29 rfl rfl rfl ?_
    refine br_aload_n C dX4_gym_32 rfl rfl ?_
    refine br_getR C fdX4_28 dX4_gym_33 rfl rfl ?_
    refine br_iconstJ C dX4_gym_36 ?_
    refine br_putI C fdX4_87 dX4_gym_37 rfl rfl rfl ?_
    refine br_aload_n C dX4_gym_40 rfl rfl ?_
    refine br_getR C fdX4_35 dX4_gym_41 rfl rfl ?_
    refine br_iconstJ C dX4_gym_44 ?_
    refine br_putI C fdX4_90 dX4_gym_45 rfl rfl rfl ?_
    refine br_aload_n C dX4_gym_48 rfl rfl ?_
    refine br_iconstJ C dX4_gym_49 ?_
    refine br_putI C fdX4_39 dX4_gym_50 rfl rfl rfl ?_
    refine br_aload_n C dX4_gym_53 rfl rfl ?_
    refine br_iconstJ C dX4_gym_54 ?_
    refine br_put C fdX4_43 dX4_gym_55 rfl rfl (by decide) (by decide) rfl ?_
    refine br_aload_n C dX4_gym_58 rfl rfl ?_
    refine br_dup C dX4_gym_59 rfl ?_
    refine br_getI C fdX4_62 dX4_gym_60 rfl rfl (x := br_J n) ((congrFun (hsm.1 0 (by decide)) 11).trans hnn) ?_
    refine br_iconstJ C dX4_gym_63 ?_
    refine br_iaddJ C dX4_gym_64 ?_
    refine br_putI C fdX4_62 dX4_gym_65 rfl rfl rfl ?_
    refine br_aload_n C dX4_gym_68 rfl rfl ?_
    refine br_getR C fdX4_19 dX4_gym_69 rfl rfl ?_
    refine br_getI C fdX4_91 dX4_gym_72 rfl rfl (x := br_J (br_gy w).1) hgg.1 ?_
    exact br_iret C rfl dX4_gym_75 (by
        rw [show br_sGym (w, g, r, c, t, n, b, kp, ri, ci, ti)  = ((((br_gy w).1 : Nat) : Int), ((0, w.2), br_gy w, (0, r.2), 0, (0, t.2), n + 1, b, false, ri, ci, ti)) from if_pos h4]
        exact ⟨rfl, ⟨⟨⟨rfl, fun j hj => absurd hj (Nat.not_lt_zero j)⟩, hgg.keep rfl rfl rfl rfl, ⟨rfl, fun j hj => absurd hj (Nat.not_lt_zero j)⟩, ⟨rfl, fun j hj => absurd hj (Nat.not_lt_zero j), fun j hj => absurd hj (Nat.not_lt_zero j), fun j hj => absurd hj (Nat.not_lt_zero j)⟩⟩, ⟨rfl, rfl, (congrFun (hsm.1 0 (by decide)) 12).trans hbb, rfl⟩, fun h => absurd h (by decide)⟩, (((((((hsm.mono (qs' := [0, 1, 3, 4, 5, 6, 7, 15]) (by decide)).up (by simp)).up (by simp)).up (by simp)).up (by simp)).up (by simp)).up (by simp)).fc (by decide)⟩)
  · refine br_if_ne0 C dX4_gym_7 (tgt := 13) (by decide) ?_
    refine br_bipushJ C (by decide) dX4_gym_10 ?_
    exact br_iret C rfl dX4_gym_12 (by
        rw [show br_sGym (w, g, r, c, t, n, b, kp, ri, ci, ti)  = (-103, (w, g, r, c, t, n, b, kp, ri, ci, ti)) from if_neg h4]
        exact ⟨rfl, hc0, br_fc.rfl⟩)
end
section
/-! What MORE, BEST, MEETS and the digest are. -/
theorem br_lst_neg (p : Nat → Bool) (n : Nat) (h : br_lst p n = -1) : ∀ j : Nat, j < n → p j = false := by
  induction n with
  | zero => intro j hj; omega
  | succ n ih =>
    intro j hj
    unfold br_lst at h
    by_cases hp : p n = true
    · rw [if_pos hp] at h; omega
    · rw [if_neg hp] at h
      rcases Nat.lt_or_ge j n with q | q
      · exact ih h j q
      · rw [show j = n by omega]; simpa using hp
theorem br_po_neg {r : br_Ro} {p : Nat} (h : br_po r p = -1) : ∀ j : Nat, j < r.1 → ¬ r.2 j = p := fun j hj e => by
  have := br_lst_neg _ _ h j hj
  simp [e] at this
theorem br_po_neg' {r : br_Ro} {p : Nat} (h : ∀ j : Nat, j < r.1 → ¬ r.2 j = p) : br_po r p = -1 := br_lst_none _ _ (fun j hj => by
  have := h j hj
  simp only [decide_eq_false_iff_not]
  omega)
theorem br_Rok_app {g : br_Gy} {r : br_Ro} (hr : br_Rok g r) {p : Nat} (hp : p < g.1) (hn : br_po r p = -1) (h5 : r.1 < 5) : br_Rok g (br_app r p) := by
  have hno := br_po_neg hn
  refine ⟨by show r.1 + 1 ≤ 5; omega, fun j hj => ?_, fun i j hi hj e => ?_⟩
  · have hj2 : j < r.1 + 1 := hj
    show (if j = r.1 then p else r.2 j) < g.1
    split
    · exact hp
    · exact hr.2.1 j (by omega)
  · have hi2 : i < r.1 + 1 := hi
    have hj2 : j < r.1 + 1 := hj
    have e2 : (if i = r.1 then p else r.2 i) = (if j = r.1 then p else r.2 j) := e
    by_cases h1 : i = r.1 <;> by_cases h2 : j = r.1
    · omega
    · rw [if_pos h1, if_neg h2] at e2; exact absurd e2.symm (hno j (by omega))
    · rw [if_neg h1, if_pos h2] at e2; exact absurd e2 (hno i (by omega))
    · rw [if_neg h1, if_neg h2] at e2; exact hr.2.2 i j (by omega) (by omega) e2
-- MORE
def br_mo (g : br_Gy) (r : br_Ro) (s : Int) : Nat → Int × Int
  | 0 => (-1, br_od g r s * 10)
  | p + 1 => if br_po r p = -1 ∧ (br_mo g r s p).2 < br_od g (br_app r p) s then ((p : Int), br_od g (br_app r p) s) else br_mo g r s p
def br_vMore (A : br_A) (s : Int) : Int := match A with
  | (_, g, r, _) => if ¬ (-100 ≤ s ∧ s ≤ 100) then -102 else if g.1 = 0 ∨ 5 ≤ r.1 then -103 else (br_mo g r s g.1).1
theorem br_mo_bnd {g : br_Gy} {r : br_Ro} (hg : br_Gok g) (hr : br_Rok g r) (h5 : r.1 < 5) (s : Int) : ∀ p : Nat, p ≤ g.1 → 0 ≤ (br_mo g r s p).2 ∧ (br_mo g r s p).2 ≤ 32000000 := by
  intro p
  induction p with
  | zero => intro _; have := br_od_bnd hg hr s; exact ⟨by show 0 ≤ br_od g r s * 10; omega, by show br_od g r s * 10 ≤ 32000000; omega⟩
  | succ p ih =>
    intro hp
    have h1 := ih (by omega)
    unfold br_mo
    split
    · rename_i h
      have := br_od_bnd hg (br_Rok_app hr (show p < g.1 by omega) h.1 h5) s
      exact ⟨this.1, by show br_od g (br_app r p) s ≤ 32000000; omega⟩
    · exact h1
-- BEST: the row of a code, whether its pieces are unlike, the first of the greatest means
def br_dg (n m c i : Nat) : Nat := c / n ^ (m - 1 - i) % n
def br_rw (n m c : Nat) : br_Ro := (m, fun i => br_dg n m c i)
abbrev br_dst (n m c : Nat) : Prop := ∀ j : Nat, j < m → ∀ i : Nat, i < j → ¬ br_dg n m c i = br_dg n m c j
def br_bs (g : br_Gy) (m : Nat) : Nat → Option Nat
  | 0 => none
  | c + 1 => if br_dst g.1 m c then (match br_bs g m c with
    | none => some c
    | some c2 => if br_mh g (br_rw g.1 m c2) < br_mh g (br_rw g.1 m c) then some c else some c2) else br_bs g m c
def br_vBest (g : br_Gy) (m k : Int) : Int := match br_bs g m.toNat (g.1 ^ m.toNat) with
  | none => -1
  | some c => if k = 0 ∨ k = 1 then br_lo (br_mh g (br_rw g.1 m.toNat c)) 100 k else if k - 10 < m then (br_dg g.1 m.toNat c (k - 10).toNat : Nat) else -1
def br_sBest (A : br_A) (m k : Int) : Int × br_A := match A with
  | (w, g, r, c, t, n, b, u) => if ¬ ((1 ≤ m ∧ m ≤ 3) ∧ ((k = 0 ∨ k = 1) ∨ (10 ≤ k ∧ k ≤ 12))) then (-102, A) else if g.1 = 0 ∨ b = 30 then (-103, A) else (br_vBest g m k, (w, g, r, c, t, n, b + 1, u))
theorem br_Rok_rw {g : br_Gy} {m c : Nat} (hn : 0 < g.1) (hm : m ≤ 5) (hd : br_dst g.1 m c) : br_Rok g (br_rw g.1 m c) := by
  refine ⟨hm, fun j _ => Nat.mod_lt _ hn, fun i j hi hj e => ?_⟩
  rcases Nat.lt_trichotomy i j with h | h | h
  · exact absurd e (hd j hj i h)
  · exact h
  · exact absurd e.symm (hd i hi j h)
theorem br_bs_dst (g : br_Gy) (m : Nat) : ∀ (c c2 : Nat), br_bs g m c = some c2 → br_dst g.1 m c2 ∧ c2 < c := by
  intro c
  induction c with
  | zero => intro c2 h; cases h
  | succ c ih =>
    intro c2 h
    unfold br_bs at h
    by_cases hd : br_dst g.1 m c
    · rw [if_pos hd] at h
      cases hb : br_bs g m c with
      | none => rw [hb] at h; simp only [Option.some.injEq] at h; subst h; exact ⟨hd, by omega⟩
      | some c3 =>
        rw [hb] at h
        simp only at h
        split at h
        · simp only [Option.some.injEq] at h; subst h; exact ⟨hd, by omega⟩
        · simp only [Option.some.injEq] at h; subst h; have := ih c3 hb; exact ⟨this.1, by omega⟩
    · rw [if_neg hd] at h; have := ih c2 h; exact ⟨this.1, by omega⟩
theorem br_bs_found (g : br_Gy) (m : Nat) : ∀ (c c0 : Nat), c0 < c → br_dst g.1 m c0 → br_bs g m c ≠ none := by
  intro c
  induction c with
  | zero => intro c0 h; omega
  | succ c ih =>
    intro c0 h hd
    unfold br_bs
    by_cases hc : br_dst g.1 m c
    · rw [if_pos hc]
      cases br_bs g m c with
      | none => simp
      | some c3 => simp only; split <;> simp
    · rw [if_neg hc]
      rcases Nat.lt_or_ge c0 c with q | q
      · exact ih c0 q hd
      · rw [show c0 = c by omega] at hd; exact absurd hd hc
theorem br_bs_none (g : br_Gy) (m : Nat) : ∀ c : Nat, (∀ c0 : Nat, c0 < c → ¬ br_dst g.1 m c0) → br_bs g m c = none := by
  intro c
  induction c with
  | zero => intro _; rfl
  | succ c ih =>
    intro h
    unfold br_bs
    rw [if_neg (h c (by omega))]
    exact ih (fun c0 h0 => h c0 (by omega))
/-- where there are enough pieces there is one; else there is none -/
theorem br_bs_some {g : br_Gy} {m : Nat} (hg : g.1 ≤ 7) (h0 : 0 < g.1) (h1 : 1 ≤ m ∧ m ≤ 3) : (m ≤ g.1 → br_bs g m (g.1 ^ m) ≠ none) ∧ (¬ m ≤ g.1 → br_bs g m (g.1 ^ m) = none) := by
  have key : ∀ n : Fin 8, ∀ m : Fin 4, 0 < (n : Nat) → 1 ≤ (m : Nat) → (m : Nat) ≤ n → (∃ c0 : Fin 10, (c0 : Nat) < (n : Nat) ^ (m : Nat) ∧ br_dst n m c0) := by decide +kernel
  have key2 : ∀ n : Fin 3, ∀ m : Fin 4, 0 < (n : Nat) → 1 ≤ (m : Nat) → (n : Nat) < m → ∀ c0 : Fin 9, (c0 : Nat) < (n : Nat) ^ (m : Nat) → ¬ br_dst n m c0 := by decide +kernel
  have key3 : ∀ n : Fin 3, ∀ m : Fin 4, (n : Nat) ^ (m : Nat) ≤ 9 := by decide +kernel
  refine ⟨fun hm => ?_, fun hm => ?_⟩
  · obtain ⟨c0, hc, hd⟩ := key ⟨g.1, by omega⟩ ⟨m, by omega⟩ h0 h1.1 hm
    exact br_bs_found g m _ c0 hc hd
  · refine br_bs_none g m _ (fun c0 hc => ?_)
    have h9 := key3 ⟨g.1, by omega⟩ ⟨m, by omega⟩
    exact key2 ⟨g.1, by omega⟩ ⟨m, by omega⟩ h0 h1.1 (by show g.1 < m; omega) ⟨c0, Nat.lt_of_lt_of_le hc h9⟩ hc
theorem br_pow7 {n m : Nat} (hn : n ≤ 7) (hm : m ≤ 3) : n ^ m ≤ 343 := by
  have key : ∀ n : Fin 8, ∀ m : Fin 4, (n : Nat) ^ (m : Nat) ≤ 343 := by decide +kernel
  exact key ⟨n, by omega⟩ ⟨m, by omega⟩
-- MEETS
def br_nx (s : Int) : Int := (1103515245 * s + 12345) % 2147483648
def br_dw (s : Int) : Int := s / 65536 % 10
def br_in (g : br_Gy) (r : br_Ro) (s : Int) : Nat → Nat × Int
  | 0 => (0, s)
  | i + 1 => (if br_dw (br_nx (br_in g r s i).2) < br_cr g r i then (br_in g r s i).1 else (br_in g r s i).1 + 2 ^ i, br_nx (br_in g r s i).2)
def br_me (g : br_Gy) (r : br_Ro) (s : Int) : Nat → Int × Int × Int
  | 0 => (0, 20000, s)
  | n + 1 => ((br_me g r s n).1 + (if (br_in g r (br_me g r s n).2.2 r.1).1 = 0 then 1 else 0), (br_me g r s n).2.1 + br_pt g r (br_in g r (br_me g r s n).2.2 r.1).1, (br_in g r (br_me g r s n).2.2 r.1).2)
def br_vMeets (A : br_A) (n s k : Int) : Int := match A with
  | (_, g, r, _) => if ¬ ((1 ≤ n ∧ n ≤ 60) ∧ 0 ≤ s ∧ 0 ≤ k ∧ k ≤ 2) then -102 else if g.1 = 0 then -103 else if k = 0 then (br_me g r s n.toNat).1 else if k = 1 then (br_me g r s n.toNat).2.1 else (br_me g r s n.toNat).2.2
theorem br_nx_bnd (s : Int) : 0 ≤ br_nx s ∧ br_nx s < 2147483648 := by unfold br_nx; omega
theorem br_in_bnd (g : br_Gy) (r : br_Ro) {s : Int} (hs : 0 ≤ s ∧ s < 2147483648) : ∀ i : Nat, (br_in g r s i).1 < 2 ^ i ∧ 0 ≤ (br_in g r s i).2 ∧ (br_in g r s i).2 < 2147483648 := by
  intro i
  induction i with
  | zero => exact ⟨by show 0 < 1; omega, hs⟩
  | succ i ih =>
    have h2 := br_nx_bnd (br_in g r s i).2
    have hp : 2 ^ (i + 1) = 2 * 2 ^ i := by rw [Nat.pow_succ]; omega
    refine ⟨?_, h2⟩
    have h1 := ih.1
    show (if br_dw (br_nx (br_in g r s i).2) < br_cr g r i then (br_in g r s i).1 else (br_in g r s i).1 + 2 ^ i) < 2 ^ (i + 1)
    rw [hp]
    by_cases h : br_dw (br_nx (br_in g r s i).2) < br_cr g r i
    · rw [if_pos h]; exact Nat.lt_of_lt_of_le h1 (Nat.le_mul_of_pos_left _ (by decide))
    · rw [if_neg h, Nat.two_mul]; exact Nat.add_lt_add_right h1 _
theorem br_me_bnd (g : br_Gy) (r : br_Ro) {s : Int} (hs : 0 ≤ s ∧ s < 2147483648) : ∀ n : Nat, 0 ≤ (br_me g r s n).2.2 ∧ (br_me g r s n).2.2 < 2147483648 := by
  intro n
  induction n with
  | zero => exact hs
  | succ n ih => exact (br_in_bnd g r ih r.1).2
theorem br_or2 {f i : Nat} (hi : i < 5) (hf : f < 2 ^ i) : br_J f ||| br_J ((2 ^ i : Nat) : Int) = br_J ((f + 2 ^ i : Nat) : Int) := by
  have key : ∀ i : Fin 5, ∀ f : Fin 16, (f : Nat) < 2 ^ (i : Nat) → br_J (f : Nat) ||| br_J ((2 ^ (i : Nat) : Nat) : Int) = br_J (((f : Nat) + 2 ^ (i : Nat) : Nat) : Int) := by decide +kernel
  have h16 : ∀ i : Fin 5, 2 ^ (i : Nat) ≤ 16 := by decide +kernel
  exact key ⟨i, hi⟩ ⟨f, Nat.lt_of_lt_of_le hf (h16 ⟨i, hi⟩)⟩ hf
-- the digest
def br_mx (h : Int64) (x : Int32) : Int64 := br_K 31 * h + x.toInt64
def br_fold (f : Nat → Int32) (h : Int64) : Nat → Int64
  | 0 => h
  | n + 1 => br_mx (br_fold f h n) (f n)
def br_dP (A : br_A) : Nat → Int64
  | 0 => br_K 1033
  | p + 1 => br_fold (fun k => br_vPiece A p k) (br_dP A p) 7
def br_d2 (A : br_A) : Int64 := br_fold (fun k => br_J (A.2.2.1.2 k : Nat)) (br_dP A A.2.1.1) A.2.2.1.1
def br_d3 (A : br_A) : Int64 := if A.2.1.1 = 0 then br_d2 A else br_mx (br_mx (br_mx (br_mx (br_mx (br_d2 A) (br_J (br_vScore A 0))) (br_J (br_vMean A 0))) (br_J (br_vMean A 1))) (br_J (br_vOdds A 10 0))) (br_J (br_vOdds A 10 1))
def br_d4 (A : br_A) : Int64 := br_fold (fun k => br_J (A.1.2 k)) (br_d3 A) A.1.1
def br_vDigest (A : br_A) : Int64 := br_fold (fun k => br_J (br_vCount A k)) (br_d4 A) 10
end
section
set_option maxHeartbeats 4000000 in
set_option maxRecDepth 100000 in
theorem c_X4_more {σ : br_Wd} {A : br_A} (hc : br_CR σ A) (hA : br_Aok A) (s : Int) (hbs : -2147483648 ≤ s ∧ s < 2147483648) : br_Met 5 mX4_more [br_r 0, br_i (br_J s)] σ (br_QC (br_J (br_vMore A s)) A σ) := by
  obtain ⟨w, g, r, c, t, n, b, kp, ri, ci, ti⟩ := A
  have hc0 := hc
  have hA0 := hA
  obtain ⟨⟨hw, hg, hr, ht⟩, ⟨hcc, hnn, hbb, hkp⟩, him⟩ := hc
  obtain ⟨⟨hwo, hgo, hro, hto⟩, ⟨hb30, hn512⟩, hio⟩ := hA
  have hw1 := hw.1
  have hg1 := hg.1
  have hr1 := hr.1
  have ht1 := ht.1
  have hw30 := hwo.1
  have hg7 := hgo.1
  have h5r := hro.1
  have h8t := hto.1
  have hk4 := fun (j : Nat) (hj : j < g.1) => (hgo.2 j hj).1
  have hrb := fun (j : Nat) (hj : j < r.1) => (show r.2 j < 7 by have := hro.2.1 j hj; omega)
  refine br_ofW (by decide) 4 rfl (fun G C => ?_)
  have loop : (-100 ≤ s ∧ s ≤ 100) → ¬ g.1 = 0 → r.1 < 5 → ∀ (m p : Nat) (τ : br_Wd) (a : Int × Int) (x : Option br_V), p + m = g.1 → a = br_mo g r s p → br_sm [11, 12] σ τ → G 48 [some (br_r 0), some (br_i (br_J s)), some (br_i (br_J a.1)), some (br_i (br_J a.2)), some (br_i (br_J p)), x] [] τ := by
    intro h1 h11 hlt5 m
    induction m with
    | zero =>
      intro p τ a x hpm ha hsm
      refine br_iload C dX4_more_48 rfl ?_
      refine br_aload_n C dX4_more_50 rfl rfl ?_
      refine br_getR C fdX4_19 dX4_more_51 rfl rfl ?_
      refine br_getI C fdX4_91 dX4_more_54 rfl rfl (x := br_J g.1) ((congrFun (hsm.1 3 (by decide)) 3).trans hg1) ?_
      refine br_icmp_geJ C (by omega) (by omega) dX4_more_57 (tgt := 120) (by decide) (fun c57 => ?_) (fun c57 => ?_)
      · refine br_iload_n C dX4_more_120 rfl rfl ?_
        exact br_iret C rfl dX4_more_121 ⟨congrArg (fun x => some (br_i (br_J x))) (show a.1 = br_vMore (w, g, r, c, t, n, b, kp, ri, ci, ti) s from by
            rw [ha, show p = g.1 by omega]
            exact ((if_neg (fun q => q h1)).trans (if_neg (fun q => q.elim (fun e => h11 e) (fun e => absurd e (by omega))))).symm), hc0.keep (fun p hp hq => hsm.1 p (by simp; omega)), hsm.fc (by decide)⟩
      · omega
    | succ m ih =>
      intro p τ a x hpm ha hsm
      have hrτ : br_RC 7 τ r := hr.keep (hsm.1 7 (by decide)) (hsm.1 8 (by decide))
      have hab := br_mo_bnd hgo hro hlt5 s p (by omega)
      rw [← ha] at hab
      refine br_iload C dX4_more_48 rfl ?_
      refine br_aload_n C dX4_more_50 rfl rfl ?_
      refine br_getR C fdX4_19 dX4_more_51 rfl rfl ?_
      refine br_getI C fdX4_91 dX4_more_54 rfl rfl (x := br_J g.1) ((congrFun (hsm.1 3 (by decide)) 3).trans hg1) ?_
      refine br_icmp_geJ C (by omega) (by omega) dX4_more_57 (tgt := 120) (by decide) (fun c57 => ?_) (fun c57 => ?_)
      · omega
      · refine br_aload_n C dX4_more_60 rfl rfl ?_
        refine br_getR C fdX4_28 dX4_more_61 rfl rfl ?_
        refine br_iload C dX4_more_64 rfl ?_
        refine br_cv1B C vcX4_109 (c_X2_holds (q := 7) rfl rfl hrτ h5r hro.2.2 hrb (p : Nat) (by omega)) (by decide) rfl rfl (fun _ => Nat.le_of_ble_eq_true rfl) dX4_more_66 (fun h66 => ?_) (fun h66 => ?_)
        · refine br_if_ne1 C dX4_more_69 (tgt := 114) (by decide) ?_
          refine br_iincJ C dX4_more_114 rfl (by decide) rfl (L' := [_, _, _, _, _, _]) rfl ?_
          refine br_goto C dX4_more_117 (tgt := 48) (by decide) ?_
          refine ih (p + 1) _ _ _ (by omega) (show (_, _) = br_mo g r s (p + 1) from ?_) (by first | exact hsm | exact hsm2)
          unfold br_mo
          rw [← ha]
          first
            | (rw [if_pos ⟨Decidable.not_not.mp h66, c105⟩]; done)
            | (rw [if_pos ⟨Decidable.not_not.mp h66, c105⟩]; rfl)
            | rw [if_neg (fun q => absurd q.2 (by omega))]
            | rw [if_neg (fun q => h66 q.1)]
        · refine br_if_ne0 C dX4_more_69 (tgt := 114) (by decide) ?_
          refine br_aload_n C dX4_more_72 rfl rfl ?_
          refine br_getR C fdX4_56 dX4_more_73 rfl rfl ?_
          refine br_aload_n C dX4_more_76 rfl rfl ?_
          refine br_getR C fdX4_28 dX4_more_77 rfl rfl ?_
          refine br_cv1 C vcX4_169 (c_X2_copyFrom (q := 11) rfl rfl (q2 := 7) rfl rfl hrτ h5r (by omega)) (by decide) rfl rfl (fun _ => Nat.le_of_ble_eq_true rfl) dX4_more_80 (fun v80 τ80 hv => ?_)
          obtain ⟨rfl, hr11, hs1⟩ := hv
          refine br_aload_n C dX4_more_83 rfl rfl ?_
          refine br_getR C fdX4_56 dX4_more_84 rfl rfl ?_
          refine br_iload C dX4_more_87 rfl ?_
          refine br_cv1 C vcX4_125 (c_X2_append (q := 11) rfl rfl hr11 h5r p hlt5) (by decide) rfl rfl (fun _ => Nat.le_of_ble_eq_true rfl) dX4_more_89 (fun v89 τ89 hv => ?_)
          obtain ⟨rfl, hra, hs2⟩ := hv
          have hsm2 := (hsm.trans hs1).trans hs2
          have hok := br_Rok_app hro (show p < g.1 by omega) (Decidable.not_not.mp h66) hlt5
          have hob2 := br_od_bnd hgo hok s
          refine br_aload_n C dX4_more_92 rfl rfl ?_
          refine br_getR C fdX4_56 dX4_more_93 rfl rfl ?_
          refine br_iload_n C dX4_more_96 rfl rfl ?_
          refine br_cv1R C vcX4_160 (c_X2_partsWith (q := 11) rfl rfl (hg.keep (hsm2.1 3 (by decide)) (hsm2.1 4 (by decide)) (hsm2.1 5 (by decide)) (hsm2.1 6 (by decide))) hgo hra hok s h1) (by decide) rfl rfl (fun _ => Nat.le_of_ble_eq_true rfl) dX4_more_97 ?_
          refine br_istore C dX4_more_100 (by decide) rfl (L' := [_, _, _, _, _, _]) rfl ?_
          refine br_iload C dX4_more_102 rfl ?_
          refine br_iload_n C dX4_more_104 rfl rfl ?_
          refine br_icmp_leJ C (by omega) (by omega) dX4_more_105 (tgt := 114) (by decide) (fun c105 => ?_) (fun c105 => ?_)
          · refine br_iincJ C dX4_more_114 rfl (by decide) rfl (L' := [_, _, _, _, _, _]) rfl ?_
            refine br_goto C dX4_more_117 (tgt := 48) (by decide) ?_
            refine ih (p + 1) _ _ _ (by omega) (show (_, _) = br_mo g r s (p + 1) from ?_) (by first | exact hsm | exact hsm2)
            unfold br_mo
            rw [← ha]
            first
              | (rw [if_pos ⟨Decidable.not_not.mp h66, c105⟩]; done)
              | (rw [if_pos ⟨Decidable.not_not.mp h66, c105⟩]; rfl)
              | rw [if_neg (fun q => absurd q.2 (by omega))]
              | rw [if_neg (fun q => h66 q.1)]
          · refine br_iload C dX4_more_108 rfl ?_
            refine br_istore_n C dX4_more_110 rfl (by decide) rfl (L' := [_, _, _, _, _, _]) rfl ?_
            refine br_iload C dX4_more_111 rfl ?_
            refine br_istore_n C dX4_more_113 rfl (by decide) rfl (L' := [_, _, _, _, _, _]) rfl ?_
            refine br_iincJ C dX4_more_114 rfl (by decide) rfl (L' := [_, _, _, _, _, _]) rfl ?_
            refine br_goto C dX4_more_117 (tgt := 48) (by decide) ?_
            refine ih (p + 1) _ _ _ (by omega) (show (_, _) = br_mo g r s (p + 1) from ?_) (by first | exact hsm | exact hsm2)
            unfold br_mo
            rw [← ha]
            first
              | (rw [if_pos ⟨Decidable.not_not.mp h66, c105⟩]; done)
              | (rw [if_pos ⟨Decidable.not_not.mp h66, c105⟩]; rfl)
              | rw [if_neg (fun q => absurd q.2 (by omega))]
              | rw [if_neg (fun q => h66 q.1)]
  have hob := br_od_bnd hgo hro s
  refine br_iload_n C dX4_more_0 rfl rfl ?_
  refine br_cs1B C scX4_157 (c_X4_isScore s hbs) (by decide) (fun _ => Nat.le_of_ble_eq_true rfl) dX4_more_1 (fun h1 => ?_) (fun h1 => ?_)
  · refine br_if_ne1 C dX4_more_4 (tgt := 10) (by decide) ?_
    refine br_aload_n C dX4_more_10 rfl rfl ?_
    refine br_cv0B C vcX4_141 (c_X4_noGym (A := (w, g, r, c, t, n, b, kp, ri, ci, ti)) hc0 hA0) (by decide) rfl rfl (fun _ => Nat.le_of_ble_eq_true rfl) dX4_more_11 (fun h11 => ?_) (fun h11 => ?_)
    · refine br_if_ne1 C dX4_more_14 (tgt := 28) (by decide) ?_
      refine br_bipushJ C (by decide) dX4_more_28 ?_
      exact br_iret C rfl dX4_more_30 ⟨congrArg (fun x => some (br_i (br_J x))) (show _ = br_vMore (w, g, r, c, t, n, b, kp, ri, ci, ti) s from ((if_neg (fun q => q h1)).trans (if_pos (by first | exact Or.inl h11 | (exact Or.inr (by omega))))).symm), hc0, br_fc.rfl⟩
    · refine br_if_ne0 C dX4_more_14 (tgt := 28) (by decide) ?_
      refine br_aload_n C dX4_more_17 rfl rfl ?_
      refine br_getR C fdX4_28 dX4_more_18 rfl rfl ?_
      refine br_getI C fdX4_87 dX4_more_21 rfl rfl (by assumption) ?_
      refine br_iconstJ C dX4_more_24 ?_
      refine br_icmp_ltJ C (by omega) (by omega) dX4_more_25 (tgt := 31) (by decide) (fun c25 => ?_) (fun c25 => ?_)
      · refine br_iconstJ C dX4_more_31 ?_
        refine br_istore_n C dX4_more_32 rfl (by decide) rfl (L' := [_, _, _, _, _, _]) rfl ?_
        refine br_aload_n C dX4_more_33 rfl rfl ?_
        refine br_getR C fdX4_28 dX4_more_34 rfl rfl ?_
        refine br_iload_n C dX4_more_37 rfl rfl ?_
        refine br_cv1R C vcX4_160 (c_X2_partsWith (q := 7) rfl rfl hg hgo hr hro s h1) (by decide) rfl rfl (fun _ => Nat.le_of_ble_eq_true rfl) dX4_more_38 ?_
        refine br_bipushJ C (by decide) dX4_more_41 ?_
        refine br_imulJ C dX4_more_43 ?_
        refine br_istore_n C dX4_more_44 rfl (by decide) rfl (L' := [_, _, _, _, _, _]) rfl ?_
        refine br_iconstJ C dX4_more_45 ?_
        refine br_istore C dX4_more_46 (by decide) rfl (L' := [_, _, _, _, _, _]) rfl ?_
        exact loop h1 h11 (by omega) g.1 0 σ (-1, br_od g r s * 10) _ (by omega) (by show (-1, br_od g r s * 10) = ((-1 : Int), br_od g r s * 10); rfl) br_sm.rfl
      · refine br_bipushJ C (by decide) dX4_more_28 ?_
        exact br_iret C rfl dX4_more_30 ⟨congrArg (fun x => some (br_i (br_J x))) (show _ = br_vMore (w, g, r, c, t, n, b, kp, ri, ci, ti) s from ((if_neg (fun q => q h1)).trans (if_pos (by first | exact Or.inl h11 | (exact Or.inr (by omega))))).symm), hc0, br_fc.rfl⟩
  · refine br_if_ne0 C dX4_more_4 (tgt := 10) (by decide) ?_
    refine br_bipushJ C (by decide) dX4_more_7 ?_
    exact br_iret C rfl dX4_more_9 ⟨congrArg (fun x => some (br_i (br_J x))) (show _ = br_vMore (w, g, r, c, t, n, b, kp, ri, ci, ti) s from (if_pos h1).symm), hc0, br_fc.rfl⟩

set_option maxHeartbeats 4000000 in
set_option maxRecDepth 100000 in
theorem c_X4_picksOf {σ : br_Wd} {n : Nat} (hn0 : σ.1 3 3 = br_J n) (k : Nat) (hk : k ≤ 3) : br_Met 0 mX4_picksOf [br_r 0, br_i (br_J k)] σ (br_R (br_J ((n ^ k : Nat) : Int)) σ) := by
  refine br_ofW (by decide) 2 rfl (fun G C => ?_)
  have loop : ∀ (m i : Nat) (a : Int), i + m = k → a = (fun i : Nat => ((n ^ i : Nat) : Int)) i → G 4 [some (br_r 0), some (br_i (br_J k)), some (br_i (br_J a)), some (br_i (br_J i))] [] σ := by
    intro m
    induction m with
    | zero =>
      intro i a hin ha
      have ei : i = k := by omega
      subst ei
      refine br_iload_n C dX4_picksOf_4 rfl rfl ?_
      refine br_iload_n C dX4_picksOf_5 rfl rfl ?_
      refine br_icmp_geJ C (by omega) (by omega) dX4_picksOf_6 (tgt := 25) (by decide) (fun c6 => ?_) (fun c6 => ?_)
      · refine br_iload_n C dX4_picksOf_25 rfl rfl ?_
        exact br_iret C rfl dX4_picksOf_26 ⟨by rw [ha], rfl⟩
      · omega
    | succ m ih =>
      intro i a hin ha
      have hi : i < k := by omega
      refine br_iload_n C dX4_picksOf_4 rfl rfl ?_
      refine br_iload_n C dX4_picksOf_5 rfl rfl ?_
      refine br_icmp_geJ C (by omega) (by omega) dX4_picksOf_6 (tgt := 25) (by decide) (fun c6 => ?_) (fun c6 => ?_)
      · omega
      · refine br_iload_n C dX4_picksOf_9 rfl rfl ?_
        refine br_aload_n C dX4_picksOf_10 rfl rfl ?_
        refine br_getR C fdX4_19 dX4_picksOf_11 rfl rfl ?_
        refine br_getI C fdX4_91 dX4_picksOf_14 rfl rfl (by assumption) ?_
        refine br_imulJ C dX4_picksOf_17 ?_
        refine br_istore_n C dX4_picksOf_18 rfl (by decide) rfl (L' := [_, _, _, _]) rfl ?_
        refine br_iincJ C dX4_picksOf_19 rfl (by decide) rfl (L' := [_, _, _, _]) rfl ?_
        refine br_goto C dX4_picksOf_22 (tgt := 4) (by decide) ?_
        exact ih (i + 1) _ (by omega) (by show _ = ((n ^ (i + 1) : Nat) : Int); rw [ha, Nat.pow_succ, Int.natCast_mul])
  refine br_iconstJ C dX4_picksOf_0 ?_
  refine br_istore_n C dX4_picksOf_1 rfl (by decide) rfl (L' := [_, _, _, _]) rfl ?_
  refine br_iconstJ C dX4_picksOf_2 ?_
  refine br_istore_n C dX4_picksOf_3 rfl (by decide) rfl (L' := [_, _, _, _]) rfl ?_
  exact loop k 0 1 (by omega) rfl

theorem br_RC_zero {q : Nat} {σ : br_Wd} (r : br_Ro) (h : σ.1 q 2 = br_J 0) : br_RC q σ (0, r.2) := ⟨h, fun j hj => absurd hj (Nat.not_lt_zero j)⟩

set_option maxHeartbeats 4000000 in
set_option maxRecDepth 100000 in
theorem c_X4_pickByNumber {σ : br_Wd} {n : Nat} (hn0 : σ.1 3 3 = br_J n) (hn1 : 0 < n) (hn7 : n ≤ 7) (c m : Nat) (hm : 1 ≤ m ∧ m ≤ 3) (hc : c < 343) : br_Met 2 mX4_pickByNumber [br_r 0, br_i (br_J c), br_i (br_J m)] σ (fun v τ => v = some (br_i (br_J (if br_dst n m c then 1 else 0))) ∧ (br_dst n m c → br_RC 11 τ (br_rw n m c)) ∧ br_sm [11, 12] σ τ) := by
  refine br_ofW (by decide) 3 rfl (fun G C => ?_)
  have loop : ∀ (k i : Nat) (τ : br_Wd) (u : Int) (x : Option br_V), i + k = m → (i < m → u = ((n ^ (m - 1 - i) : Nat) : Int)) → br_sm [11, 12] σ τ → br_RC 11 τ (i, fun j => br_dg n m c j) → (∀ j : Nat, j < i → ∀ i2 : Nat, i2 < j → ¬ br_dg n m c i2 = br_dg n m c j) → G 19 [some (br_r 0), some (br_i (br_J c)), some (br_i (br_J m)), some (br_i (br_J u)), some (br_i (br_J i)), x] [] τ := by
    intro k
    induction k with
    | zero =>
      intro i τ u x him hux hsm hrτ hd0
      have hd : br_dst n m c := fun j hj => hd0 j (by omega)
      refine br_iload C dX4_pickByNumber_19 rfl ?_
      refine br_iload_n C dX4_pickByNumber_21 rfl rfl ?_
      refine br_icmp_geJ C (by omega) (by omega) dX4_pickByNumber_22 (tgt := 93) (by decide) (fun c22 => ?_) (fun c22 => ?_)
      · refine br_iconstJ C dX4_pickByNumber_93 ?_
        exact br_zret C (by decide) rfl dX4_pickByNumber_94 ⟨by rw [if_pos hd], fun _ => by rw [show i = m by omega] at hrτ; exact hrτ, hsm⟩
      · omega
    | succ k ih =>
      intro i τ u x him hux hsm hrτ hd0
      have hi : i < m := by omega
      have hdis : ∀ a b : Nat, a < i → b < i → br_dg n m c a = br_dg n m c b → a = b := fun a b ha hb e => by
        rcases Nat.lt_trichotomy a b with h | h | h
        · exact absurd e (hd0 b hb a h)
        · exact h
        · exact absurd e.symm (hd0 a ha b h)
      refine br_iload C dX4_pickByNumber_19 rfl ?_
      refine br_iload_n C dX4_pickByNumber_21 rfl rfl ?_
      refine br_icmp_geJ C (by omega) (by omega) dX4_pickByNumber_22 (tgt := 93) (by decide) (fun c22 => ?_) (fun c22 => ?_)
      · omega
      · have hu1 := hux hi
        have hup : 0 < n ^ (m - 1 - i) := Nat.pow_pos hn1
        have hup2 : n ^ (m - 1 - i) ≤ 343 := br_pow7 hn7 (by omega)
        have hdl : br_dg n m c i < n := Nat.mod_lt _ hn1
        rw [hu1]
        refine br_iload_n C dX4_pickByNumber_25 rfl rfl ?_
        refine br_if_eqJ C (by omega) dX4_pickByNumber_26 (tgt := 39) (by decide) (fun c26 => ?_) (fun c26 => ?_)
        · omega
        · refine br_aload_n C dX4_pickByNumber_29 rfl rfl ?_
          refine br_getR C fdX4_19 dX4_pickByNumber_30 rfl rfl ?_
          refine br_getI C fdX4_91 dX4_pickByNumber_33 rfl rfl (x := br_J n) ((congrFun (hsm.1 3 (by decide)) 3).trans hn0) ?_
          refine br_if_neJ C (by omega) dX4_pickByNumber_36 (tgt := 41) (by decide) (fun c36 => ?_) (fun c36 => ?_)
          · refine br_iload_n C dX4_pickByNumber_41 rfl rfl ?_
            refine br_iload_n C dX4_pickByNumber_42 rfl rfl ?_
            refine br_idivJ C (by omega) (by omega) dX4_pickByNumber_43 ?_
            refine br_aload_n C dX4_pickByNumber_44 rfl rfl ?_
            refine br_getR C fdX4_19 dX4_pickByNumber_45 rfl rfl ?_
            refine br_getI C fdX4_91 dX4_pickByNumber_48 rfl rfl (x := br_J n) ((congrFun (hsm.1 3 (by decide)) 3).trans hn0) ?_
            refine br_iremJ C (by
                refine ⟨Int.ediv_nonneg (by omega) (by omega), ?_⟩
                have := Int.ediv_le_self (a := (c : Int)) ((n ^ (m - 1 - i) : Nat) : Int) (by omega)
                omega) (by omega) dX4_pickByNumber_51 ?_
            rw [show ((c : Int) / ((n ^ (m - 1 - i) : Nat) : Int)) % (n : Int) = ((br_dg n m c i : Nat) : Int) by unfold br_dg; rw [Int.natCast_emod, Int.natCast_ediv]]
            refine br_istore C dX4_pickByNumber_52 (by decide) rfl (L' := [_, _, _, _, _, _]) rfl ?_
            refine br_aload_n C dX4_pickByNumber_54 rfl rfl ?_
            refine br_getR C fdX4_56 dX4_pickByNumber_55 rfl rfl ?_
            refine br_iload C dX4_pickByNumber_58 rfl ?_
            refine br_cv1B C vcX4_109 (c_X2_holds (q := 11) rfl rfl hrτ (show i ≤ 5 by omega) (fun a b ha hb e => hdis a b ha hb e) (fun j _ => Nat.lt_of_lt_of_le (Nat.mod_lt _ hn1) hn7) (br_dg n m c i : Nat) (by omega)) (by decide) rfl rfl (fun _ => Nat.le_of_ble_eq_true rfl) dX4_pickByNumber_60 (fun h60 => ?_) (fun h60 => ?_)
            · refine br_if_eq1 C dX4_pickByNumber_63 (tgt := 68) (by decide) ?_
              refine br_iconstJ C dX4_pickByNumber_66 ?_
              exact br_zret C (by decide) rfl dX4_pickByNumber_67 ⟨by rw [if_neg (fun q => h60 (br_po_neg' (fun j hj e => q i hi j hj e)))], fun q => absurd q (fun q => h60 (br_po_neg' (fun j hj e => q i hi j hj e))), hsm⟩
            · refine br_if_eq0 C dX4_pickByNumber_63 (tgt := 68) (by decide) ?_
              refine br_aload_n C dX4_pickByNumber_68 rfl rfl ?_
              refine br_getR C fdX4_56 dX4_pickByNumber_69 rfl rfl ?_
              refine br_iload C dX4_pickByNumber_72 rfl ?_
              refine br_cv1 C vcX4_125 (c_X2_append (q := 11) rfl rfl hrτ (show i ≤ 5 by omega) (br_dg n m c i) (by show i < 5; omega)) (by decide) rfl rfl (fun _ => Nat.le_of_ble_eq_true rfl) dX4_pickByNumber_74 (fun v74 τ74 hv => ?_)
              obtain ⟨rfl, hra, hs2⟩ := hv
              have hsm2 := hsm.trans hs2
              refine br_iload_n C dX4_pickByNumber_77 rfl rfl ?_
              refine br_aload_n C dX4_pickByNumber_78 rfl rfl ?_
              refine br_getR C fdX4_19 dX4_pickByNumber_79 rfl rfl ?_
              refine br_getI C fdX4_91 dX4_pickByNumber_82 rfl rfl (x := br_J n) ((congrFun (hsm2.1 3 (by decide)) 3).trans hn0) ?_
              refine br_idivJ C (by omega) (by omega) dX4_pickByNumber_85 ?_
              refine br_istore_n C dX4_pickByNumber_86 rfl (by decide) rfl (L' := [_, _, _, _, _, _]) rfl ?_
              refine br_iincJ C dX4_pickByNumber_87 rfl (by decide) rfl (L' := [_, _, _, _, _, _]) rfl ?_
              refine br_goto C dX4_pickByNumber_90 (tgt := 19) (by decide) ?_
              have hno := br_po_neg (Decidable.not_not.mp h60)
              refine ih (i + 1) τ74 _ _ (by omega) (fun hi2 => ?_) hsm2 ⟨hra.1, fun j hj => ?_⟩ (fun j hj i2 hi2 => ?_)
              · rw [← Int.natCast_ediv]
                congr 1
                rw [show m - 1 - i = (m - 1 - (i + 1)) + 1 by omega, Nat.pow_succ]
                exact Nat.mul_div_cancel _ hn1
              · have h9 := hra.2 j hj
                rw [h9]
                show br_J ((if j = i then br_dg n m c i else br_dg n m c j : Nat) : Int) = _
                by_cases e : j = i
                · rw [if_pos e, e]
                · rw [if_neg e]
              · rcases Nat.lt_or_ge j i with q | q
                · exact hd0 j q i2 hi2
                · rw [show j = i by omega]; exact hno i2 (by show i2 < i; omega)
          · omega
  refine br_aload_n C dX4_pickByNumber_0 rfl rfl ?_
  refine br_getR C fdX4_56 dX4_pickByNumber_1 rfl rfl ?_
  refine br_iconstJ C dX4_pickByNumber_4 ?_
  refine br_putI C fdX4_87 dX4_pickByNumber_5 rfl rfl rfl ?_
  refine br_aload_n C dX4_pickByNumber_8 rfl rfl ?_
  refine br_iload_n C dX4_pickByNumber_9 rfl rfl ?_
  refine br_iconstJ C dX4_pickByNumber_10 ?_
  refine br_isubJ C dX4_pickByNumber_11 ?_
  have hpk := c_X4_picksOf (σ := br_up σ 11 2 (br_J 0)) (n := n) hn0 (m - 1) (by omega)
  rw [show ((m - 1 : Nat) : Int) = (m : Int) - 1 by omega] at hpk
  refine br_cv1R C vcX4_228 (hpk) (by decide) rfl rfl (fun _ => Nat.le_of_ble_eq_true rfl) dX4_pickByNumber_12 ?_
  refine br_istore_n C dX4_pickByNumber_15 rfl (by decide) rfl (L' := [_, _, _, _, _, _]) rfl ?_
  refine br_iconstJ C dX4_pickByNumber_16 ?_
  refine br_istore C dX4_pickByNumber_17 (by decide) rfl (L' := [_, _, _, _, _, _]) rfl ?_
  exact loop m 0 _ _ _ (by omega) (fun _ => by rw [show m - 1 - 0 = m - 1 by omega]) (br_sm.rfl.up (by simp)) ⟨rfl, fun j hj => absurd hj (Nat.not_lt_zero j)⟩ (fun j hj => absurd hj (Nat.not_lt_zero j))

set_option maxHeartbeats 4000000 in
set_option maxRecDepth 100000 in
theorem c_X4_findFinest {σ : br_Wd} {g : br_Gy} (hg : br_GC σ g) (hgo : br_Gok g) (hn1 : 0 < g.1) (m : Nat) (hm : 1 ≤ m ∧ m ≤ 3) : br_Met 5 mX4_findFinest [br_r 0, br_i (br_J m)] σ (fun v τ => v = none ∧ (match br_bs g m (g.1 ^ m) with
    | none => True
    | some c2 => br_RC 13 τ (br_rw g.1 m c2)) ∧ br_sm [11, 12, 13, 14] σ τ) := by
  have hg7 := hgo.1
  have hp7 := br_pow7 hg7 (show m ≤ 3 by omega)
  refine br_ofW (by decide) 4 rfl (fun G C => ?_)
  have loop : ∀ (k c : Nat) (τ : br_Wd) (a : Int) (x : Option br_V), c + k = g.1 ^ m → br_sm [11, 12, 13, 14] σ τ → (0 ≤ a ∧ a ≤ 25500) → (match br_bs g m c with
      | none => a = 0
      | some c2 => a = br_mh g (br_rw g.1 m c2) ∧ br_RC 13 τ (br_rw g.1 m c2)) → G 11 [some (br_r 0), some (br_i (br_J m)), some (br_i (br_J ((g.1 ^ m : Nat) : Int))), some (br_i (br_J a)), some (br_i (br_J c)), x] [] τ := by
    intro k
    induction k with
    | zero =>
      intro c τ a x hck hsm hab hbest0
      have hbest : (match br_bs g m c with
        | none => True
        | some c2 => br_RC 13 τ (br_rw g.1 m c2)) := by
        cases hb : br_bs g m c with
        | none => trivial
        | some c2 => rw [hb] at hbest0; exact hbest0.2
      refine br_iload C dX4_findFinest_11 rfl ?_
      refine br_iload_n C dX4_findFinest_13 rfl rfl ?_
      refine br_icmp_geJ C (by omega) (by omega) dX4_findFinest_14 (tgt := 62) (by decide) (fun c14 => ?_) (fun c14 => ?_)
      · exact br_vret C rfl dX4_findFinest_62 ⟨rfl, by rw [show c = g.1 ^ m by omega] at hbest; exact hbest, hsm⟩
      · omega
    | succ k ih =>
      intro c τ a x hck hsm hab hbest0
      have hgτ : br_GC τ g := hg.keep (hsm.1 3 (by decide)) (hsm.1 4 (by decide)) (hsm.1 5 (by decide)) (hsm.1 6 (by decide))
      refine br_iload C dX4_findFinest_11 rfl ?_
      refine br_iload_n C dX4_findFinest_13 rfl rfl ?_
      refine br_icmp_geJ C (by omega) (by omega) dX4_findFinest_14 (tgt := 62) (by decide) (fun c14 => ?_) (fun c14 => ?_)
      · omega
      · refine br_aload_n C dX4_findFinest_17 rfl rfl ?_
        refine br_iload C dX4_findFinest_18 rfl ?_
        refine br_iload_n C dX4_findFinest_20 rfl rfl ?_
        refine br_cv2 C vcX4_231 (c_X4_pickByNumber hgτ.1 hn1 hg7 c m hm (by omega)) (by decide) rfl rfl (fun _ => Nat.le_of_ble_eq_true rfl) dX4_findFinest_21 (fun v21 τ21 hv => ?_)
        obtain ⟨rfl, hrw, hs1⟩ := hv
        have hsm1 := hsm.trans (hs1.mono (qs' := [11, 12, 13, 14]) (by decide))
        refine br_if_eqJ C (by omega) dX4_findFinest_24 (tgt := 56) (by decide) (fun c24 => ?_) (fun c24 => ?_)
        · have hd : ¬ br_dst g.1 m c := fun q => by rw [if_pos q] at c24; omega
          refine br_iincJ C dX4_findFinest_56 rfl (by decide) rfl (L' := [_, _, _, _, _, _]) rfl ?_
          refine br_goto C dX4_findFinest_59 (tgt := 11) (by decide) ?_
          refine ih (c + 1) τ21 _ _ (by omega) hsm1 hab ?_
          unfold br_bs
          rw [if_neg hd]
          cases hb : br_bs g m c with
          | none => rw [hb] at hbest0; exact hbest0
          | some c2 => rw [hb] at hbest0; exact ⟨hbest0.1, hbest0.2.keep (hs1.1 13 (by decide)) (hs1.1 14 (by decide))⟩
        · have hd : br_dst g.1 m c := by
            by_cases q : br_dst g.1 m c
            · exact q
            · rw [if_neg q] at c24; omega
          have hok := br_Rok_rw hn1 (show m ≤ 5 by omega) hd
          have hgτ1 : br_GC τ21 g := hg.keep (hsm1.1 3 (by decide)) (hsm1.1 4 (by decide)) (hsm1.1 5 (by decide)) (hsm1.1 6 (by decide))
          have hmb := br_mh_bnd hgo hok
          refine br_aload_n C dX4_findFinest_27 rfl rfl ?_
          refine br_getR C fdX4_56 dX4_findFinest_28 rfl rfl ?_
          refine br_cv0R C vcX4_150 (c_X2_meanInHundredths (q := 11) rfl rfl hgτ1 hgo (hrw hd) hok) (by decide) rfl rfl (fun _ => Nat.le_of_ble_eq_true rfl) dX4_findFinest_31 ?_
          refine br_istore C dX4_findFinest_34 (by decide) rfl (L' := [_, _, _, _, _, _]) rfl ?_
          refine br_iload C dX4_findFinest_36 rfl ?_
          refine br_iload_n C dX4_findFinest_38 rfl rfl ?_
          refine br_icmp_leJ C (by omega) (by omega) dX4_findFinest_39 (tgt := 56) (by decide) (fun c39 => ?_) (fun c39 => ?_)
          · refine br_iincJ C dX4_findFinest_56 rfl (by decide) rfl (L' := [_, _, _, _, _, _]) rfl ?_
            refine br_goto C dX4_findFinest_59 (tgt := 11) (by decide) ?_
            refine ih (c + 1) τ21 _ _ (by omega) hsm1 hab ?_
            unfold br_bs
            rw [if_pos hd]
            cases hb : br_bs g m c with
            | none => rw [hb] at hbest0; have hbest1 : a = 0 := hbest0; omega
            | some c2 =>
              rw [hb] at hbest0
              have hbest1 : a = br_mh g (br_rw g.1 m c2) ∧ br_RC 13 τ (br_rw g.1 m c2) := hbest0
              simp only
              rw [if_neg (by omega)]
              exact ⟨hbest1.1, hbest1.2.keep (hs1.1 13 (by decide)) (hs1.1 14 (by decide))⟩
          · refine br_iload C dX4_findFinest_42 rfl ?_
            refine br_istore_n C dX4_findFinest_44 rfl (by decide) rfl (L' := [_, _, _, _, _, _]) rfl ?_
            refine br_aload_n C dX4_findFinest_45 rfl rfl ?_
            refine br_getR C fdX4_59 dX4_findFinest_46 rfl rfl ?_
            refine br_aload_n C dX4_findFinest_49 rfl rfl ?_
            refine br_getR C fdX4_56 dX4_findFinest_50 rfl rfl ?_
            refine br_cv1 C vcX4_169 (c_X2_copyFrom (q := 13) rfl rfl (q2 := 11) rfl rfl (hrw hd) (by show m ≤ 5; omega) (by omega)) (by decide) rfl rfl (fun _ => Nat.le_of_ble_eq_true rfl) dX4_findFinest_53 (fun v53 τ53 hv => ?_)
            obtain ⟨rfl, hr13, hs2⟩ := hv
            have hsm2 := hsm1.trans (hs2.mono (qs' := [11, 12, 13, 14]) (by decide))
            refine br_iincJ C dX4_findFinest_56 rfl (by decide) rfl (L' := [_, _, _, _, _, _]) rfl ?_
            refine br_goto C dX4_findFinest_59 (tgt := 11) (by decide) ?_
            refine ih (c + 1) τ53 _ _ (by omega) hsm2 (by omega) ?_
            unfold br_bs
            rw [if_pos hd]
            cases hb : br_bs g m c with
            | none => exact ⟨rfl, hr13⟩
            | some c2 =>
              rw [hb] at hbest0
              have hbest1 : a = br_mh g (br_rw g.1 m c2) ∧ br_RC 13 τ (br_rw g.1 m c2) := hbest0
              simp only
              rw [if_pos (by omega)]
              exact ⟨rfl, hr13⟩
  refine br_aload_n C dX4_findFinest_0 rfl rfl ?_
  refine br_iload_n C dX4_findFinest_1 rfl rfl ?_
  refine br_cv1R C vcX4_228 (c_X4_picksOf hg.1 m (by omega)) (by decide) rfl rfl (fun _ => Nat.le_of_ble_eq_true rfl) dX4_findFinest_2 ?_
  refine br_istore_n C dX4_findFinest_5 rfl (by decide) rfl (L' := [_, _, _, _, _, _]) rfl ?_
  refine br_iconstJ C dX4_findFinest_6 ?_
  refine br_istore_n C dX4_findFinest_7 rfl (by decide) rfl (L' := [_, _, _, _, _, _]) rfl ?_
  refine br_iconstJ C dX4_findFinest_8 ?_
  refine br_istore C dX4_findFinest_9 (by decide) rfl (L' := [_, _, _, _, _, _]) rfl ?_
  exact loop (g.1 ^ m) 0 σ 0 _ (by omega) br_sm.rfl (by omega) rfl
end
