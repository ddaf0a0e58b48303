section
-- ===== PART A: goes FIRST, ahead of the names: the tables' words, and 'selects' of the private methods out of them =====
/-- a private method of a class that the tables say can be made, by its rows of tables_1 -/
def lw_okq (q : MethodName × Nat) : Prop := (q.1.cls ≠ "java/lang/invoke/MethodHandle" ∧ q.1.cls ≠ "java/lang/invoke/VarHandle") ∧ Cond.instantiable q.1.cls q.2 ∈ tables_1 ∧ Cond.privateMethod q.1 ∈ tables_1 ∧ Cond.instanceMethod q.1 ∈ tables_1
theorem lw_p0 : lw_okq (⟨"AdvanceBook$Papers", "isTold", "(IIIII)Z"⟩, 11) := ⟨⟨by decide +kernel, by decide +kernel⟩, List.mem_of_getElem? (i := 37) (by decide +kernel), List.mem_of_getElem? (i := 313) (by decide +kernel), List.mem_of_getElem? (i := 314) (by decide +kernel)⟩
theorem lw_p1 : lw_okq (⟨"AdvanceBook$Balance", "addMove", "(II)V"⟩, 5) := ⟨⟨by decide +kernel, by decide +kernel⟩, List.mem_of_getElem? (i := 156) (by decide +kernel), List.mem_of_getElem? (i := 343) (by decide +kernel), List.mem_of_getElem? (i := 344) (by decide +kernel)⟩
theorem lw_p2 : lw_okq (⟨"AdvanceBook$Reader", "step", "()V"⟩, 7) := ⟨⟨by decide +kernel, by decide +kernel⟩, List.mem_of_getElem? (i := 126) (by decide +kernel), List.mem_of_getElem? (i := 402) (by decide +kernel), List.mem_of_getElem? (i := 403) (by decide +kernel)⟩
theorem lw_p3 : lw_okq (⟨"AdvanceBook$Reader", "isInARow", "()Z"⟩, 7) := ⟨⟨by decide +kernel, by decide +kernel⟩, List.mem_of_getElem? (i := 126) (by decide +kernel), List.mem_of_getElem? (i := 409) (by decide +kernel), List.mem_of_getElem? (i := 410) (by decide +kernel)⟩
theorem lw_p4 : lw_okq (⟨"AdvanceBook$Reader", "readLine", "(LAdvanceBook$Decree;)V"⟩, 7) := ⟨⟨by decide +kernel, by decide +kernel⟩, List.mem_of_getElem? (i := 126) (by decide +kernel), List.mem_of_getElem? (i := 413) (by decide +kernel), List.mem_of_getElem? (i := 414) (by decide +kernel)⟩
theorem lw_p5 : lw_okq (⟨"AdvanceBook$Reader", "isWord", "(Ljava/lang/String;)Z"⟩, 7) := ⟨⟨by decide +kernel, by decide +kernel⟩, List.mem_of_getElem? (i := 126) (by decide +kernel), List.mem_of_getElem? (i := 418) (by decide +kernel), List.mem_of_getElem? (i := 419) (by decide +kernel)⟩
theorem lw_p6 : lw_okq (⟨"AdvanceBook$Reader", "readCut", "(LAdvanceBook$Decree;)V"⟩, 7) := ⟨⟨by decide +kernel, by decide +kernel⟩, List.mem_of_getElem? (i := 126) (by decide +kernel), List.mem_of_getElem? (i := 470) (by decide +kernel), List.mem_of_getElem? (i := 471) (by decide +kernel)⟩
theorem lw_p7 : lw_okq (⟨"AdvanceBook$Reader", "blameRankOf", "([I)V"⟩, 7) := ⟨⟨by decide +kernel, by decide +kernel⟩, List.mem_of_getElem? (i := 126) (by decide +kernel), List.mem_of_getElem? (i := 474) (by decide +kernel), List.mem_of_getElem? (i := 475) (by decide +kernel)⟩
theorem lw_p8 : lw_okq (⟨"AdvanceBook$Reader", "numberAtHand", "()I"⟩, 7) := ⟨⟨by decide +kernel, by decide +kernel⟩, List.mem_of_getElem? (i := 126) (by decide +kernel), List.mem_of_getElem? (i := 478) (by decide +kernel), List.mem_of_getElem? (i := 479) (by decide +kernel)⟩
theorem lw_p9 : lw_okq (⟨"AdvanceBook$Reader", "blame", "(I)V"⟩, 7) := ⟨⟨by decide +kernel, by decide +kernel⟩, List.mem_of_getElem? (i := 126) (by decide +kernel), List.mem_of_getElem? (i := 482) (by decide +kernel), List.mem_of_getElem? (i := 483) (by decide +kernel)⟩
theorem lw_p10 : lw_okq (⟨"AdvanceBook$Reader", "readNumber", "(I)I"⟩, 7) := ⟨⟨by decide +kernel, by decide +kernel⟩, List.mem_of_getElem? (i := 126) (by decide +kernel), List.mem_of_getElem? (i := 486) (by decide +kernel), List.mem_of_getElem? (i := 487) (by decide +kernel)⟩
theorem lw_p11 : lw_okq (⟨"AdvanceBook$Reader", "readMove", "(LAdvanceBook$Decree;)V"⟩, 7) := ⟨⟨by decide +kernel, by decide +kernel⟩, List.mem_of_getElem? (i := 126) (by decide +kernel), List.mem_of_getElem? (i := 491) (by decide +kernel), List.mem_of_getElem? (i := 492) (by decide +kernel)⟩
theorem lw_p12 : lw_okq (⟨"AdvanceBook$Reader", "readSpare", "(LAdvanceBook$Decree;)V"⟩, 7) := ⟨⟨by decide +kernel, by decide +kernel⟩, List.mem_of_getElem? (i := 126) (by decide +kernel), List.mem_of_getElem? (i := 496) (by decide +kernel), List.mem_of_getElem? (i := 497) (by decide +kernel)⟩
theorem lw_p13 : lw_okq (⟨"AdvanceBook$Reader", "readBefore", "(LAdvanceBook$Decree;)V"⟩, 7) := ⟨⟨by decide +kernel, by decide +kernel⟩, List.mem_of_getElem? (i := 126) (by decide +kernel), List.mem_of_getElem? (i := 501) (by decide +kernel), List.mem_of_getElem? (i := 502) (by decide +kernel)⟩
theorem lw_p14 : lw_okq (⟨"AdvanceBook$Reader", "readSemicolon", "()V"⟩, 7) := ⟨⟨by decide +kernel, by decide +kernel⟩, List.mem_of_getElem? (i := 126) (by decide +kernel), List.mem_of_getElem? (i := 505) (by decide +kernel), List.mem_of_getElem? (i := 506) (by decide +kernel)⟩
theorem lw_p15 : lw_okq (⟨"AdvanceBook$Clearing", "takeStock", "(LAdvanceBook$Town;)V"⟩, 10) := ⟨⟨by decide +kernel, by decide +kernel⟩, List.mem_of_getElem? (i := 213) (by decide +kernel), List.mem_of_getElem? (i := 522) (by decide +kernel), List.mem_of_getElem? (i := 523) (by decide +kernel)⟩
def lw_privs_1 : List (MethodName × Nat) := [(⟨"AdvanceBook$Papers", "isTold", "(IIIII)Z"⟩, 11), (⟨"AdvanceBook$Balance", "addMove", "(II)V"⟩, 5), (⟨"AdvanceBook$Reader", "step", "()V"⟩, 7), (⟨"AdvanceBook$Reader", "isInARow", "()Z"⟩, 7), (⟨"AdvanceBook$Reader", "readLine", "(LAdvanceBook$Decree;)V"⟩, 7), (⟨"AdvanceBook$Reader", "isWord", "(Ljava/lang/String;)Z"⟩, 7), (⟨"AdvanceBook$Reader", "readCut", "(LAdvanceBook$Decree;)V"⟩, 7), (⟨"AdvanceBook$Reader", "blameRankOf", "([I)V"⟩, 7), (⟨"AdvanceBook$Reader", "numberAtHand", "()I"⟩, 7), (⟨"AdvanceBook$Reader", "blame", "(I)V"⟩, 7), (⟨"AdvanceBook$Reader", "readNumber", "(I)I"⟩, 7), (⟨"AdvanceBook$Reader", "readMove", "(LAdvanceBook$Decree;)V"⟩, 7), (⟨"AdvanceBook$Reader", "readSpare", "(LAdvanceBook$Decree;)V"⟩, 7), (⟨"AdvanceBook$Reader", "readBefore", "(LAdvanceBook$Decree;)V"⟩, 7), (⟨"AdvanceBook$Reader", "readSemicolon", "()V"⟩, 7), (⟨"AdvanceBook$Clearing", "takeStock", "(LAdvanceBook$Town;)V"⟩, 10)]
theorem lw_r1 : ∀ q ∈ lw_privs_1, lw_okq q := List.forall_mem_cons.mpr ⟨lw_p0, List.forall_mem_cons.mpr ⟨lw_p1, List.forall_mem_cons.mpr ⟨lw_p2, List.forall_mem_cons.mpr ⟨lw_p3, List.forall_mem_cons.mpr ⟨lw_p4, List.forall_mem_cons.mpr ⟨lw_p5, List.forall_mem_cons.mpr ⟨lw_p6, List.forall_mem_cons.mpr ⟨lw_p7, List.forall_mem_cons.mpr ⟨lw_p8, List.forall_mem_cons.mpr ⟨lw_p9, List.forall_mem_cons.mpr ⟨lw_p10, List.forall_mem_cons.mpr ⟨lw_p11, List.forall_mem_cons.mpr ⟨lw_p12, List.forall_mem_cons.mpr ⟨lw_p13, List.forall_mem_cons.mpr ⟨lw_p14, List.forall_mem_cons.mpr ⟨lw_p15, fun _ h => absurd h List.not_mem_nil⟩⟩⟩⟩⟩⟩⟩⟩⟩⟩⟩⟩⟩⟩⟩⟩
theorem lw_p16 : lw_okq (⟨"AdvanceBook$Clearing", "takeAllAsPaid", "(LAdvanceBook$Papers;LAdvanceBook$Decree;)V"⟩, 10) := ⟨⟨by decide +kernel, by decide +kernel⟩, List.mem_of_getElem? (i := 213) (by decide +kernel), List.mem_of_getElem? (i := 526) (by decide +kernel), List.mem_of_getElem? (i := 527) (by decide +kernel)⟩
theorem lw_p17 : lw_okq (⟨"AdvanceBook$Decree", "reaches", "(I)Z"⟩, 5) := ⟨⟨by decide +kernel, by decide +kernel⟩, List.mem_of_getElem? (i := 178) (by decide +kernel), List.mem_of_getElem? (i := 534) (by decide +kernel), List.mem_of_getElem? (i := 535) (by decide +kernel)⟩
theorem lw_p18 : lw_okq (⟨"AdvanceBook$Clearing", "putInOrder", "(LAdvanceBook$Papers;LAdvanceBook$Decree;)V"⟩, 10) := ⟨⟨by decide +kernel, by decide +kernel⟩, List.mem_of_getElem? (i := 213) (by decide +kernel), List.mem_of_getElem? (i := 538) (by decide +kernel), List.mem_of_getElem? (i := 539) (by decide +kernel)⟩
theorem lw_p19 : lw_okq (⟨"AdvanceBook$Clearing", "goRound", "(LAdvanceBook$Papers;I)Z"⟩, 10) := ⟨⟨by decide +kernel, by decide +kernel⟩, List.mem_of_getElem? (i := 213) (by decide +kernel), List.mem_of_getElem? (i := 547) (by decide +kernel), List.mem_of_getElem? (i := 548) (by decide +kernel)⟩
theorem lw_p20 : lw_okq (⟨"AdvanceBook$Clearing", "payLess", "(LAdvanceBook$Papers;II)V"⟩, 10) := ⟨⟨by decide +kernel, by decide +kernel⟩, List.mem_of_getElem? (i := 213) (by decide +kernel), List.mem_of_getElem? (i := 551) (by decide +kernel), List.mem_of_getElem? (i := 552) (by decide +kernel)⟩
theorem lw_p21 : lw_okq (⟨"AdvanceBook$Clearing", "loseWhatIsNotPaid", "()V"⟩, 10) := ⟨⟨by decide +kernel, by decide +kernel⟩, List.mem_of_getElem? (i := 213) (by decide +kernel), List.mem_of_getElem? (i := 556) (by decide +kernel), List.mem_of_getElem? (i := 557) (by decide +kernel)⟩
theorem lw_p22 : lw_okq (⟨"java/lang/Throwable", "fillInStackTrace", "(I)Ljava/lang/Throwable;"⟩, 6) := ⟨⟨by decide +kernel, by decide +kernel⟩, List.mem_of_getElem? (i := 656) (by decide +kernel), List.mem_of_getElem? (i := 654) (by decide +kernel), List.mem_of_getElem? (i := 655) (by decide +kernel)⟩
theorem lw_p23 : lw_okq (⟨"AdvanceBookModel", "isMan", "(I)Z"⟩, 44) := ⟨⟨by decide +kernel, by decide +kernel⟩, List.mem_of_getElem? (i := 705) (by decide +kernel), List.mem_of_getElem? (i := 861) (by decide +kernel), List.mem_of_getElem? (i := 862) (by decide +kernel)⟩
theorem lw_p24 : lw_okq (⟨"AdvanceBookModel", "fails", "(I)I"⟩, 44) := ⟨⟨by decide +kernel, by decide +kernel⟩, List.mem_of_getElem? (i := 705) (by decide +kernel), List.mem_of_getElem? (i := 869) (by decide +kernel), List.mem_of_getElem? (i := 870) (by decide +kernel)⟩
theorem lw_p25 : lw_okq (⟨"AdvanceBookModel", "netOf", "(I)I"⟩, 44) := ⟨⟨by decide +kernel, by decide +kernel⟩, List.mem_of_getElem? (i := 705) (by decide +kernel), List.mem_of_getElem? (i := 885) (by decide +kernel), List.mem_of_getElem? (i := 886) (by decide +kernel)⟩
theorem lw_p26 : lw_okq (⟨"AdvanceBookModel", "take", "()V"⟩, 44) := ⟨⟨by decide +kernel, by decide +kernel⟩, List.mem_of_getElem? (i := 705) (by decide +kernel), List.mem_of_getElem? (i := 910) (by decide +kernel), List.mem_of_getElem? (i := 911) (by decide +kernel)⟩
theorem lw_p27 : lw_okq (⟨"AdvanceBookModel", "isSmall", "(I)Z"⟩, 44) := ⟨⟨by decide +kernel, by decide +kernel⟩, List.mem_of_getElem? (i := 705) (by decide +kernel), List.mem_of_getElem? (i := 914) (by decide +kernel), List.mem_of_getElem? (i := 915) (by decide +kernel)⟩
theorem lw_p28 : lw_okq (⟨"AdvanceBookModel", "wordAt", "(II)I"⟩, 44) := ⟨⟨by decide +kernel, by decide +kernel⟩, List.mem_of_getElem? (i := 705) (by decide +kernel), List.mem_of_getElem? (i := 918) (by decide +kernel), List.mem_of_getElem? (i := 919) (by decide +kernel)⟩
theorem lw_p29 : lw_okq (⟨"AdvanceBookModel", "isDigit", "(I)Z"⟩, 44) := ⟨⟨by decide +kernel, by decide +kernel⟩, List.mem_of_getElem? (i := 705) (by decide +kernel), List.mem_of_getElem? (i := 922) (by decide +kernel), List.mem_of_getElem? (i := 923) (by decide +kernel)⟩
theorem lw_p30 : lw_okq (⟨"AdvanceBookModel", "line", "()Z"⟩, 44) := ⟨⟨by decide +kernel, by decide +kernel⟩, List.mem_of_getElem? (i := 705) (by decide +kernel), List.mem_of_getElem? (i := 926) (by decide +kernel), List.mem_of_getElem? (i := 927) (by decide +kernel)⟩
theorem lw_p31 : lw_okq (⟨"AdvanceBookModel", "wrong", "(II)Z"⟩, 44) := ⟨⟨by decide +kernel, by decide +kernel⟩, List.mem_of_getElem? (i := 705) (by decide +kernel), List.mem_of_getElem? (i := 930) (by decide +kernel), List.mem_of_getElem? (i := 931) (by decide +kernel)⟩
def lw_privs_2 : List (MethodName × Nat) := [(⟨"AdvanceBook$Clearing", "takeAllAsPaid", "(LAdvanceBook$Papers;LAdvanceBook$Decree;)V"⟩, 10), (⟨"AdvanceBook$Decree", "reaches", "(I)Z"⟩, 5), (⟨"AdvanceBook$Clearing", "putInOrder", "(LAdvanceBook$Papers;LAdvanceBook$Decree;)V"⟩, 10), (⟨"AdvanceBook$Clearing", "goRound", "(LAdvanceBook$Papers;I)Z"⟩, 10), (⟨"AdvanceBook$Clearing", "payLess", "(LAdvanceBook$Papers;II)V"⟩, 10), (⟨"AdvanceBook$Clearing", "loseWhatIsNotPaid", "()V"⟩, 10), (⟨"java/lang/Throwable", "fillInStackTrace", "(I)Ljava/lang/Throwable;"⟩, 6), (⟨"AdvanceBookModel", "isMan", "(I)Z"⟩, 44), (⟨"AdvanceBookModel", "fails", "(I)I"⟩, 44), (⟨"AdvanceBookModel", "netOf", "(I)I"⟩, 44), (⟨"AdvanceBookModel", "take", "()V"⟩, 44), (⟨"AdvanceBookModel", "isSmall", "(I)Z"⟩, 44), (⟨"AdvanceBookModel", "wordAt", "(II)I"⟩, 44), (⟨"AdvanceBookModel", "isDigit", "(I)Z"⟩, 44), (⟨"AdvanceBookModel", "line", "()Z"⟩, 44), (⟨"AdvanceBookModel", "wrong", "(II)Z"⟩, 44)]
theorem lw_r2 : ∀ q ∈ lw_privs_2, lw_okq q := List.forall_mem_cons.mpr ⟨lw_p16, List.forall_mem_cons.mpr ⟨lw_p17, List.forall_mem_cons.mpr ⟨lw_p18, List.forall_mem_cons.mpr ⟨lw_p19, List.forall_mem_cons.mpr ⟨lw_p20, List.forall_mem_cons.mpr ⟨lw_p21, List.forall_mem_cons.mpr ⟨lw_p22, List.forall_mem_cons.mpr ⟨lw_p23, List.forall_mem_cons.mpr ⟨lw_p24, List.forall_mem_cons.mpr ⟨lw_p25, List.forall_mem_cons.mpr ⟨lw_p26, List.forall_mem_cons.mpr ⟨lw_p27, List.forall_mem_cons.mpr ⟨lw_p28, List.forall_mem_cons.mpr ⟨lw_p29, List.forall_mem_cons.mpr ⟨lw_p30, List.forall_mem_cons.mpr ⟨lw_p31, fun _ h => absurd h List.not_mem_nil⟩⟩⟩⟩⟩⟩⟩⟩⟩⟩⟩⟩⟩⟩⟩⟩
theorem lw_p32 : lw_okq (⟨"AdvanceBookModel", "number", "(I)Z"⟩, 44) := ⟨⟨by decide +kernel, by decide +kernel⟩, List.mem_of_getElem? (i := 705) (by decide +kernel), List.mem_of_getElem? (i := 934) (by decide +kernel), List.mem_of_getElem? (i := 935) (by decide +kernel)⟩
theorem lw_p33 : lw_okq (⟨"AdvanceBookModel", "leftBy", "(I)I"⟩, 44) := ⟨⟨by decide +kernel, by decide +kernel⟩, List.mem_of_getElem? (i := 705) (by decide +kernel), List.mem_of_getElem? (i := 946) (by decide +kernel), List.mem_of_getElem? (i := 947) (by decide +kernel)⟩
theorem lw_p34 : lw_okq (⟨"AdvanceBookModel", "isMeant", "(I)Z"⟩, 44) := ⟨⟨by decide +kernel, by decide +kernel⟩, List.mem_of_getElem? (i := 705) (by decide +kernel), List.mem_of_getElem? (i := 950) (by decide +kernel), List.mem_of_getElem? (i := 951) (by decide +kernel)⟩
theorem lw_p35 : lw_okq (⟨"AdvanceBookModel", "rankBy", "(I)I"⟩, 44) := ⟨⟨by decide +kernel, by decide +kernel⟩, List.mem_of_getElem? (i := 705) (by decide +kernel), List.mem_of_getElem? (i := 954) (by decide +kernel), List.mem_of_getElem? (i := 955) (by decide +kernel)⟩
theorem lw_p36 : lw_okq (⟨"AdvanceBookModel", "works", "(Z)V"⟩, 44) := ⟨⟨by decide +kernel, by decide +kernel⟩, List.mem_of_getElem? (i := 705) (by decide +kernel), List.mem_of_getElem? (i := 962) (by decide +kernel), List.mem_of_getElem? (i := 963) (by decide +kernel)⟩
theorem lw_p37 : lw_okq (⟨"AdvanceBookModel", "pays", "(II)Z"⟩, 44) := ⟨⟨by decide +kernel, by decide +kernel⟩, List.mem_of_getElem? (i := 705) (by decide +kernel), List.mem_of_getElem? (i := 966) (by decide +kernel), List.mem_of_getElem? (i := 967) (by decide +kernel)⟩
def lw_privs_3 : List (MethodName × Nat) := [(⟨"AdvanceBookModel", "number", "(I)Z"⟩, 44), (⟨"AdvanceBookModel", "leftBy", "(I)I"⟩, 44), (⟨"AdvanceBookModel", "isMeant", "(I)Z"⟩, 44), (⟨"AdvanceBookModel", "rankBy", "(I)I"⟩, 44), (⟨"AdvanceBookModel", "works", "(Z)V"⟩, 44), (⟨"AdvanceBookModel", "pays", "(II)Z"⟩, 44)]
theorem lw_r3 : ∀ q ∈ lw_privs_3, lw_okq q := List.forall_mem_cons.mpr ⟨lw_p32, List.forall_mem_cons.mpr ⟨lw_p33, List.forall_mem_cons.mpr ⟨lw_p34, List.forall_mem_cons.mpr ⟨lw_p35, List.forall_mem_cons.mpr ⟨lw_p36, List.forall_mem_cons.mpr ⟨lw_p37, fun _ h => absurd h List.not_mem_nil⟩⟩⟩⟩⟩⟩
def lw_privs : List (MethodName × Nat) := lw_privs_1 ++ (lw_privs_2 ++ (lw_privs_3))
def lw_tbl : List Cond := k2_sels lw_privs ++ tables_1
theorem lw_privs_ok : ∀ q ∈ lw_privs, lw_okq q := by
  show ∀ q ∈ lw_privs_1 ++ (lw_privs_2 ++ (lw_privs_3)), lw_okq q
  exact List.forall_mem_append.mpr ⟨lw_r1, List.forall_mem_append.mpr ⟨lw_r2, lw_r3⟩⟩
end
section
/-! ===== BEGIN words of one list among another's, by their places ===== -/
theorem goodIn_r {big : List Cond} (ws : List Cond) (ps : List Nat) (hp : ws = ps.filterMap (fun i => big[i]?)) (h : ws.all goodWord = true) : GoodIn big ws := by
  intro w hw
  have h1 := List.all_eq_true.mp h w hw
  rw [hp] at hw
  obtain ⟨i, -, hi⟩ := List.mem_filterMap.mp hw
  have hm : w ∈ big := by first | exact List.mem_of_getElem? hi | exact List.getElem?_mem hi
  exact ⟨hm, good_of_word h1⟩
theorem goodIn_app {big a b : List Cond} (ha : GoodIn big a) (hb : GoodIn big b) : GoodIn big (a ++ b) := fun w h => (List.mem_append.mp h).elim (ha w) (hb w)
theorem goodIn_ca {big a b : List Cond} {c : Cond} (ha : GoodIn big (c :: a)) (hb : GoodIn big b) : GoodIn big (c :: (a ++ b)) := fun w h => (List.mem_cons.mp h).elim (fun e => ha w (List.mem_cons.mpr (Or.inl e))) (fun h => (List.mem_append.mp h).elim (fun h => ha w (List.mem_cons.mpr (Or.inr h))) (hb w))
theorem goodIn_sub {big ws : List Cond} (hm : ∀ w ∈ ws, w ∈ big) (h : ws.all goodWord = true) : GoodIn big ws := fun w hw => ⟨hm w hw, good_of_word (List.all_eq_true.mp h w hw)⟩
/-! ===== END ===== -/

/-! ===== BEGIN exceptions that leave a method, and their catching by the caller (launches without stack traces) ===== -/
section VXA
/-! The laws vx_back, vx_callV, vx_callS, vx_callSW, vx_throw0, vx_throwS follow proofs of the library, with one case more: JvmDerived/Free/Laws.lean (Back.of_free), Shelf42/LK1.lean (callV, callS), Shelf/KitTraced.lean (throwNew0V, throwNewS). -/
-- (Bundle)
/-- where a method has thrown q: the class by its name, the cell, what was written, the world -/
def vx_T (XC : String → State → State → Prop) (st : State) (q : Addr) (t : State) (mc ms : Nat) (free : Addr → Prop) : Prop :=
  ∃ (E : String) (ce : Cell) (L : List Loc), XC E st t ∧ t.heap[q]? = some ce ∧ ce.vm = .none ∧ st.vm.findClass E = some ce.cls ∧ st.WarmedH t.vm ∧ st.sameButNew ({ t with vm := st.vm } : State) L mc ms ∧ ∀ z ∈ L, free z.base
def vx_Q (Qc : Array Value → State → Outcome → State → Prop) (XC : String → State → State → Prop) (mc ms : Nat) (free : Addr → Prop) : Array Value → State → Outcome → State → Prop := fun a st o t =>
  (Qc a st o t ∧ ∃ L, FrameEnd st o t L mc ms ∧ ∀ q ∈ L, free q.base) ∨ ∃ q, o = .threw q ∧ vx_T XC st q t mc ms free
/-- a callee that returns or throws -/
def vx_Met (l : Launch) (y : MethodName) (ws : List Cond) (rm : Room) (Pc : Array Value → State → Prop) (Qc : Array Value → State → Outcome → State → Prop) (XC : String → State → State → Prop) (mc ms : Nat) (free : Addr → Prop) : Prop :=
  MetFree l y (headSpec ws rm) Pc (fun _ _ _ _ _ => True) (vx_Q Qc XC mc ms free)
def vx_Post (XC : String → State → State → Prop) (mc ms : Nat) (free : Addr → Prop) : Pt → Array Value → Addr → Pt → Prop := fun A a q B =>
  ∃ (g : JFrame) (mk : MethodId) (t : State) (L : List Loc) (E : String) (ce : Cell), B.U.heap = t.heap ∧ B.U.vm = t.vm ∧ XC E (A.U.calling g mk a) t ∧ t.heap[q]? = some ce ∧ ce.vm = .none ∧ A.U.vm.findClass E = some ce.cls ∧ B.locs = A.locs ++ L ∧ (∀ z ∈ L, free z.base) ∧ B.cells = A.cells + mc ∧ B.slots = A.slots + ms
def vx_Back (l : Launch) (R : Room) (p : Program) (e : Env) (below : List Frame) (s : State) (sargs : Array Value) (y : MethodName) (len W9 : Nat)
    (Pre : Pt → Array Value → Prop) (Post : Pt → Array Value → Option Value → Pt → Prop) (PostX : Pt → Array Value → Addr → Pt → Prop) : Prop :=
  ∀ (m : MethodId) (meth : Method) (c : Code) (A : Pt) (g : JFrame) (ig : Instr) (mk : MethodId) (a : Array Value),
    Stand p l e R s m sargs below meth c A.U A.locs A.cells A.slots → g.method = m → g.locals.size = c.maxLocals → decode c.code g.pc = .ok (ig, len) →
    2 * g.monitorRoom + (g.stack.map fun v => v.category).sum ≤ W9 → A.U.methodNamed? y = some mk → Pre A a →
    (∃ (v : Option Value) (B : Pt), Stand p l e R s m sargs below meth c B.U B.locs B.cells B.slots ∧ Post A a v B ∧
      Steps p.tables e below (doInvoke e (A.U.setTop g) [] mk a).1 (B.U.setTop { g with pc := g.pc + len, stack := v.toList ++ g.stack })) ∨
    (∃ (q : Addr) (B : Pt), Stand p l e R s m sargs below meth c B.U B.locs B.cells B.slots ∧ PostX A a q B ∧
      Steps p.tables e below (doInvoke e (A.U.setTop g) [] mk a).1 ((B.U.setTop g).pushFrame (.throwing q)))
section Payer
variable {l : Launch} {R : Room} {p : Program} {e : Env} {below : List Frame} {s : State} {sargs : Array Value} {y : MethodName} {len W9 : Nat}
theorem vx_back {ws : List Cond} {rm : Room} {Pc : Array Value → State → Prop} {Qc : Array Value → State → Outcome → State → Prop} {XC : String → State → State → Prop} {mc ms : Nat} {free : Addr → Prop} {bytes : ByteArray} {maxL : Nat} {ret : Option FieldType}
    (hM : vx_Met l y ws rm Pc Qc XC mc ms free) (hblind : FrameBlind Pc) (hrc : rm.cells = mc) (hrs : rm.slots = ms)
    (hframes : rm.frames + 1 ≤ R.frames) (hlocals : W9 + (maxL + 11) + rm.locals ≤ R.locals)
    (hws : ∀ w ∈ ws, ∀ a' U, s.WarmedH U.vm → w.before a' U = true) (hcode : Cond.code y bytes maxL ret ∈ ws) (hinit : ∀ a' U, s.WarmedH U.vm → (Cond.initialized y.cls).before a' U = true) :
    vx_Back l R p e below s sargs y len W9 (PreOf R mc ms Pc) (PostOf Qc mc ms free) (vx_Post XC mc ms free) := by
  intro m meth c A g ig mk a X hg hsize hdg hW hn hp
  have h1 : (headSpec ws rm).pre.before a A.U = true := atoms_intro fun w hw => hws w hw _ _ X.warmed
  have h2 : (Cond.code y bytes maxL ret).before a A.U = true := hws _ hcode _ _ X.warmed
  have h3 : (Cond.initialized y.cls).before a A.U = true := hinit _ _ X.warmed
  have h4 : A.cells + (headSpec ws rm).room.cells ≤ R.cells := by rw [show (headSpec ws rm).room.cells = mc from hrc]; exact hp.1
  have h5 : A.slots + (headSpec ws rm).room.slots ≤ R.slots := by rw [show (headSpec ws rm).room.slots = ms from hrs]; exact hp.2.1
  have hPc : Pc a (A.U.calling g mk a) := hblind _ _ _ _ hp.2.2
  obtain ⟨U, Ls, c0, s0⟩ := A
  dsimp only [Pt.U, Pt.locs, Pt.cells, Pt.slots] at h1 h2 h3 h4 h5 X hn hPc ⊢
  obtain ⟨methY, cY, hmY, hcY, -, hlY, -, -, -, -⟩ := Cond.code_spec hn h2
  obtain ⟨kY, hkY, -⟩ := className_of_methodNamed hn
  have hinitY : kY.init = .initialized := Cond.initialized_spec (findClass_of_methodNamed hn) hkY h3
  have h : At U g.method c below := by rw [hg]; exact X.here
  have hlocals9 : W9 + (maxL + 11) + (headSpec ws rm).room.locals ≤ R.locals := hlocals
  have happ : (headSpec ws rm).appliesLoose y e.platform (U.calling g mk a) = true :=
    Spec.appliesLoose_calling (g := g) h hdg hn hkY hinitY
      (X.room_calling (g := g) (R' := (headSpec ws rm).room) hsize hmY hcY hframes (by rw [hlY]; omega) h4 h5) h1
  obtain ⟨mid, hmid⟩ := h.above
  have hfr : (U.setTop g).frames = (.java g :: mid) ++ below := by rw [State.frames_setTop' g h.top, hmid]; rfl
  obtain ⟨o, s₂, hsteps, -, hend, hq⟩ := Steps.callFree hM p X.admits X.cas X.clock (acts := []) hfr happ hPc trivial
  have hq' : vx_Q Qc XC mc ms free a (U.calling g mk a) o s₂ := hq
  rw [State.frames_setTop' g h.top] at hend
  obtain ⟨g₀, hg0⟩ := Option.isSome_iff_exists.mp h.top
  obtain ⟨r, hr⟩ := State.topJava?_eq_some.mp hg0
  have hr' : (({ U with heap := s₂.heap, slotsUsed := s₂.slotsUsed } : State).setVm s₂.vm).frames = .java g₀ :: r := hr
  rcases hq' with ⟨hqc, L, hfe, hL⟩ | ⟨q, rfl, E, ce, L, hx, hce, hcv, hcl, hW₂, hsm, hL⟩
  · obtain ⟨⟨v, rfl⟩, hW₂, e2, q2, q3, q4, q5, q6⟩ := id hfe
    have e3 : s₂ = ({ (U.calling g mk a).setFrames s₂.frames with heap := s₂.heap, slotsUsed := s₂.slotsUsed } : State).setVm s₂.vm := by
      have : s₂ = ({ s₂ with vm := (U.calling g mk a).vm } : State).setVm s₂.vm := rfl
      rw [e2] at this
      exact this
    obtain ⟨c₂, i₂, len₂, hc₂, hd₂, hf₂⟩ := hend
    have hW' : U.WarmedH s₂.vm := hW₂
    have hcc : c₂ = c := by
      have h1 : s₂.code? g.method = U.code? g.method := by
        rw [State.code?_eq, State.code?_eq, hW'.alike.method?]
      exact Option.some.inj (hc₂.symm.trans (h1.trans h.code))
    subst hcc
    have hlen : len₂ = len := by rw [hdg] at hd₂; cases hd₂; rfl
    subst hlen
    have hs₂ : s₂ = (({ U with heap := s₂.heap, slotsUsed := s₂.slotsUsed } : State).setVm s₂.vm).setTop { g with pc := g.pc + len₂, stack := v.toList ++ g.stack } := by
      refine e3.trans ?_
      rw [hf₂, State.calling_eq h.top, State.setFrames_setFrames, State.setTop_of_frames _ hr', hr]
      rfl
    have hsame : U.sameButNew ({ U with heap := s₂.heap, slotsUsed := s₂.slotsUsed } : State) L mc ms := by
      refine ⟨?_, q2, q3, q4, q5, q6⟩
      obtain ⟨t, ht, -⟩ := State.frames_cons hr
      show ({ U with heap := s₂.heap, slotsUsed := s₂.slotsUsed } : State) = { U.setFrames U.frames with heap := s₂.heap, slotsUsed := s₂.slotsUsed }
      rw [State.setFrames_self ht]
    subst hg
    refine Or.inl ⟨v, ⟨(({ U with heap := s₂.heap, slotsUsed := s₂.slotsUsed } : State).setVm s₂.vm), Ls ++ L, c0 + mc, s0 + ms⟩,
      ⟨X.admits, X.cas, X.clock, X.frames, X.room, X.hears, X.method, X.code, (X.here.setHeapUsed s₂.heap s₂.slotsUsed).setVm hW'.alike, X.tail, State.WarmedH.trans X.warmed hW', X.limits, X.bytes, X.same.trans (hsame.setVm s.vm)⟩,
      ⟨g, mk, s₂, L, rfl, rfl, hqc, rfl, hL, rfl, rfl⟩, ?_⟩
    show Steps p.tables e below _ ((({ U with heap := s₂.heap, slotsUsed := s₂.slotsUsed } : State).setVm s₂.vm).setTop { g with pc := g.pc + len₂, stack := v.toList ++ g.stack })
    rw [← hs₂]
    exact hsteps
  · obtain ⟨e2, q2, q3, q4, q5, q6⟩ := id hsm
    have e3 : s₂ = ({ (U.calling g mk a).setFrames s₂.frames with heap := s₂.heap, slotsUsed := s₂.slotsUsed } : State).setVm s₂.vm := by
      have : s₂ = ({ s₂ with vm := (U.calling g mk a).vm } : State).setVm s₂.vm := rfl
      rw [e2] at this
      exact this
    have hf₂ : s₂.frames = .throwing q :: .java g :: U.frames.tail := hend
    have hW' : U.WarmedH s₂.vm := hW₂
    have hs₂ : s₂ = ((({ U with heap := s₂.heap, slotsUsed := s₂.slotsUsed } : State).setVm s₂.vm).setTop g).pushFrame (.throwing q) := by
      refine e3.trans ?_
      rw [hf₂, State.calling_eq h.top, State.setFrames_setFrames, State.pushFrame, State.frames_setTop _ hr', State.setTop_of_frames _ hr', State.setFrames_setFrames, hr]
      rfl
    have hsame : U.sameButNew ({ U with heap := s₂.heap, slotsUsed := s₂.slotsUsed } : State) L mc ms := by
      refine ⟨?_, q2, q3, q4, q5, q6⟩
      obtain ⟨t, ht, -⟩ := State.frames_cons hr
      show ({ U with heap := s₂.heap, slotsUsed := s₂.slotsUsed } : State) = { U.setFrames U.frames with heap := s₂.heap, slotsUsed := s₂.slotsUsed }
      rw [State.setFrames_self ht]
    subst hg
    refine Or.inr ⟨q, ⟨(({ U with heap := s₂.heap, slotsUsed := s₂.slotsUsed } : State).setVm s₂.vm), Ls ++ L, c0 + mc, s0 + ms⟩,
      ⟨X.admits, X.cas, X.clock, X.frames, X.room, X.hears, X.method, X.code, (X.here.setHeapUsed s₂.heap s₂.slotsUsed).setVm hW'.alike, X.tail, State.WarmedH.trans X.warmed hW', X.limits, X.bytes, X.same.trans (hsame.setVm s.vm)⟩,
      ⟨g, mk, s₂, L, E, ce, rfl, rfl, hx, hce, hcv, hcl, rfl, hL, rfl, rfl⟩, ?_⟩
    show Steps p.tables e below _ (((({ U with heap := s₂.heap, slotsUsed := s₂.slotsUsed } : State).setVm s₂.vm).setTop g).pushFrame (.throwing q))
    rw [← hs₂]
    exact hsteps
end Payer
section Calls
variable {p : Program} {l : Launch} {e : Env} {R : Room} {s : State} {m : MethodId} {args : Array Value} {below : List Frame} {meth : Method} {c : Code} {T : State} {locs : List Loc} {cells slots : Nat}
theorem vx_callV (X : Stand p l e R s m args below meth c T locs cells slots) (hexec : p.tables.exec = Jvm.exec) {own C : String} {index : Nat} {y : MethodName} {bytes : ByteArray} {maxL : Nat} {ret : Option FieldType}
    (hown : s.vm.findClass own = some m.cls) (hlink : (Cond.methodLink own index y).before args s = true) (hinst : (Cond.instanceMethod y).before args s = true) (hsel : (Cond.selects C y y).before args s = true)
    (hcode : (Cond.code y bytes maxL ret).before args s = true) (hy : y.cls ≠ "java/lang/invoke/MethodHandle" ∧ y.cls ≠ "java/lang/invoke/VarHandle")
    {W9 : Nat} {Pre : Pt → Array Value → Prop} {Post : Pt → Array Value → Option Value → Pt → Prop} {PostX : Pt → Array Value → Addr → Pt → Prop} (hK : vx_Back l R p e below s args y 3 W9 Pre Post PostX)
    {b : Addr} {cellB : Cell} (hcell : T.heap[b]? = some cellB) (hobj : cellB.vm.isStatics = false) (hcls : s.vm.findClass C = some cellB.cls)
    {g : JFrame} (hg : g.method = m) (hsize : g.locals.size = c.maxLocals) {argsL rest : List Value} (hlen : ∀ sig, parseMethodDescriptor y.desc = some sig → argsL.length = sig.parameters.length)
    (hstack : g.stack = argsL.reverse ++ .ref b :: rest) (hW : 2 * g.monitorRoom + (rest.map fun v => v.category).sum ≤ W9) (hdg : decode c.code g.pc = .ok (.invokevirtual index, 3))
    (hpre : ∀ vm₁, s.WarmedH vm₁ → Pre ⟨T.setVm vm₁, locs, cells, slots⟩ (Value.ref b :: argsL).toArray) :
    (∃ (v : Option Value) (vm₁ : Vm) (B : Pt), s.WarmedH vm₁ ∧ Stand p l e R s m args below meth c B.U B.locs B.cells B.slots ∧ Post ⟨T.setVm vm₁, locs, cells, slots⟩ (Value.ref b :: argsL).toArray v B ∧
      ∀ target, Steps p.tables e below (B.U.setTop { g with pc := g.pc + 3, stack := v.toList ++ rest }) target → Steps p.tables e below (T.setTop g) target) ∨
    (∃ (q : Addr) (vm₁ : Vm) (B : Pt), s.WarmedH vm₁ ∧ Stand p l e R s m args below meth c B.U B.locs B.cells B.slots ∧ PostX ⟨T.setVm vm₁, locs, cells, slots⟩ (Value.ref b :: argsL).toArray q B ∧
      Steps p.tables e below (T.setTop g) ((B.U.setTop { g with stack := rest }).pushFrame (.throwing q))) := by
  obtain ⟨mk, methM, hnamed, hmethM, hstM, habM⟩ := Cond.instanceMethod_spec hinst
  obtain ⟨methM', cM, hmethM', -, -, -, -, -, -, hsigM⟩ := Cond.code_spec hnamed hcode
  cases hmethM.symm.trans hmethM'
  obtain ⟨c2, r2, m2, q1, q2, q3, q4, kP, hkP, hkPi⟩ := Cond.selects_spec hsel
  cases hcls.symm.trans q1
  cases (State.methodFound?_of_named hnamed hy).symm.trans q2
  cases hnamed.symm.trans q3
  have hselP : selectMethod e.platform s.vm cellB.cls mk = .method mk := by rw [Launch.admits_selectMethod X.admits]; exact q4
  obtain ⟨vm₁, X₁, hstep₁⟩ := X.invokevirtual hexec hown hlink hnamed hmethM hstM hkP hkPi hy (a := b) (cell := cellB) hcell
    (fun z h => by rw [h] at hobj; cases hobj) hselP hmethM habM hkP hkPi (g := g) hg (argsL := argsL) (rest := rest) (hlen _ hsigM) hstack hdg
  rcases hK m meth c ⟨T.setVm vm₁, locs, cells, slots⟩ { g with stack := rest } (.invokevirtual index) mk (Value.ref b :: argsL).toArray X₁ hg hsize hdg hW (X₁.named hnamed) (hpre vm₁ X₁.warmed) with ⟨v, B, X', hpost, hsteps⟩ | ⟨q, B, X', hpost, hsteps⟩
  · exact Or.inl ⟨v, vm₁, B, X₁.warmed, X', hpost, fun target h => hstep₁ _ fun acts => by rw [doInvoke_state]; exact hsteps.trans h⟩
  · exact Or.inr ⟨q, vm₁, B, X₁.warmed, X', hpost, hstep₁ _ fun acts => by rw [doInvoke_state]; exact hsteps⟩
theorem vx_callS (X : Stand p l e R s m args below meth c T locs cells slots) (hexec : p.tables.exec = Jvm.exec) {own : String} {index : Nat} {y : MethodName} {bytes : ByteArray} {maxL : Nat} {ret : Option FieldType}
    (hown : s.vm.findClass own = some m.cls) (hlink : (Cond.methodLink own index y).before args s = true) (hstat : (Cond.static y).before args s = true) (hinit : (Cond.initialized y.cls).before args s = true)
    (hcode : (Cond.code y bytes maxL ret).before args s = true) (hy : y.cls ≠ "java/lang/invoke/MethodHandle" ∧ y.cls ≠ "java/lang/invoke/VarHandle")
    {W9 : Nat} {Pre : Pt → Array Value → Prop} {Post : Pt → Array Value → Option Value → Pt → Prop} {PostX : Pt → Array Value → Addr → Pt → Prop} (hK : vx_Back l R p e below s args y 3 W9 Pre Post PostX)
    {g : JFrame} (hg : g.method = m) (hsize : g.locals.size = c.maxLocals) {argsL rest : List Value} (hlen : ∀ sig, parseMethodDescriptor y.desc = some sig → argsL.length = sig.parameters.length)
    (hstack : g.stack = argsL.reverse ++ rest) (hW : 2 * g.monitorRoom + (rest.map fun v => v.category).sum ≤ W9) (hdg : decode c.code g.pc = .ok (.invokestatic index, 3))
    (hpre : ∀ vm₁, s.WarmedH vm₁ → Pre ⟨T.setVm vm₁, locs, cells, slots⟩ argsL.toArray) :
    (∃ (v : Option Value) (vm₁ : Vm) (B : Pt), s.WarmedH vm₁ ∧ Stand p l e R s m args below meth c B.U B.locs B.cells B.slots ∧ Post ⟨T.setVm vm₁, locs, cells, slots⟩ argsL.toArray v B ∧
      ∀ target, Steps p.tables e below (B.U.setTop { g with pc := g.pc + 3, stack := v.toList ++ rest }) target → Steps p.tables e below (T.setTop g) target) ∨
    (∃ (q : Addr) (vm₁ : Vm) (B : Pt), s.WarmedH vm₁ ∧ Stand p l e R s m args below meth c B.U B.locs B.cells B.slots ∧ PostX ⟨T.setVm vm₁, locs, cells, slots⟩ argsL.toArray q B ∧
      Steps p.tables e below (T.setTop g) ((B.U.setTop { g with stack := rest }).pushFrame (.throwing q))) := by
  obtain ⟨mk, hnamed⟩ := Cond.code_named hcode
  obtain ⟨methM, cM, hmethM, -, -, -, -, -, -, hsigM⟩ := Cond.code_spec hnamed hcode
  have hstatic : methM.isStatic = true := Cond.static_spec hnamed hmethM hstat
  obtain ⟨kP, hkP, -⟩ := className_of_methodNamed hnamed
  have hinitP : kP.init = .initialized := Cond.initialized_spec (findClass_of_methodNamed hnamed) hkP hinit
  obtain ⟨vm₁, X₁, hstep₁⟩ := X.invokestatic hexec hown hlink hnamed hmethM hstatic hkP hinitP hy (g := g) hg (argsL := argsL) (rest := rest) (hlen _ hsigM) hstack hdg
  rcases hK m meth c ⟨T.setVm vm₁, locs, cells, slots⟩ { g with stack := rest } (.invokestatic index) mk argsL.toArray X₁ hg hsize hdg hW (X₁.named hnamed) (hpre vm₁ X₁.warmed) with ⟨v, B, X', hpost, hsteps⟩ | ⟨q, B, X', hpost, hsteps⟩
  · exact Or.inl ⟨v, vm₁, B, X₁.warmed, X', hpost, fun target h => hstep₁ _ fun acts => by rw [doInvoke_state]; exact hsteps.trans h⟩
  · exact Or.inr ⟨q, vm₁, B, X₁.warmed, X', hpost, hstep₁ _ fun acts => by rw [doInvoke_state]; exact hsteps⟩
end Calls
theorem vx_cls {s : State} {T : State} {vm₁ : Vm} {E : String} {k : ClassId} (hW : s.WarmedH vm₁) (h : (T.setVm vm₁).vm.findClass E = some k) : s.vm.findClass E = some k := by
  have h1 : vm₁.findClass E = some k := h
  rw [hW.alike.findClass] at h1
  exact h1
/-- the method's frame g, with q thrown over it -/
def vx_W (p : Program) (l : Launch) (e : Env) (R : Room) (s : State) (m : MethodId) (args : Array Value) (below : List Frame) (meth : Method) (c : Code) (H : Heap) (locs : List Loc) (cells slots : Nat) (Q : State → Prop) (g : JFrame) (q : Addr) : Prop :=
  ∀ T : State, T.heap = H → Stand p l e R s m args below meth c T locs cells slots → ∃ t, Steps p.tables e below ((T.setTop g).pushFrame (.throwing q)) t ∧ Q t
def vx_Run (p : Program) (l : Launch) (e : Env) (R : Room) (s : State) (m : MethodId) (args : Array Value) (below : List Frame) (meth : Method) (c : Code) (H : Heap) (locs : List Loc) (cells slots mc ms : Nat) (g : JFrame) (rest : List Value) (Qa : State → Outcome → State → Prop) (XC : String → State → State → Prop) (free : Addr → Prop) : Prop :=
  ∀ T : State, T.heap = H → Stand p l e R s m args below meth c T locs cells slots →
    (∃ (v : Option Value) (st₀ t T' : State) (L : List Loc), st₀.heap = H ∧ Stand p l e R s m args below meth c T' (locs ++ L) (cells + mc) (slots + ms) ∧ (∀ q ∈ L, free q.base) ∧ T'.heap = t.heap ∧ T'.vm = t.vm ∧ Qa st₀ (.returned v) t ∧
      Goes p e below T g T' { g with pc := g.pc + 3, stack := v.toList ++ rest }) ∨
    (∃ (q : Addr) (st₀ t T' : State) (L : List Loc) (E : String) (ce : Cell), st₀.heap = H ∧ Stand p l e R s m args below meth c T' (locs ++ L) (cells + mc) (slots + ms) ∧ (∀ z ∈ L, free z.base) ∧ T'.heap = t.heap ∧ T'.vm = t.vm ∧ XC E st₀ t ∧ t.heap[q]? = some ce ∧ ce.vm = .none ∧ s.vm.findClass E = some ce.cls ∧
      Steps p.tables e below (T.setTop g) ((T'.setTop { g with stack := rest }).pushFrame (.throwing q)))
def vx_X {S : Type} (px : S → Prop) (B : String → S → State → Prop) (A : Nat → Prop) : String → State → State → Prop := fun E st t => ∃ u : S, px u ∧ B E u t ∧ va_F A st t
section Runs
variable {p : Program} {l : Launch} {e : Env} {R : Room} {s : State} {m : MethodId} {args : Array Value} {below : List Frame} {meth : Method} {c : Code} {H : Heap} {locs : List Loc} {cells slots : Nat}
variable {y : MethodName} {bytes cc : ByteArray} {maxL nL mc ms n index : Nat} {ret : Option FieldType} {ws : List Cond} {rm : Room} {Pc : Array Value → State → Prop} {Qc : Array Value → State → Outcome → State → Prop} {XC : String → State → State → Prop} {free : Addr → Prop} {Ts : List Cond} {own C : String} {b : Addr} {As rest : List Value} {g : JFrame}
theorem vx_callBack (cb : CallB R s args own index y bytes maxL ret ws rm mc ms n) (hM : vx_Met l y ws rm Pc Qc XC mc ms free) (hbl : FrameBlind Pc) : vx_Back l R p e below s args y 3 8 (PreOf R mc ms Pc) (PostOf Qc mc ms free) (vx_Post XC mc ms free) := by
  obtain ⟨hrc, hrs, hfr, hlo, hws, hcw, -, hini, -⟩ := cb
  exact vx_back (bytes := bytes) (maxL := maxL) (ret := ret) hM hbl hrc hrs hfr hlo hws hcw (fun a' U hW => word_at hW (Or.inl (by first | rfl | simp [Cond.onTables, Cond.keeps, Cond.steady])) hini)
theorem vx_runV (S : CallFix p m c cc nL s args Ts own) (hM : vx_Met l y ws rm Pc Qc XC mc ms free) (cw : CallW R s args own C index y bytes maxL ret ws rm mc ms n) (hp : PreV s H C b Pc As)
    (hg : g.method = m) (hn : As.length = n) (hsize : g.locals.size = nL) (hstack : g.stack = As.reverse ++ .ref b :: rest) (hW : 2 * g.monitorRoom + (rest.map fun v => v.category).sum ≤ 8) (hdg : decode cc g.pc = .ok (.invokevirtual index, 3)) (hf : cells + mc ≤ R.cells ∧ slots + ms ≤ R.slots) :
    vx_Run p l e R s m args below meth c H locs cells slots mc ms g rest (Qc (Value.ref b :: As).toArray) XC free := by
  have hK : vx_Back l R p e below s args y 3 8 (PreOf R mc ms Pc) (PostOf Qc mc ms free) (vx_Post XC mc ms free) := vx_callBack cw.1 hM hp.1
  obtain ⟨⟨-, -, -, -, -, -, hcode, -, hy, hlen, hl⟩, hin, hse⟩ := cw
  obtain ⟨hx, hb, hml, ho, -⟩ := S
  obtain ⟨-, ⟨cellB, hcB, hoB, hclB⟩, hPc⟩ := hp
  intro T hT X
  rcases vx_callV X hx (C := C) (bytes := bytes) (maxL := maxL) (ret := ret) ho hl hin hse hcode hy hK (by rw [hT]; exact hcB) hoB hclB hg (hsize.trans hml.symm) (argsL := As) (rest := rest) (fun sig h => hn.trans (hlen sig h)) hstack hW (by rw [hb]; exact hdg)
    (fun vm₁ hW₁ => ⟨hf.1, hf.2, hPc (T.setVm vm₁) hT hW₁⟩) with ⟨v, vm₁, ⟨U', l2, c2, s2⟩, hW₁, X', ⟨g', mk, t, L, e1, e2, hq, h1, hL, h2, h3⟩, st⟩ | ⟨q, vm₁, ⟨U', l2, c2, s2⟩, hW₁, X', ⟨g', mk, t, L, E, ce, e1, e2, hq, hce, hcv, hcl, h1, hL, h2, h3⟩, st⟩
  · dsimp only [Pt.U, Pt.locs, Pt.cells, Pt.slots] at X' e1 e2 h1 h2 h3 st
    subst h1; subst h2; subst h3
    exact Or.inl ⟨v, (T.setVm vm₁).calling g' mk (Value.ref b :: As).toArray, t, U', L, hT, X', hL, e1, e2, hq, st⟩
  · dsimp only [Pt.U, Pt.locs, Pt.cells, Pt.slots] at X' e1 e2 h1 h2 h3 st hcl
    subst h1; subst h2; subst h3
    exact Or.inr ⟨q, (T.setVm vm₁).calling g' mk (Value.ref b :: As).toArray, t, U', L, E, ce, hT, X', hL, e1, e2, hq, hce, hcv, vx_cls hW₁ hcl, st⟩
theorem vx_runS (S : CallFix p m c cc nL s args Ts own) (hM : vx_Met l y ws rm Pc Qc XC mc ms free) (cw : CallB R s args own index y bytes maxL ret ws rm mc ms n ∧ (Cond.static y).before args s = true) (hp : PreS s H Pc As)
    (hg : g.method = m) (hn : As.length = n) (hsize : g.locals.size = nL) (hstack : g.stack = As.reverse ++ rest) (hW : 2 * g.monitorRoom + (rest.map fun v => v.category).sum ≤ 8) (hdg : decode cc g.pc = .ok (.invokestatic index, 3)) (hf : cells + mc ≤ R.cells ∧ slots + ms ≤ R.slots) :
    vx_Run p l e R s m args below meth c H locs cells slots mc ms g rest (Qc As.toArray) XC free := by
  have hK : vx_Back l R p e below s args y 3 8 (PreOf R mc ms Pc) (PostOf Qc mc ms free) (vx_Post XC mc ms free) := vx_callBack cw.1 hM hp.1
  obtain ⟨⟨-, -, -, -, -, -, hcode, hini, hy, hlen, hl⟩, hstt⟩ := cw
  obtain ⟨hx, hb, hml, ho, -⟩ := S
  intro T hT X
  rcases vx_callS X hx (bytes := bytes) (maxL := maxL) (ret := ret) ho hl hstt hini hcode hy hK hg (hsize.trans hml.symm) (argsL := As) (rest := rest) (fun sig h => hn.trans (hlen sig h)) hstack hW (by rw [hb]; exact hdg)
    (fun vm₁ hW₁ => ⟨hf.1, hf.2, hp.2 (T.setVm vm₁) hT hW₁⟩) with ⟨v, vm₁, ⟨U', l2, c2, s2⟩, hW₁, X', ⟨g', mk, t, L, e1, e2, hq, h1, hL, h2, h3⟩, st⟩ | ⟨q, vm₁, ⟨U', l2, c2, s2⟩, hW₁, X', ⟨g', mk, t, L, E, ce, e1, e2, hq, hce, hcv, hcl, h1, hL, h2, h3⟩, st⟩
  · dsimp only [Pt.U, Pt.locs, Pt.cells, Pt.slots] at X' e1 e2 h1 h2 h3 st
    subst h1; subst h2; subst h3
    exact Or.inl ⟨v, (T.setVm vm₁).calling g' mk As.toArray, t, U', L, hT, X', hL, e1, e2, hq, st⟩
  · dsimp only [Pt.U, Pt.locs, Pt.cells, Pt.slots] at X' e1 e2 h1 h2 h3 st hcl
    subst h1; subst h2; subst h3
    exact Or.inr ⟨q, (T.setVm vm₁).calling g' mk As.toArray, t, U', L, E, ce, hT, X', hL, e1, e2, hq, hce, hcv, vx_cls hW₁ hcl, st⟩
end Runs
section Rows
variable {p : Program} {l : Launch} {e : Env} {R : Room} {s : State} {m : MethodId} {args : Array Value} {below : List Frame} {meth : Method} {c : Code} {H : Heap} {locs : List Loc} {cells slots : Nat} {Q : State → Prop}
variable {mc ms : Nat} {free : Addr → Prop} {A0 A1 : Nat → Prop} {H0 : Heap} {a : Array Value} {pc : Nat} {ls : Array Slot} {st0 rest : List Value}
theorem vx_keep {st₀ t T' : State} {L : List Loc} (h0 : st₀.heap = H) (e1 : T'.heap = t.heap) (hS : va_S A0 H0 H locs) (hA : ∀ q, q < H.size → A1 q → A0 q) (hf : ∀ q, free q → A0 q) (hL : ∀ q ∈ L, free q.base) (hF : va_F A1 st₀ t) :
    H.size ≤ T'.heap.size ∧ (∀ q : Nat, q < H.size → ¬ A1 q → T'.heap[q]? = H[q]?) ∧ va_S A0 H0 T'.heap (locs ++ L) := by
  obtain ⟨hz, hk⟩ := hF
  rw [h0] at hz hk
  exact ⟨by rw [e1]; exact hz, fun q h1 h2 => by rw [e1]; exact hk q h1 h2,
    ⟨Nat.le_trans hS.1 (by rw [e1]; exact hz), fun q h1 h2 => by rw [e1, hk q (Nat.lt_of_lt_of_le h1 hS.1) (fun z => h2 (hA q (Nat.lt_of_lt_of_le h1 hS.1) z))]; exact hS.2.1 q h1 h2, fun q hq => by
      rcases List.mem_append.mp hq with h | h
      · exact hS.2.2 q h
      · exact hf _ (hL q h)⟩⟩
theorem vx_calli {S SX : Type} {post : Int32 → S → Prop} {px : SX → Prop} {B : S → State → Prop} {BX : String → SX → State → Prop} {AX : Nat → Prop} (hr : vx_Run p l e R s m args below meth c H locs cells slots mc ms (F0 m pc ls st0) rest (va_Qi post B A1 a) (vx_X px BX AX) free) (hS : va_S A0 H0 H locs) (hA : ∀ q, q < H.size → A1 q → A0 q) (hf : ∀ q, free q → A0 q) (hAX : ∀ q, q < H.size → AX q → A0 q)
    (kx : ∀ (E : String) (ce : Cell) (q9 : Addr) (u : SX) (t : State) (H1 : Heap) (locs1 : List Loc), t.heap = H1 → s.vm.Alike t.vm → px u → BX E u t → H.size ≤ H1.size → (∀ q : Nat, q < H.size → ¬ AX q → H1[q]? = H[q]?) → va_S A0 H0 H1 locs1 → H1[q9]? = some ce → ce.vm = .none → s.vm.findClass E = some ce.cls → vx_W p l e R s m args below meth c H1 locs1 (cells + mc) (slots + ms) Q (F0 m pc ls rest) q9)
    (kk : ∀ (r : Int32) (u : S) (t : State) (H1 : Heap) (locs1 : List Loc), t.heap = H1 → s.vm.Alike t.vm → post r u → B u t → H.size ≤ H1.size → (∀ q : Nat, q < H.size → ¬ A1 q → H1[q]? = H[q]?) → va_S A0 H0 H1 locs1 → W p l e R s m args below meth c H1 locs1 (cells + mc) (slots + ms) Q (F0 m (pc + 3) ls (.int r :: rest))) : W p l e R s m args below meth c H locs cells slots Q (F0 m pc ls st0) := by
  intro T hT X
  rcases hr T hT X with ⟨v, st₀, t, T', L, h0, X', hL, e1, e2, ⟨⟨r, u, hv, hp, hb⟩, hF⟩, st⟩ | ⟨q, st₀, t, T', L, E, ce, h0, X', hL, e1, e2, ⟨u, hp, hb, hF⟩, hce, hcv, hcl, st⟩
  · cases hv
    obtain ⟨k1, k2, k3⟩ := vx_keep h0 e1 hS hA hf hL hF
    obtain ⟨t2, a1, b1⟩ := kk r u t T'.heap (locs ++ L) e1.symm (by rw [← e2]; exact X'.warmed.alike) hp hb k1 k2 k3 T' rfl X'
    exact ⟨t2, st t2 a1, b1⟩
  · obtain ⟨k1, k2, k3⟩ := vx_keep h0 e1 hS hAX hf hL hF
    obtain ⟨t2, a1, b1⟩ := kx E ce q u t T'.heap (locs ++ L) e1.symm (by rw [← e2]; exact X'.warmed.alike) hp hb k1 k2 k3 (by rw [e1]; exact hce) hcv hcl T' rfl X'
    exact ⟨t2, st.trans a1, b1⟩
theorem vx_calll {S SX : Type} {post : Int64 → S → Prop} {px : SX → Prop} {B : S → State → Prop} {BX : String → SX → State → Prop} {AX : Nat → Prop} (hr : vx_Run p l e R s m args below meth c H locs cells slots mc ms (F0 m pc ls st0) rest (va_Ql post B A1 a) (vx_X px BX AX) free) (hS : va_S A0 H0 H locs) (hA : ∀ q, q < H.size → A1 q → A0 q) (hf : ∀ q, free q → A0 q) (hAX : ∀ q, q < H.size → AX q → A0 q)
    (kx : ∀ (E : String) (ce : Cell) (q9 : Addr) (u : SX) (t : State) (H1 : Heap) (locs1 : List Loc), t.heap = H1 → s.vm.Alike t.vm → px u → BX E u t → H.size ≤ H1.size → (∀ q : Nat, q < H.size → ¬ AX q → H1[q]? = H[q]?) → va_S A0 H0 H1 locs1 → H1[q9]? = some ce → ce.vm = .none → s.vm.findClass E = some ce.cls → vx_W p l e R s m args below meth c H1 locs1 (cells + mc) (slots + ms) Q (F0 m pc ls rest) q9)
    (kk : ∀ (r : Int64) (u : S) (t : State) (H1 : Heap) (locs1 : List Loc), t.heap = H1 → s.vm.Alike t.vm → post r u → B u t → H.size ≤ H1.size → (∀ q : Nat, q < H.size → ¬ A1 q → H1[q]? = H[q]?) → va_S A0 H0 H1 locs1 → W p l e R s m args below meth c H1 locs1 (cells + mc) (slots + ms) Q (F0 m (pc + 3) ls (.long r :: rest))) : W p l e R s m args below meth c H locs cells slots Q (F0 m pc ls st0) := by
  intro T hT X
  rcases hr T hT X with ⟨v, st₀, t, T', L, h0, X', hL, e1, e2, ⟨⟨r, u, hv, hp, hb⟩, hF⟩, st⟩ | ⟨q, st₀, t, T', L, E, ce, h0, X', hL, e1, e2, ⟨u, hp, hb, hF⟩, hce, hcv, hcl, st⟩
  · cases hv
    obtain ⟨k1, k2, k3⟩ := vx_keep h0 e1 hS hA hf hL hF
    obtain ⟨t2, a1, b1⟩ := kk r u t T'.heap (locs ++ L) e1.symm (by rw [← e2]; exact X'.warmed.alike) hp hb k1 k2 k3 T' rfl X'
    exact ⟨t2, st t2 a1, b1⟩
  · obtain ⟨k1, k2, k3⟩ := vx_keep h0 e1 hS hAX hf hL hF
    obtain ⟨t2, a1, b1⟩ := kx E ce q u t T'.heap (locs ++ L) e1.symm (by rw [← e2]; exact X'.warmed.alike) hp hb k1 k2 k3 (by rw [e1]; exact hce) hcv hcl T' rfl X'
    exact ⟨t2, st.trans a1, b1⟩
theorem vx_callf {S SX : Type} {post : UInt32 → S → Prop} {px : SX → Prop} {B : S → State → Prop} {BX : String → SX → State → Prop} {AX : Nat → Prop} (hr : vx_Run p l e R s m args below meth c H locs cells slots mc ms (F0 m pc ls st0) rest (va_Qf post B A1 a) (vx_X px BX AX) free) (hS : va_S A0 H0 H locs) (hA : ∀ q, q < H.size → A1 q → A0 q) (hf : ∀ q, free q → A0 q) (hAX : ∀ q, q < H.size → AX q → A0 q)
    (kx : ∀ (E : String) (ce : Cell) (q9 : Addr) (u : SX) (t : State) (H1 : Heap) (locs1 : List Loc), t.heap = H1 → s.vm.Alike t.vm → px u → BX E u t → H.size ≤ H1.size → (∀ q : Nat, q < H.size → ¬ AX q → H1[q]? = H[q]?) → va_S A0 H0 H1 locs1 → H1[q9]? = some ce → ce.vm = .none → s.vm.findClass E = some ce.cls → vx_W p l e R s m args below meth c H1 locs1 (cells + mc) (slots + ms) Q (F0 m pc ls rest) q9)
    (kk : ∀ (r : UInt32) (u : S) (t : State) (H1 : Heap) (locs1 : List Loc), t.heap = H1 → s.vm.Alike t.vm → post r u → B u t → H.size ≤ H1.size → (∀ q : Nat, q < H.size → ¬ A1 q → H1[q]? = H[q]?) → va_S A0 H0 H1 locs1 → W p l e R s m args below meth c H1 locs1 (cells + mc) (slots + ms) Q (F0 m (pc + 3) ls (.float r :: rest))) : W p l e R s m args below meth c H locs cells slots Q (F0 m pc ls st0) := by
  intro T hT X
  rcases hr T hT X with ⟨v, st₀, t, T', L, h0, X', hL, e1, e2, ⟨⟨r, u, hv, hp, hb⟩, hF⟩, st⟩ | ⟨q, st₀, t, T', L, E, ce, h0, X', hL, e1, e2, ⟨u, hp, hb, hF⟩, hce, hcv, hcl, st⟩
  · cases hv
    obtain ⟨k1, k2, k3⟩ := vx_keep h0 e1 hS hA hf hL hF
    obtain ⟨t2, a1, b1⟩ := kk r u t T'.heap (locs ++ L) e1.symm (by rw [← e2]; exact X'.warmed.alike) hp hb k1 k2 k3 T' rfl X'
    exact ⟨t2, st t2 a1, b1⟩
  · obtain ⟨k1, k2, k3⟩ := vx_keep h0 e1 hS hAX hf hL hF
    obtain ⟨t2, a1, b1⟩ := kx E ce q u t T'.heap (locs ++ L) e1.symm (by rw [← e2]; exact X'.warmed.alike) hp hb k1 k2 k3 (by rw [e1]; exact hce) hcv hcl T' rfl X'
    exact ⟨t2, st.trans a1, b1⟩
theorem vx_calld {S SX : Type} {post : UInt64 → S → Prop} {px : SX → Prop} {B : S → State → Prop} {BX : String → SX → State → Prop} {AX : Nat → Prop} (hr : vx_Run p l e R s m args below meth c H locs cells slots mc ms (F0 m pc ls st0) rest (va_Qd post B A1 a) (vx_X px BX AX) free) (hS : va_S A0 H0 H locs) (hA : ∀ q, q < H.size → A1 q → A0 q) (hf : ∀ q, free q → A0 q) (hAX : ∀ q, q < H.size → AX q → A0 q)
    (kx : ∀ (E : String) (ce : Cell) (q9 : Addr) (u : SX) (t : State) (H1 : Heap) (locs1 : List Loc), t.heap = H1 → s.vm.Alike t.vm → px u → BX E u t → H.size ≤ H1.size → (∀ q : Nat, q < H.size → ¬ AX q → H1[q]? = H[q]?) → va_S A0 H0 H1 locs1 → H1[q9]? = some ce → ce.vm = .none → s.vm.findClass E = some ce.cls → vx_W p l e R s m args below meth c H1 locs1 (cells + mc) (slots + ms) Q (F0 m pc ls rest) q9)
    (kk : ∀ (r : UInt64) (u : S) (t : State) (H1 : Heap) (locs1 : List Loc), t.heap = H1 → s.vm.Alike t.vm → post r u → B u t → H.size ≤ H1.size → (∀ q : Nat, q < H.size → ¬ A1 q → H1[q]? = H[q]?) → va_S A0 H0 H1 locs1 → W p l e R s m args below meth c H1 locs1 (cells + mc) (slots + ms) Q (F0 m (pc + 3) ls (.double r :: rest))) : W p l e R s m args below meth c H locs cells slots Q (F0 m pc ls st0) := by
  intro T hT X
  rcases hr T hT X with ⟨v, st₀, t, T', L, h0, X', hL, e1, e2, ⟨⟨r, u, hv, hp, hb⟩, hF⟩, st⟩ | ⟨q, st₀, t, T', L, E, ce, h0, X', hL, e1, e2, ⟨u, hp, hb, hF⟩, hce, hcv, hcl, st⟩
  · cases hv
    obtain ⟨k1, k2, k3⟩ := vx_keep h0 e1 hS hA hf hL hF
    obtain ⟨t2, a1, b1⟩ := kk r u t T'.heap (locs ++ L) e1.symm (by rw [← e2]; exact X'.warmed.alike) hp hb k1 k2 k3 T' rfl X'
    exact ⟨t2, st t2 a1, b1⟩
  · obtain ⟨k1, k2, k3⟩ := vx_keep h0 e1 hS hAX hf hL hF
    obtain ⟨t2, a1, b1⟩ := kx E ce q u t T'.heap (locs ++ L) e1.symm (by rw [← e2]; exact X'.warmed.alike) hp hb k1 k2 k3 (by rw [e1]; exact hce) hcv hcl T' rfl X'
    exact ⟨t2, st.trans a1, b1⟩
theorem vx_callv {S SX : Type} {post : S → Prop} {px : SX → Prop} {B : S → State → Prop} {BX : String → SX → State → Prop} {AX : Nat → Prop} (hr : vx_Run p l e R s m args below meth c H locs cells slots mc ms (F0 m pc ls st0) rest (va_Qv post B A1 a) (vx_X px BX AX) free) (hS : va_S A0 H0 H locs) (hA : ∀ q, q < H.size → A1 q → A0 q) (hf : ∀ q, free q → A0 q) (hAX : ∀ q, q < H.size → AX q → A0 q)
    (kx : ∀ (E : String) (ce : Cell) (q9 : Addr) (u : SX) (t : State) (H1 : Heap) (locs1 : List Loc), t.heap = H1 → s.vm.Alike t.vm → px u → BX E u t → H.size ≤ H1.size → (∀ q : Nat, q < H.size → ¬ AX q → H1[q]? = H[q]?) → va_S A0 H0 H1 locs1 → H1[q9]? = some ce → ce.vm = .none → s.vm.findClass E = some ce.cls → vx_W p l e R s m args below meth c H1 locs1 (cells + mc) (slots + ms) Q (F0 m pc ls rest) q9)
    (kk : ∀ (u : S) (t : State) (H1 : Heap) (locs1 : List Loc), t.heap = H1 → s.vm.Alike t.vm → post u → B u t → H.size ≤ H1.size → (∀ q : Nat, q < H.size → ¬ A1 q → H1[q]? = H[q]?) → va_S A0 H0 H1 locs1 → W p l e R s m args below meth c H1 locs1 (cells + mc) (slots + ms) Q (F0 m (pc + 3) ls (rest))) : W p l e R s m args below meth c H locs cells slots Q (F0 m pc ls st0) := by
  intro T hT X
  rcases hr T hT X with ⟨v, st₀, t, T', L, h0, X', hL, e1, e2, ⟨⟨u, hv, hp, hb⟩, hF⟩, st⟩ | ⟨q, st₀, t, T', L, E, ce, h0, X', hL, e1, e2, ⟨u, hp, hb, hF⟩, hce, hcv, hcl, st⟩
  · cases hv
    obtain ⟨k1, k2, k3⟩ := vx_keep h0 e1 hS hA hf hL hF
    obtain ⟨t2, a1, b1⟩ := kk u t T'.heap (locs ++ L) e1.symm (by rw [← e2]; exact X'.warmed.alike) hp hb k1 k2 k3 T' rfl X'
    exact ⟨t2, st t2 a1, b1⟩
  · obtain ⟨k1, k2, k3⟩ := vx_keep h0 e1 hS hAX hf hL hF
    obtain ⟨t2, a1, b1⟩ := kx E ce q u t T'.heap (locs ++ L) e1.symm (by rw [← e2]; exact X'.warmed.alike) hp hb k1 k2 k3 (by rw [e1]; exact hce) hcv hcl T' rfl X'
    exact ⟨t2, st.trans a1, b1⟩
end Rows
section Ends
variable {p : Program} {l : Launch} {e : Env} {R : Room} {s : State} {m : MethodId} {args : Array Value} {below : List Frame} {meth : Method} {c : Code} {H : Heap} {locs : List Loc} {cells slots : Nat} {Q : State → Prop}
variable {mc ms : Nat} {free : Addr → Prop} {A0 A1 : Nat → Prop} {H0 : Heap} {a : Array Value} {ls : Array Slot} {st0 rest : List Value}
variable {Qc : Array Value → State → Outcome → State → Prop} {XC : String → State → State → Prop}
/-- what a body that may throw owes at its end -/
def vx_MQ (below : List Frame) (Qc : Array Value → State → Outcome → State → Prop) (XC : String → State → State → Prop) (a : Array Value) (s : State) (mc ms : Nat) (free : Addr → Prop) : State → Prop := fun t =>
  ∃ o, t.status = .running ∧ Ended t below o ∧ vx_Q Qc XC mc ms free a s o t
theorem vx_ret {g : JFrame} {mc ms : Nat} (k : W p l e R s m args below meth c H locs cells slots (MQ below Qc args s mc ms free) g) : W p l e R s m args below meth c H locs cells slots (vx_MQ below Qc XC args s mc ms free) g := by
  intro T hT X
  obtain ⟨t, a1, o, b1, b2, b3, b4⟩ := k T hT X
  exact ⟨t, a1, o, b1, b2, Or.inl ⟨b3, b4⟩⟩
/-- not caught here: it goes on to the caller -/
theorem vx_widen {g : JFrame} {q : Addr} {k n : Nat} (h1 : cells ≤ k) (h2 : slots ≤ n) (kk : vx_W p l e R s m args below meth c H locs k n Q g q) : vx_W p l e R s m args below meth c H locs cells slots Q g q := fun T hT X => kk T hT (stand_widen X h1 h2)
theorem vx_out {pc : Nat} {E : String} {ce : Cell} {q : Addr} {mc ms : Nat} (hout : ∀ x ∈ c.exceptionTable.toList, covers x pc = false) (hlocks : meth.locks = false) (hcell : H[q]? = some ce) (hv : ce.vm = .none) (hcl : s.vm.findClass E = some ce.cls)
    (hx : ∀ t : State, t.heap = H → s.vm.Alike t.vm → XC E s t) (hf : ∀ z ∈ locs, free z.base) (hc : cells ≤ mc) (hs : slots ≤ ms) :
    vx_W p l e R s m args below meth c H locs cells slots (vx_MQ below Qc XC args s mc ms free) (F0 m pc ls rest) q := by
  intro T hT X
  obtain ⟨st1, hrun, hend, hW, hsm⟩ := X.leaveThrown q (g := F0 m pc ls rest) rfl rfl rfl hout hlocks
  have hcell9 : (T.setFrames (.throwing q :: below)).heap[q]? = some ce := by
    show T.heap[q]? = some ce
    rw [hT]; exact hcell
  exact ⟨_, st1, .threw q, hrun, hend, Or.inr ⟨q, rfl, E, ce, locs, hx _ hT hW.alike, hcell9, hv, hcl, hW, hsm.mono hc hs, hf⟩⟩
theorem vx_frame {U : State} {k n : Nat} (h : s.sameButNew ({ U with vm := s.vm } : State) locs k n) : s.heap.size ≤ U.heap.size ∧ ∀ q : Nat, q < s.heap.size → (∀ z ∈ locs, z.base ≠ q) → U.heap[q]? = s.heap[q]? := by
  obtain ⟨-, h2, -, -, -, h6⟩ := h
  refine ⟨h2, fun q hq hz => ?_⟩
  obtain ⟨c9, e1, e2, e3, e4⟩ := h6 q _ (Array.getElem?_eq_getElem hq)
  have hs : c9.slots = (s.heap[q]).slots := Array.ext_getElem? fun i => e4 i fun hm => hz _ hm rfl
  have h9 : c9 = s.heap[q] := by
    rw [hs] at e2
    exact e2
  have e5 : U.heap[q]? = some c9 := e1
  rw [e5, h9, Array.getElem?_eq_getElem hq]
/-- the words of a throw but the four that speak of the heap -/
def vx_no (w : Cond) : Bool := decide (w ≠ .isRef (.static Bundle.tN "UNASSIGNED_STACK" Bundle.steD)) && decide (w ≠ .isRef (.static Bundle.tN "SUPPRESSED_SENTINEL" Bundle.listD)) && decide (w ≠ .laysStatic Bundle.tN "UNASSIGNED_STACK" Bundle.steD) && decide (w ≠ .laysStatic Bundle.tN "SUPPRESSED_SENTINEL" Bundle.listD)
def vx_at0 (own : String) (ic : Nat) (X : String) (names : List String) : List Cond := (Bundle.ownAtoms0 own ic X names).filter vx_no
def vx_atS (own : String) (ic : Nat) (X : String) (names : List String) : List Cond := (Bundle.ownAtoms own ic X names).filter vx_no
/-- a word that the tables alone decide, or a good one -/
def vx_ot (w : Cond) : Bool := w.onTables || goodWord w
theorem vx_ot_at {args a' : Array Value} {s U : State} {w : Cond} (hW : s.WarmedH U.vm) (hvm : s.vm = U.vm) (hg : vx_ot w = true) (h : w.before args s = true) : w.before a' U = true := by
  simp only [vx_ot, Bool.or_eq_true] at hg
  rcases hg with hg | hg
  · exact va_tabs hg hvm h
  · exact word_at hW (good_of_word hg) h
/-- a list's words: the good ones out of the method's own list, the others by premises of their own -/
theorem vx_hat {args : Array Value} {s : State} {L B : List Cond} (h1 : ∀ w ∈ L.filter goodWord, w.before args s = true) (h2 : ∀ w ∈ L.filter (fun w => !goodWord w), w ∈ B) (h3 : ∀ w ∈ B, w.before args s = true) : ∀ w ∈ L, w.before args s = true := by
  intro w hw
  by_cases g : goodWord w = true
  · exact h1 w (List.mem_filter.mpr ⟨hw, g⟩)
  · refine h3 w (h2 w (List.mem_filter.mpr ⟨hw, ?_⟩))
    show (!goodWord w) = true
    cases hgw : goodWord w
    · rfl
    · exact absurd hgw g
theorem vx_c {args : Array Value} {s : State} {w : Cond} {B : List Cond} (h : w.before args s = true) (t : ∀ w ∈ B, w.before args s = true) : ∀ w' ∈ w :: B, w'.before args s = true := fun w' h' => (List.mem_cons.mp h').elim (fun e => by rw [e]; exact h) (t w')
theorem vx_n {args : Array Value} {s : State} : ∀ w ∈ ([] : List Cond), w.before args s = true := fun _ h => nomatch h
theorem vx_own {args : Array Value} {s : State} {L : List Cond} (h1 : ∀ w ∈ L.filter vx_no, w.before args s = true)
    (hU : (Cond.isRef (.static Bundle.tN "UNASSIGNED_STACK" Bundle.steD)).before args s = true) (hN : (Cond.isRef (.static Bundle.tN "SUPPRESSED_SENTINEL" Bundle.listD)).before args s = true)
    (lU : (Cond.laysStatic Bundle.tN "UNASSIGNED_STACK" Bundle.steD).before args s = true) (lN : (Cond.laysStatic Bundle.tN "SUPPRESSED_SENTINEL" Bundle.listD).before args s = true) : ∀ w ∈ L, w.before args s = true := by
  intro w hw
  by_cases e1 : w = .isRef (.static Bundle.tN "UNASSIGNED_STACK" Bundle.steD)
  · rw [e1]; exact hU
  · by_cases e2 : w = .isRef (.static Bundle.tN "SUPPRESSED_SENTINEL" Bundle.listD)
    · rw [e2]; exact hN
    · by_cases e3 : w = .laysStatic Bundle.tN "UNASSIGNED_STACK" Bundle.steD
      · rw [e3]; exact lU
      · by_cases e4 : w = .laysStatic Bundle.tN "SUPPRESSED_SENTINEL" Bundle.listD
        · rw [e4]; exact lN
        · exact h1 w (List.mem_filter.mpr ⟨hw, by unfold vx_no; rw [decide_eq_true e1, decide_eq_true e2, decide_eq_true e3, decide_eq_true e4]; rfl⟩)
/-- where a static field lies, its class's statics cell in H -/
def vx_L (C n d : String) (A : Nat → Prop) (U : State) (H : Heap) : Prop := ∃ (c : ClassId) (k : Class) (i : Nat) (f : Field) (a : Nat) (cell : Cell), U.vm.findClass C = some c ∧ U.fieldFound? C n d = some (c, k, i, f) ∧ f.isStatic = true ∧ k.statics = some a ∧ H[a]? = some cell ∧ cell.vm.isStatics = true ∧ cell.cls = c ∧ f.slot < cell.slots.size ∧ k.staticTypes[f.slot]? = some f.type ∧ ¬ A a
theorem vx_L.moved {C n d : String} {A : Nat → Prop} {u U : State} {H : Heap} (hvm : u.vm.Alike U.vm) (h : vx_L C n d A u H) : vx_L C n d A U H := by
  obtain ⟨c, k, i, f, a, cell, h1, h2, h3, h4, h5, h6, h7, h8, h9, h10⟩ := h
  obtain ⟨k', hi', he⟩ := State.fieldFound?_setVm hvm h2
  exact ⟨c, k', i, f, a, cell, by rw [hvm.findClass]; exact h1, hi', h3, by rw [he]; exact h4, h5, h6, h7, h8, by rw [he]; exact h9, h10⟩
theorem vx_L.kept {C n d : String} {A : Nat → Prop} {U : State} {H H1 : Heap} (h : vx_L C n d A U H) (hq : ∀ a : Nat, a < H.size → ¬ A a → H1[a]? = H[a]?) : vx_L C n d A U H1 := by
  obtain ⟨c, k, i, f, a, cell, h1, h2, h3, h4, h5, h6, h7, h8, h9, h10⟩ := h
  exact ⟨c, k, i, f, a, cell, h1, h2, h3, h4, by rw [hq a (Array.getElem?_eq_some_iff.mp h5).1 h10]; exact h5, h6, h7, h8, h9, h10⟩
theorem vx_L.narrow {C n d : String} {A B : Nat → Prop} {U : State} {H : Heap} (h : vx_L C n d A U H) (hAB : ∀ q, B q → A q) : vx_L C n d B U H := by
  obtain ⟨c, k, i, f, a, cell, h1, h2, h3, h4, h5, h6, h7, h8, h9, h10⟩ := h
  exact ⟨c, k, i, f, a, cell, h1, h2, h3, h4, h5, h6, h7, h8, h9, fun z => h10 (hAB _ z)⟩
theorem vx_L.word {C n d : String} {A : Nat → Prop} {s : State} {args : Array Value} (h : vx_L C n d A s s.heap) : (Cond.laysStatic C n d).before args s = true := by
  obtain ⟨c, k, i, f, a, cell, h1, h2, h3, h4, h5, h6, h7, h8, h9, -⟩ := h
  show (Cond.laysStatic C n d).holds args s none s [] = true
  exact Cond.laysStatic_of h1 h2 h3 h4 h5 h6 h7 h8 h9
/-- .. and what it holds: null or some reference -/
def vx_Zq (C n d : String) (A : Nat → Prop) (U : State) (H : Heap) : Prop := va_Zq C n d A U H ∧ vx_L C n d A U H
theorem vx_Zq.moved {C n d : String} {A : Nat → Prop} {u U : State} {H : Heap} (hvm : u.vm.Alike U.vm) (h : vx_Zq C n d A u H) : vx_Zq C n d A U H := ⟨va_Zq.moved hvm h.1, vx_L.moved hvm h.2⟩
theorem vx_Zq.kept {C n d : String} {A : Nat → Prop} {U : State} {H H1 : Heap} (h : vx_Zq C n d A U H) (hq : ∀ a : Nat, a < H.size → ¬ A a → H1[a]? = H[a]?) : vx_Zq C n d A U H1 := ⟨va_Zq.kept h.1 hq, vx_L.kept h.2 hq⟩
theorem vx_Zq.narrow {C n d : String} {A B : Nat → Prop} {U : State} {H : Heap} (h : vx_Zq C n d A U H) (hAB : ∀ q, B q → A q) : vx_Zq C n d B U H := ⟨va_Zq.narrow h.1 hAB, vx_L.narrow h.2 hAB⟩
theorem vx_Zqof {args : Array Value} {s : State} {C n d : String} {A : Nat → Prop} (hl : (Cond.laysStatic C n d).before args s = true) (hini : (Cond.initialized C).before args s = true) (h : (Cond.isRef (.static C n d)).before args s = true) (hA : ∀ a : Nat, a < s.heap.size → ¬ A a) : vx_Zq C n d A s s.heap := by
  refine ⟨va_Zqof hl hini h hA, ?_⟩
  obtain ⟨c, k, i, f, a, cell, h1, h2, h3, h4, h5, h6, h7, h8, h9⟩ := Cond.laysStatic_spec hl
  exact ⟨c, k, i, f, a, cell, h1, h2, h3, h4, h5, h6, h7, h8, h9, hA a (Array.getElem?_eq_some_iff.mp h5).1⟩
theorem vx_isRef {C n d : String} {v : Value} {A : Nat → Prop} {s : State} {args : Array Value} (h : va_Z C n d v A s s.heap) (hv : v.isRef = true) : (Cond.isRef (.static C n d)).before args s = true := by
  obtain ⟨cf, kf, fi, f, a, cell, h1, h2, h3, h4, h5, h6, h7, -⟩ := h
  have he : (Term.static C n d).eval args s none [] s = some v := by
    simp [Term.eval, State.fieldNamed?, h1, h2, h4, h5, h6, h7]
  simp only [Cond.before, Cond.holds, Cond.value, he]
  cases v <;> simp_all [Value.isRef]
theorem vx_isRefq {C n d : String} {A : Nat → Prop} {s : State} {args : Array Value} (h : va_Zq C n d A s s.heap) : (Cond.isRef (.static C n d)).before args s = true := by
  rcases h with h | ⟨t, h⟩
  · exact vx_isRef h rfl
  · exact vx_isRef h rfl
/-- the same frame, seen from here: as if the method were called anew in this heap -/
theorem vx_rebase {T : State} (X : Stand p l e R s m args below meth c T locs cells slots) {R' : Room} (hf : R'.frames ≤ R.frames) (hl : R'.locals ≤ R.locals) (hc : cells + R'.cells ≤ R.cells) (hs : slots + R'.slots ≤ R.slots) :
    Stand p l e R' ((T.setVm s.vm).setFrames (.invoking m args :: below)) m args below meth c T [] 0 0 := by
  have htop : (T.setVm s.vm).topJava?.isSome := X.here.top
  have hF : ((T.setVm s.vm).setFrames (.invoking m args :: below)).frames = .invoking m args :: below := State.frames_setFrames _ (State.cur_lt_of_top htop)
  obtain ⟨g₀, hg0⟩ := Option.isSome_iff_exists.mp htop
  obtain ⟨r, hr⟩ := State.topJava?_eq_some.mp hg0
  have hl9 : e.platform.stackLimits (T.setVm s.vm).me = e.platform.stackLimits s.me := X.limits
  have hb9 : (T.setVm s.vm).me.stackBytes = s.me.stackBytes := X.bytes
  refine ⟨X.admits, X.cas, X.clock, hF, ?_, X.hears, X.method, X.code, X.here, X.tail, X.warmed, ?_, ?_, ?_⟩
  · have h := X.room
    have hU : ((T.setVm s.vm).setFrames (.invoking m args :: below)).localsInUse = s.localsInUse := by
      rw [State.localsInUse_invoking hF (meth := meth) (c := c) X.method X.code, State.localsInUse_invoking X.frames X.method X.code]
    simp only [State.hasRoom, Bool.and_eq_true, decide_eq_true_eq] at h ⊢
    obtain ⟨⟨⟨⟨h1, h2, h3, h4, h5, h6⟩, h7⟩, h8⟩, h9⟩ := h
    rw [X.frames, List.length_cons] at h2 h3
    have q1 := X.heapSize
    have q2 := X.used
    simp only [hF, hU, List.length_cons, State.stackLimits_setFrames, State.stackBytes_setFrames, hl9, hb9]
    refine ⟨⟨⟨⟨by omega, by omega, by omega, by omega, by omega, h6⟩, ?_⟩, ?_⟩, X.book⟩
    · show T.heap.size + R'.cells ≤ e.platform.maxCells
      omega
    · show T.slotsUsed + R'.slots ≤ e.platform.maxSlots
      omega
  · rw [State.stackLimits_setFrames]; rfl
  · rw [State.stackBytes_setFrames]; rfl
  · refine ⟨?_, Nat.le_refl _, Nat.le_refl _, ?_, ?_, fun a c9 h9 => ⟨c9, h9, rfl, rfl, fun _ _ => rfl⟩⟩
    · obtain ⟨t, ht, -⟩ := State.frames_cons hr
      show T.setVm s.vm = { ((T.setVm s.vm).setFrames (.invoking m args :: below)).setFrames (T.setVm s.vm).frames with heap := T.heap, slotsUsed := T.slotsUsed }
      rw [State.setFrames_setFrames, State.setFrames_self ht]
      rfl
    · show T.slotsUsed = T.slotsUsed + ((T.heap.toList.drop T.heap.size).map (·.slots.size)).sum
      rw [List.drop_eq_nil_of_le (Nat.le_of_eq Array.length_toList)]
      rfl
    · show ((T.heap.toList.drop T.heap.size).map (·.slots.size)).sum ≤ 0
      rw [List.drop_eq_nil_of_le (Nat.le_of_eq Array.length_toList)]
      exact Nat.le_refl _
/-- 'throw new E()': new; dup; invokespecial; athrow -/
theorem vx_throw0 {cc : ByteArray} {pc : Nat} (hexec : p.tables.exec = Jvm.exec) (hb : c.code = cc) (hl : l.stackTraces = false) {own cls : String} {names : List String} {ik ic mc ms : Nat} {A : Nat → Prop}
    (hown : s.vm.findClass own = some m.cls) (hcls : Bundle.fit cls = true) (hnames : ∀ n ∈ names, Bundle.fit n = true)
    (hk : (Cond.classLink own ik cls).before args s = true) (hini : (Cond.initialized cls).before args s = true) (hat : ∀ w ∈ vx_at0 own ic cls names, w.before args s = true)
    (hgood : ∀ w ∈ Cond.classLink own ik cls :: Cond.initialized cls :: vx_at0 own ic cls names, vx_ot w = true)
    (hU : vx_Zq Bundle.tN "UNASSIGNED_STACK" Bundle.steD A s s.heap) (hN : vx_Zq Bundle.tN "SUPPRESSED_SENTINEL" Bundle.listD A s s.heap) (hS : va_S A s.heap H locs) (hsize : ls.size = c.maxLocals)
    (d0 : decode cc pc = .ok (.new ik, 3)) (d3 : decode cc (pc + 3) = .ok (.dup, 1)) (d4 : decode cc (pc + 4) = .ok (.invokespecial ic, 3)) (d7 : decode cc (pc + 7) = .ok (.athrow, 1))
    (hout : ∀ x ∈ c.exceptionTable.toList, covers x (pc + 7) = false)
    (hRframes : names.length + 3 < R.frames) (hRlocals : (rest.map fun v => v.category).sum + (13 * (names.length + 1) + 42) ≤ R.locals) (hRcells : cells + 1 ≤ R.cells) (hRslots : slots + 6 ≤ R.slots) (hlocks : meth.locks = false)
    (hx : ∀ t : State, s.vm.Alike t.vm → H.size ≤ t.heap.size → (∀ q : Nat, q < H.size → t.heap[q]? = H[q]?) → XC cls s t)
    (hf : ∀ z ∈ locs, free z.base) (hc : cells + 1 ≤ mc) (hs : slots + 6 ≤ ms) :
    W p l e R s m args below meth c H locs cells slots (vx_MQ below Qc XC args s mc ms free) (F0 m pc ls rest) := by
  intro T hT X
  have htr : e.platform.stackTraces = false := (show e.platform.stackTraces = l.stackTraces by rw [X.admits.platform]).trans hl
  have Y := vx_rebase X (R' := { frames := R.frames, locals := R.locals, cells := 1, slots := 6 }) (Nat.le_refl _) (Nat.le_refl _) hRcells hRslots
  obtain ⟨s', hA⟩ : ∃ z, z = (T.setVm s.vm).setFrames (.invoking m args :: below) := ⟨_, rfl⟩
  rw [← hA] at Y
  have hvm : s'.vm = s.vm := by rw [hA]; rfl
  have hhp : s'.heap = H := by rw [hA]; exact hT
  have hW0 : s.WarmedH s'.vm := by rw [hvm]; exact State.WarmedH.refl s
  have hat' : ∀ w ∈ vx_at0 own ic cls names, w.before args s' = true := fun w hw => vx_ot_at hW0 hvm.symm (hgood w (List.mem_cons_of_mem _ (List.mem_cons_of_mem _ hw))) (hat w hw)
  have hk' : (Cond.classLink own ik cls).before args s' = true := vx_ot_at hW0 hvm.symm (hgood _ List.mem_cons_self) hk
  have hini' : (Cond.initialized cls).before args s' = true := vx_ot_at hW0 hvm.symm (hgood _ (List.mem_cons_of_mem _ List.mem_cons_self)) hini
  have hU' : vx_Zq Bundle.tN "UNASSIGNED_STACK" Bundle.steD A s' s'.heap := by rw [hhp]; exact vx_Zq.moved hW0.alike (hU.kept hS.2.1)
  have hN' : vx_Zq Bundle.tN "SUPPRESSED_SENTINEL" Bundle.listD A s' s'.heap := by rw [hhp]; exact vx_Zq.moved hW0.alike (hN.kept hS.2.1)
  have h : ∀ w ∈ Bundle.ownAtoms0 own ic cls names, w.before args s' = true := vx_own hat' (vx_isRefq hU'.1) (vx_isRefq hN'.1) hU'.2.word hN'.2.word
  have hown' : s'.vm.findClass own = some m.cls := by rw [hvm]; exact hown
  have hins : (Cond.instantiable cls 6).before args s' = true := h _ (by simp [Bundle.ownAtoms0])
  obtain ⟨vm₁, cX, kX, hfX, hkX, -, -, X₁, st1⟩ := Y.newCold hexec (own := own) (C := cls) (index := ik) (n := 6) hown' hk' hins hini'
    (g := F0 m pc ls rest) rfl (by rw [hb]; exact d0) (Nat.le_refl _) (Nat.le_refl _)
  generalize hT1 : (T.setVm vm₁).pushCell { cls := cX, slots := kX.instanceTypes.map defaultValue, vm := .none } = T1 at X₁ st1
  have hcat : (Value.ref T.heap.size).category = 1 := rfl
  have hcellA : T1.heap[T.heap.size]? = some (freshCell cX kX) := by rw [← hT1]; exact State.heap_pushCell_size _ _
  have d3' : decode c.code (pc + 3) = .ok (.dup, 1) := by rw [hb]; exact d3
  obtain ⟨U, hsteps, hrun, hend, hW, hsame, ce, hce, hO⟩ := X₁.ctorThrow0 hexec htr (own := own) (cls := cls) (names := names) (ic := ic) hown' hcls hnames h (fun x hx => nomatch hx) hfX hkX hcellA (by rw [hhp, hT]; exact Nat.le_refl _)
    (g := { method := m, pc := pc + 4, locals := ls, stack := .ref T.heap.size :: .ref T.heap.size :: rest, locked := none }) rfl hsize rfl rfl (rest := rest) rfl
    (by rw [hb]; exact d4) (by rw [hb]; exact d7) hout hRframes (by simp only [List.map_cons, List.sum_cons, hcat]; omega) hlocks
  obtain ⟨f1, f2⟩ := vx_frame hsame
  rw [hhp] at f1 f2
  have hWs : s.WarmedH U.vm := State.WarmedH.trans hW0 hW
  have hcl : s.vm.findClass cls = some ce.cls := by
    have h9 := hO.cls
    rw [hvm] at h9
    exact h9
  have hall : s.sameButNew ({ U with vm := s.vm } : State) locs mc ms := by
    subst hA
    obtain ⟨e1, e2⟩ := hsame
    rw [State.setFrames_setFrames] at e1
    have h2 : (T.setVm s.vm).sameButNew ({ U with vm := s.vm } : State) [] (0 + 1) (0 + 6) := ⟨e1, e2⟩
    have h3 := X.same.trans h2
    rw [List.append_nil] at h3
    exact h3.mono hc hs
  refine ⟨U, ?_, .threw T.heap.size, hrun, hend, Or.inr ⟨T.heap.size, rfl, cls, ce, locs, hx U hWs.alike f1 (fun q hq => f2 q hq (fun z hz => nomatch hz)), hce, hO.vm, hcl, hWs, hall, hf⟩⟩
  refine st1 _ ?_
  show Steps p.tables e below (T1.setTop { method := m, pc := pc + 3, locals := ls, stack := .ref T.heap.size :: rest, locked := none }) _
  jvm_step X₁.here [X₁.here.top, hexec, d3', Value.category]
  exact hsteps
/-- 'throw new E("text")': new; dup; ldc; invokespecial; athrow -/
theorem vx_throwS {cc : ByteArray} {pc : Nat} (hexec : p.tables.exec = Jvm.exec) (hb : c.code = cc) (hl : l.stackTraces = false) {own cls text : String} {names : List String} {ik is ic mc ms sa : Nat} {A : Nat → Prop}
    (hown : s.vm.findClass own = some m.cls) (hcls : Bundle.fit cls = true) (hnames : ∀ n ∈ names, Bundle.fit n = true)
    (hk : (Cond.classLink own ik cls).before args s = true) (hini : (Cond.initialized cls).before args s = true) (hstr : vk_R own is text sa s) (hat : ∀ w ∈ vx_atS own ic cls names, w.before args s = true)
    (hgood : ∀ w ∈ Cond.classLink own ik cls :: Cond.initialized cls :: vx_atS own ic cls names, vx_ot w = true)
    (hU : vx_Zq Bundle.tN "UNASSIGNED_STACK" Bundle.steD A s s.heap) (hN : vx_Zq Bundle.tN "SUPPRESSED_SENTINEL" Bundle.listD A s s.heap) (hS : va_S A s.heap H locs) (hsize : ls.size = c.maxLocals)
    (d0 : decode cc pc = .ok (.new ik, 3)) (d3 : decode cc (pc + 3) = .ok (.dup, 1)) (d4 : decode cc (pc + 4) = .ok (.ldc is, 2)) (d6 : decode cc (pc + 6) = .ok (.invokespecial ic, 3)) (d9 : decode cc (pc + 9) = .ok (.athrow, 1))
    (hout : ∀ x ∈ c.exceptionTable.toList, covers x (pc + 9) = false)
    (hRframes : names.length + 3 < R.frames) (hRlocals : (rest.map fun v => v.category).sum + (13 * (names.length + 1) + 43) ≤ R.locals) (hRcells : cells + 1 ≤ R.cells) (hRslots : slots + 6 ≤ R.slots) (hlocks : meth.locks = false)
    (hx : ∀ t : State, s.vm.Alike t.vm → H.size ≤ t.heap.size → (∀ q : Nat, q < H.size → t.heap[q]? = H[q]?) → XC cls s t)
    (hf : ∀ z ∈ locs, free z.base) (hc : cells + 1 ≤ mc) (hs : slots + 6 ≤ ms) :
    W p l e R s m args below meth c H locs cells slots (vx_MQ below Qc XC args s mc ms free) (F0 m pc ls rest) := by
  intro T hT X
  have htr : e.platform.stackTraces = false := (show e.platform.stackTraces = l.stackTraces by rw [X.admits.platform]).trans hl
  have Y := vx_rebase X (R' := { frames := R.frames, locals := R.locals, cells := 1, slots := 6 }) (Nat.le_refl _) (Nat.le_refl _) hRcells hRslots
  obtain ⟨s', hA⟩ : ∃ z, z = (T.setVm s.vm).setFrames (.invoking m args :: below) := ⟨_, rfl⟩
  rw [← hA] at Y
  have hvm : s'.vm = s.vm := by rw [hA]; rfl
  have hhp : s'.heap = H := by rw [hA]; exact hT
  have hW0 : s.WarmedH s'.vm := by rw [hvm]; exact State.WarmedH.refl s
  have hat' : ∀ w ∈ vx_atS own ic cls names, w.before args s' = true := fun w hw => vx_ot_at hW0 hvm.symm (hgood w (List.mem_cons_of_mem _ (List.mem_cons_of_mem _ hw))) (hat w hw)
  have hk' : (Cond.classLink own ik cls).before args s' = true := vx_ot_at hW0 hvm.symm (hgood _ List.mem_cons_self) hk
  have hini' : (Cond.initialized cls).before args s' = true := vx_ot_at hW0 hvm.symm (hgood _ (List.mem_cons_of_mem _ List.mem_cons_self)) hini
  have hU' : vx_Zq Bundle.tN "UNASSIGNED_STACK" Bundle.steD A s' s'.heap := by rw [hhp]; exact vx_Zq.moved hW0.alike (hU.kept hS.2.1)
  have hN' : vx_Zq Bundle.tN "SUPPRESSED_SENTINEL" Bundle.listD A s' s'.heap := by rw [hhp]; exact vx_Zq.moved hW0.alike (hN.kept hS.2.1)
  have h : ∀ w ∈ Bundle.ownAtoms own ic cls names, w.before args s' = true := vx_own hat' (vx_isRefq hU'.1) (vx_isRefq hN'.1) hU'.2.word hN'.2.word
  have hown' : s'.vm.findClass own = some m.cls := by rw [hvm]; exact hown
  have hins : (Cond.instantiable cls 6).before args s' = true := h _ (by simp [Bundle.ownAtoms])
  obtain ⟨vm₁, cX, kX, hfX, hkX, -, -, X₁, st1⟩ := Y.newCold hexec (own := own) (C := cls) (index := ik) (n := 6) hown' hk' hins hini'
    (g := F0 m pc ls rest) rfl (by rw [hb]; exact d0) (Nat.le_refl _) (Nat.le_refl _)
  generalize hT1 : (T.setVm vm₁).pushCell { cls := cX, slots := kX.instanceTypes.map defaultValue, vm := .none } = T1 at X₁ st1
  have hcat : (Value.ref T.heap.size).category = 1 := rfl
  have hcellA : T1.heap[T.heap.size]? = some (freshCell cX kX) := by rw [← hT1]; exact State.heap_pushCell_size _ _
  have d3' : decode c.code (pc + 3) = .ok (.dup, 1) := by rw [hb]; exact d3
  have d4' : decode c.code (pc + 4) = .ok (.ldc is, 2) := by rw [hb]; exact d4
  have hstr' : vk_R own is text sa s' := vk_R.warm hW0 hstr
  obtain ⟨U, hsteps, hrun, hend, hW, hsame, ce, hce, hO⟩ := X₁.ctorThrowS hexec htr (own := own) (cls := cls) (names := names) (ic := ic) hown' hcls hnames h (fun x hx => nomatch hx) hfX hkX hcellA (by rw [hhp, hT]; exact Nat.le_refl _) (msg := .ref sa) rfl
    (g := { method := m, pc := pc + 6, locals := ls, stack := .ref sa :: .ref T.heap.size :: .ref T.heap.size :: rest, locked := none }) rfl hsize rfl rfl (rest := rest) rfl
    (by rw [hb]; exact d6) (by rw [hb]; exact d9) hout hRframes (by simp only [List.map_cons, List.sum_cons, hcat]; omega) hlocks
  obtain ⟨f1, f2⟩ := vx_frame hsame
  rw [hhp] at f1 f2
  have hWs : s.WarmedH U.vm := State.WarmedH.trans hW0 hW
  have hcl : s.vm.findClass cls = some ce.cls := by
    have h9 := hO.cls
    rw [hvm] at h9
    exact h9
  have hall : s.sameButNew ({ U with vm := s.vm } : State) locs mc ms := by
    subst hA
    obtain ⟨e1, e2⟩ := hsame
    rw [State.setFrames_setFrames] at e1
    have h2 : (T.setVm s.vm).sameButNew ({ U with vm := s.vm } : State) [] (0 + 1) (0 + 6) := ⟨e1, e2⟩
    have h3 := X.same.trans h2
    rw [List.append_nil] at h3
    exact h3.mono hc hs
  refine ⟨U, ?_, .threw T.heap.size, hrun, hend, Or.inr ⟨T.heap.size, rfl, cls, ce, locs, hx U hWs.alike f1 (fun q hq => f2 q hq (fun z hz => nomatch hz)), hce, hO.vm, hcl, hWs, hall, hf⟩⟩
  refine st1 _ ?_
  show Steps p.tables e below (T1.setTop { method := m, pc := pc + 3, locals := ls, stack := .ref T.heap.size :: rest, locked := none }) _
  jvm_step X₁.here [X₁.here.top, hexec, d3', Value.category]
  exact X₁.ldcString hexec (own := own) (text := text) (index := is) (a := sa) hown' hstr'.1 hstr'.2
    (g := { method := m, pc := pc + 4, locals := ls, stack := .ref T.heap.size :: .ref T.heap.size :: rest, locked := none }) rfl d4' _ hsteps
/-- 'throw new E("text")', the text by a wide index -/
theorem vx_throwSW {cc : ByteArray} {pc : Nat} (hexec : p.tables.exec = Jvm.exec) (hb : c.code = cc) (hl : l.stackTraces = false) {own cls text : String} {names : List String} {ik is ic mc ms sa : Nat} {A : Nat → Prop}
    (hown : s.vm.findClass own = some m.cls) (hcls : Bundle.fit cls = true) (hnames : ∀ n ∈ names, Bundle.fit n = true)
    (hk : (Cond.classLink own ik cls).before args s = true) (hini : (Cond.initialized cls).before args s = true) (hstr : vk_R own is text sa s) (hat : ∀ w ∈ vx_atS own ic cls names, w.before args s = true)
    (hgood : ∀ w ∈ Cond.classLink own ik cls :: Cond.initialized cls :: vx_atS own ic cls names, vx_ot w = true)
    (hU : vx_Zq Bundle.tN "UNASSIGNED_STACK" Bundle.steD A s s.heap) (hN : vx_Zq Bundle.tN "SUPPRESSED_SENTINEL" Bundle.listD A s s.heap) (hS : va_S A s.heap H locs) (hsize : ls.size = c.maxLocals)
    (d0 : decode cc pc = .ok (.new ik, 3)) (d3 : decode cc (pc + 3) = .ok (.dup, 1)) (d4 : decode cc (pc + 4) = .ok (.ldc_w is, 3)) (d7 : decode cc (pc + 7) = .ok (.invokespecial ic, 3)) (d10 : decode cc (pc + 10) = .ok (.athrow, 1))
    (hout : ∀ x ∈ c.exceptionTable.toList, covers x (pc + 10) = false)
    (hRframes : names.length + 3 < R.frames) (hRlocals : (rest.map fun v => v.category).sum + (13 * (names.length + 1) + 43) ≤ R.locals) (hRcells : cells + 1 ≤ R.cells) (hRslots : slots + 6 ≤ R.slots) (hlocks : meth.locks = false)
    (hx : ∀ t : State, s.vm.Alike t.vm → H.size ≤ t.heap.size → (∀ q : Nat, q < H.size → t.heap[q]? = H[q]?) → XC cls s t)
    (hf : ∀ z ∈ locs, free z.base) (hc : cells + 1 ≤ mc) (hs : slots + 6 ≤ ms) :
    W p l e R s m args below meth c H locs cells slots (vx_MQ below Qc XC args s mc ms free) (F0 m pc ls rest) := by
  intro T hT X
  have htr : e.platform.stackTraces = false := (show e.platform.stackTraces = l.stackTraces by rw [X.admits.platform]).trans hl
  have Y := vx_rebase X (R' := { frames := R.frames, locals := R.locals, cells := 1, slots := 6 }) (Nat.le_refl _) (Nat.le_refl _) hRcells hRslots
  obtain ⟨s', hA⟩ : ∃ z, z = (T.setVm s.vm).setFrames (.invoking m args :: below) := ⟨_, rfl⟩
  rw [← hA] at Y
  have hvm : s'.vm = s.vm := by rw [hA]; rfl
  have hhp : s'.heap = H := by rw [hA]; exact hT
  have hW0 : s.WarmedH s'.vm := by rw [hvm]; exact State.WarmedH.refl s
  have hat' : ∀ w ∈ vx_atS own ic cls names, w.before args s' = true := fun w hw => vx_ot_at hW0 hvm.symm (hgood w (List.mem_cons_of_mem _ (List.mem_cons_of_mem _ hw))) (hat w hw)
  have hk' : (Cond.classLink own ik cls).before args s' = true := vx_ot_at hW0 hvm.symm (hgood _ List.mem_cons_self) hk
  have hini' : (Cond.initialized cls).before args s' = true := vx_ot_at hW0 hvm.symm (hgood _ (List.mem_cons_of_mem _ List.mem_cons_self)) hini
  have hU' : vx_Zq Bundle.tN "UNASSIGNED_STACK" Bundle.steD A s' s'.heap := by rw [hhp]; exact vx_Zq.moved hW0.alike (hU.kept hS.2.1)
  have hN' : vx_Zq Bundle.tN "SUPPRESSED_SENTINEL" Bundle.listD A s' s'.heap := by rw [hhp]; exact vx_Zq.moved hW0.alike (hN.kept hS.2.1)
  have h : ∀ w ∈ Bundle.ownAtoms own ic cls names, w.before args s' = true := vx_own hat' (vx_isRefq hU'.1) (vx_isRefq hN'.1) hU'.2.word hN'.2.word
  have hown' : s'.vm.findClass own = some m.cls := by rw [hvm]; exact hown
  have hins : (Cond.instantiable cls 6).before args s' = true := h _ (by simp [Bundle.ownAtoms])
  obtain ⟨vm₁, cX, kX, hfX, hkX, -, -, X₁, st1⟩ := Y.newCold hexec (own := own) (C := cls) (index := ik) (n := 6) hown' hk' hins hini'
    (g := F0 m pc ls rest) rfl (by rw [hb]; exact d0) (Nat.le_refl _) (Nat.le_refl _)
  generalize hT1 : (T.setVm vm₁).pushCell { cls := cX, slots := kX.instanceTypes.map defaultValue, vm := .none } = T1 at X₁ st1
  have hcat : (Value.ref T.heap.size).category = 1 := rfl
  have hcellA : T1.heap[T.heap.size]? = some (freshCell cX kX) := by rw [← hT1]; exact State.heap_pushCell_size _ _
  have d3' : decode c.code (pc + 3) = .ok (.dup, 1) := by rw [hb]; exact d3
  have d4' : decode c.code (pc + 4) = .ok (.ldc_w is, 3) := by rw [hb]; exact d4
  have hstr' : vk_R own is text sa s' := vk_R.warm hW0 hstr
  obtain ⟨U, hsteps, hrun, hend, hW, hsame, ce, hce, hO⟩ := X₁.ctorThrowS hexec htr (own := own) (cls := cls) (names := names) (ic := ic) hown' hcls hnames h (fun x hx => nomatch hx) hfX hkX hcellA (by rw [hhp, hT]; exact Nat.le_refl _) (msg := .ref sa) rfl
    (g := { method := m, pc := pc + 7, locals := ls, stack := .ref sa :: .ref T.heap.size :: .ref T.heap.size :: rest, locked := none }) rfl hsize rfl rfl (rest := rest) rfl
    (by rw [hb]; exact d7) (by rw [hb]; exact d10) hout hRframes (by simp only [List.map_cons, List.sum_cons, hcat]; omega) hlocks
  obtain ⟨f1, f2⟩ := vx_frame hsame
  rw [hhp] at f1 f2
  have hWs : s.WarmedH U.vm := State.WarmedH.trans hW0 hW
  have hcl : s.vm.findClass cls = some ce.cls := by
    have h9 := hO.cls
    rw [hvm] at h9
    exact h9
  have hall : s.sameButNew ({ U with vm := s.vm } : State) locs mc ms := by
    subst hA
    obtain ⟨e1, e2⟩ := hsame
    rw [State.setFrames_setFrames] at e1
    have h2 : (T.setVm s.vm).sameButNew ({ U with vm := s.vm } : State) [] (0 + 1) (0 + 6) := ⟨e1, e2⟩
    have h3 := X.same.trans h2
    rw [List.append_nil] at h3
    exact h3.mono hc hs
  refine ⟨U, ?_, .threw T.heap.size, hrun, hend, Or.inr ⟨T.heap.size, rfl, cls, ce, locs, hx U hWs.alike f1 (fun q hq => f2 q hq (fun z hz => nomatch hz)), hce, hO.vm, hcl, hWs, hall, hf⟩⟩
  refine st1 _ ?_
  show Steps p.tables e below (T1.setTop { method := m, pc := pc + 3, locals := ls, stack := .ref T.heap.size :: rest, locked := none }) _
  jvm_step X₁.here [X₁.here.top, hexec, d3', Value.category]
  exact X₁.ldcStringW hexec (own := own) (text := text) (index := is) (a := sa) hown' hstr'.1 hstr'.2
    (g := { method := m, pc := pc + 4, locals := ls, stack := .ref T.heap.size :: .ref T.heap.size :: rest, locked := none }) rfl d4' _ hsteps
end Ends
section Bodies
variable {l : Launch}
theorem vx_ofW {y : MethodName} {ws ws' : List Cond} {rm : Room} {Pc : Array Value → State → Prop} {Qc : Array Value → State → Outcome → State → Prop} {XC : String → State → State → Prop} {mc ms : Nat} {free : Addr → Prop} {cc : ByteArray} {maxL : Nat} {ret : Option FieldType}
    (hy : plainName y.cls = true) (hw : ws = Cond.code y cc maxL ret :: ws')
    (body : ∀ p e s m args below meth c s₁, BodyLoose p l y (headSpec ws rm) cc maxL ret e s m args below meth c s₁ → c.maxLocals = maxL → (∀ x ∈ c.exceptionTable.toList, False) → Pc args s →
      W p l e (headSpec ws rm).room s m args below meth c s.heap [] 0 0 (vx_MQ below Qc XC args s mc ms free) (entryFrame m args maxL)) : vx_Met l y ws rm Pc Qc XC mc ms free := by
  refine MetFree.of_bodyS (code := cc) (maxLocals := maxL) (ret := ret) hy ?_ ?_
  · intro args s m h hn
    obtain ⟨meth, c, h1, h2, h3, h4, h5, h6, -, -⟩ := Cond.code_spec hn (atoms_spec (ws := ws) h _ (by rw [hw]; exact List.mem_cons_self))
    exact ⟨meth, c, h1, h2, h3, h4, h5, h6⟩
  · intro p e s m args below meth c s₁ B hml hP _
    have hh0 : s₁.heap = s.heap := by rw [B.state]; rfl
    have ht : ∀ x ∈ c.exceptionTable.toList, False := by
      obtain ⟨meth9, c9, h1, h2, -, -, -, -, h7, -⟩ := Cond.code_spec B.named (atoms_spec (ws := ws) B.pre _ (by rw [hw]; exact List.mem_cons_self))
      cases Option.some.inj (h1.symm.trans B.method)
      cases Option.some.inj (h2.symm.trans (Stand.of_body B).code)
      intro x hx
      rw [Array.isEmpty_iff.mp h7] at hx
      cases hx
    obtain ⟨t, a1, o, b1, b2, b3⟩ := body p e s m args below meth c s₁ B hml ht hP s₁ hh0 (Stand.of_body B)
    exact ⟨t, o, a1, b1, b2, b3⟩
/-- the table of a body with handlers -/
theorem vx_table {p : Program} {x y : MethodName} {S : Spec} {cc bytes : ByteArray} {maxL maxL' : Nat} {ret ret' : Option FieldType} {e : Env} {s s₁ : State} {m : MethodId} {args : Array Value} {below : List Frame} {meth : Method} {c : Code} {hh : List (Nat × Nat × Nat × Nat)}
    (B : BodyLoose p l y S cc maxL ret e s m args below meth c s₁) (h : (Cond.codeWith y bytes maxL' ret' hh).before args s = true) : c.exceptionTable.toList = tableOf hh := by
  obtain ⟨m9, meth9, c9, hn9, h1, h2, -, -, h6, -⟩ := Cond.codeWith_spec h
  cases Option.some.inj (hn9.symm.trans B.named)
  cases Option.some.inj (h1.symm.trans B.method)
  cases Option.some.inj (h2.symm.trans (Stand.of_body B).code)
  rw [← h6, table_eq]
end Bodies
end VXA
/-! ===== END ===== -/
/-! ===== BEGIN a static call of a method with an exception table ===== -/
section VXS
variable {p : Program} {l : Launch} {e : Env} {R : Room} {s : State} {m : MethodId} {args : Array Value} {below : List Frame} {meth : Method} {c : Code} {T : State} {H : Heap} {locs : List Loc} {cells slots : Nat}
abbrev vx_CSW (R : Room) (s : State) (args : Array Value) (own : String) (index : Nat) (y : MethodName) (bytes : ByteArray) (maxL : Nat) (ret : Option FieldType) (hh : List (Nat × Nat × Nat × Nat)) (ws : List Cond) (rm : Room) (mc ms n : Nat) : Prop :=
  (rm.cells = mc ∧ rm.slots = ms ∧ rm.frames + 1 ≤ R.frames ∧ 8 + (maxL + 11) + rm.locals ≤ R.locals ∧ (∀ w ∈ ws, ∀ (a' : Array Value) (U : State), s.WarmedH U.vm → w.before a' U = true) ∧ Cond.codeWith y bytes maxL ret hh ∈ ws) ∧
  (Cond.codeWith y bytes maxL ret hh).before args s = true ∧ (Cond.initialized y.cls).before args s = true ∧ (y.cls ≠ "java/lang/invoke/MethodHandle" ∧ y.cls ≠ "java/lang/invoke/VarHandle") ∧
  (∀ sig, parseMethodDescriptor y.desc = some sig → n = sig.parameters.length) ∧ (Cond.methodLink own index y).before args s = true ∧ (Cond.static y).before args s = true
theorem vx_cwSW {own : String} {index maxL mc ms : Nat} {y : MethodName} {bytes : ByteArray} {ret : Option FieldType} {hh : List (Nat × Nat × Nat × Nat)} {Ts ws ws' : List Cond} {rm : Room} (n : Nat) (ht : ∀ w ∈ Ts, w.before args s = true) (hT : GoodIn Ts (va_wsS own index y ws)) (hw : ws = Cond.codeWith y bytes maxL ret hh :: ws') (hrc : rm.cells = mc) (hrs : rm.slots = ms)
    (hd : y.cls ≠ "java/lang/invoke/MethodHandle" ∧ y.cls ≠ "java/lang/invoke/VarHandle" ∧ (parseMethodDescriptor y.desc).map (fun d => d.parameters.length) = some n) (hR : rm.frames + 1 ≤ R.frames ∧ 8 + (maxL + 11) + rm.locals ≤ R.locals) :
    vx_CSW R s args own index y bytes maxL ret hh ws rm mc ms n := by
  have ok : ∀ w ∈ va_wsS own index y ws, w.before args s = true := fun w h => ht w (hT w h).1
  have hG : GoodIn Ts ws := fun w h => hT w (by unfold va_wsS; exact List.mem_append_right _ h)
  have hc : Cond.codeWith y bytes maxL ret hh ∈ ws := by rw [hw]; exact List.mem_cons_self
  refine ⟨⟨hrc, hrs, hR.1, hR.2, pay_in ht hG, hc⟩, ht _ (hG _ hc).1, ok _ (by simp [va_wsS]), ⟨hd.1, hd.2.1⟩, fun sig h => ?_, ok _ (by simp [va_wsS]), ok _ (by simp [va_wsS])⟩
  have h2 := hd.2.2
  rw [h] at h2
  exact (Option.some.inj h2).symm
theorem vx_callSW (X : Stand p l e R s m args below meth c T locs cells slots) (hexec : p.tables.exec = Jvm.exec) {own : String} {index : Nat} {y : MethodName} {bytes : ByteArray} {maxL : Nat} {ret : Option FieldType} {hh : List (Nat × Nat × Nat × Nat)}
    (hown : s.vm.findClass own = some m.cls) (hlink : (Cond.methodLink own index y).before args s = true) (hstat : (Cond.static y).before args s = true) (hinit : (Cond.initialized y.cls).before args s = true)
    (hcode : (Cond.codeWith y bytes maxL ret hh).before args s = true) (hy : y.cls ≠ "java/lang/invoke/MethodHandle" ∧ y.cls ≠ "java/lang/invoke/VarHandle")
    {W9 : Nat} {Pre : Pt → Array Value → Prop} {Post : Pt → Array Value → Option Value → Pt → Prop} (hK : Back l R p e below s args y 3 W9 Pre Post)
    {g : JFrame} (hg : g.method = m) (hsize : g.locals.size = c.maxLocals) {argsL rest : List Value} (hlen : ∀ sig, parseMethodDescriptor y.desc = some sig → argsL.length = sig.parameters.length)
    (hstack : g.stack = argsL.reverse ++ rest) (hW : 2 * g.monitorRoom + (rest.map fun v => v.category).sum ≤ W9) (hdg : decode c.code g.pc = .ok (.invokestatic index, 3))
    (hpre : ∀ vm₁, s.WarmedH vm₁ → Pre ⟨T.setVm vm₁, locs, cells, slots⟩ argsL.toArray) :
    ∃ (v : Option Value) (vm₁ : Vm) (B : Pt), s.WarmedH vm₁ ∧ Stand p l e R s m args below meth c B.U B.locs B.cells B.slots ∧ Post ⟨T.setVm vm₁, locs, cells, slots⟩ argsL.toArray v B ∧
      ∀ target, Steps p.tables e below (B.U.setTop { g with pc := g.pc + 3, stack := v.toList ++ rest }) target → Steps p.tables e below (T.setTop g) target := by
  obtain ⟨mk, methM, cM, hnamed, hmethM, -, -, -, -, -, -, hsigM⟩ := Cond.codeWith_spec hcode
  have hstatic : methM.isStatic = true := Cond.static_spec hnamed hmethM hstat
  obtain ⟨kP, hkP, -⟩ := className_of_methodNamed hnamed
  have hinitP : kP.init = .initialized := Cond.initialized_spec (findClass_of_methodNamed hnamed) hkP hinit
  obtain ⟨vm₁, X₁, hstep₁⟩ := X.invokestatic hexec hown hlink hnamed hmethM hstatic hkP hinitP hy (g := g) hg (argsL := argsL) (rest := rest) (hlen _ hsigM) hstack hdg
  obtain ⟨v, B, X', hpost, hsteps⟩ := hK m meth c ⟨T.setVm vm₁, locs, cells, slots⟩ { g with stack := rest } (.invokestatic index) mk argsL.toArray X₁ hg hsize hdg hW (X₁.named hnamed) (hpre vm₁ X₁.warmed)
  exact ⟨v, vm₁, B, X₁.warmed, X', hpost, fun target h => hstep₁ _ fun acts => by rw [doInvoke_state]; exact hsteps.trans h⟩
theorem vx_runSW {y : MethodName} {bytes cc : ByteArray} {maxL nL mc ms n index : Nat} {ret : Option FieldType} {hh : List (Nat × Nat × Nat × Nat)} {ws : List Cond} {rm : Room} {Pc : Array Value → State → Prop} {Qc : Array Value → State → Outcome → State → Prop} {free : Addr → Prop} {Ts : List Cond} {own : String} {As rest : List Value} {g : JFrame}
    (S : CallFix p m c cc nL s args Ts own) (hM : Met l y ws rm Pc Qc mc ms free) (cw : vx_CSW R s args own index y bytes maxL ret hh ws rm mc ms n) (hp : PreS s H Pc As)
    (hg : g.method = m) (hn : As.length = n) (hsize : g.locals.size = nL) (hstack : g.stack = As.reverse ++ rest) (hW : 2 * g.monitorRoom + (rest.map fun v => v.category).sum ≤ 8) (hdg : decode cc g.pc = .ok (.invokestatic index, 3)) (hf : cells + mc ≤ R.cells ∧ slots + ms ≤ R.slots) :
    va_Run p l e R s m args below meth c H locs cells slots mc ms g rest (Qc As.toArray) (free) := by
  obtain ⟨⟨hrc, hrs, hfr, hlo, hws, hcw⟩, hcode, hini, hy, hlen, hl, hstt⟩ := cw
  have hK : Back l R p e below s args y 3 8 (PreOf R mc ms Pc) (PostOf Qc mc ms free) := va_backW (hh := hh) (bytes := bytes) (maxL := maxL) (ret := ret) hM hp.1 hrc hrs hfr hlo hws hcw (fun a' U hW => word_at hW (Or.inl (by first | rfl | simp [Cond.onTables, Cond.keeps, Cond.steady])) hini)
  obtain ⟨hx, hb, hml, ho, -⟩ := S
  intro T hT X
  obtain ⟨v, vm₁, ⟨U', l2, c2, s2⟩, hW₁, X', ⟨g', mk, t, L, e1, e2, hq, h1, hL, h2, h3⟩, st⟩ := vx_callSW X hx (hh := hh) (bytes := bytes) (maxL := maxL) (ret := ret) ho hl hstt hini hcode hy hK hg (hsize.trans hml.symm) (argsL := As) (rest := rest) (fun sig h => hn.trans (hlen sig h)) hstack hW (by rw [hb]; exact hdg)
    (fun vm₁ hW₁ => ⟨hf.1, hf.2, hp.2 (T.setVm vm₁) hT hW₁⟩)
  dsimp only [Pt.U, Pt.locs, Pt.cells, Pt.slots] at X' e1 e2 h1 h2 h3 st
  subst h1; subst h2; subst h3
  exact ⟨v, (T.setVm vm₁).calling g' mk As.toArray, t, U', L, hT, X', hL, e1, e2, hq, st⟩
/-- a thing of a world lies in the heap -/
theorem vx_lt {D : va_G} {cl : List vw_C} {ws : va_W} {H1 : Heap} (h : va_P D cl ws H1) {k : Nat} {q : Nat × va_E} (hk : ws[k]? = some q) : q.1 < H1.size := (h k q hk).lt
end VXS
/-! ===== END ===== -/
/-! ===== BEGIN methods with a table of their own: called by a name, returning or throwing ===== -/
section VXH
/-! vx_backW, vx_callVX, vx_callSX, vx_callVW, vx_runVW, vx_runVX, vx_runSX, vx_ofWH follow the same proofs as their sisters above (Free/Laws.lean, Shelf42/LK1.lean); vx_outP calls Shelf42/NT130.lean (outThrough). -/
section
variable {l : Launch} {R : Room} {p : Program} {e : Env} {below : List Frame} {s : State} {sargs : Array Value} {y : MethodName} {len W9 : Nat}
theorem vx_backW {ws : List Cond} {rm : Room} {Pc : Array Value → State → Prop} {Qc : Array Value → State → Outcome → State → Prop} {XC : String → State → State → Prop} {mc ms : Nat} {free : Addr → Prop} {bytes : ByteArray} {maxL : Nat} {ret : Option FieldType} {hh : List (Nat × Nat × Nat × Nat)}
    (hM : vx_Met l y ws rm Pc Qc XC mc ms free) (hblind : FrameBlind Pc) (hrc : rm.cells = mc) (hrs : rm.slots = ms)
    (hframes : rm.frames + 1 ≤ R.frames) (hlocals : W9 + (maxL + 11) + rm.locals ≤ R.locals)
    (hws : ∀ w ∈ ws, ∀ a' U, s.WarmedH U.vm → w.before a' U = true) (hcode : Cond.codeWith y bytes maxL ret hh ∈ ws) (hinit : ∀ a' U, s.WarmedH U.vm → (Cond.initialized y.cls).before a' U = true) :
    vx_Back l R p e below s sargs y len W9 (PreOf R mc ms Pc) (PostOf Qc mc ms free) (vx_Post XC mc ms free) := by
  intro m meth c A g ig mk a X hg hsize hdg hW hn hp
  have h1 : (headSpec ws rm).pre.before a A.U = true := atoms_intro fun w hw => hws w hw _ _ X.warmed
  have h2 : (Cond.codeWith y bytes maxL ret hh).before a A.U = true := hws _ hcode _ _ X.warmed
  have h3 : (Cond.initialized y.cls).before a A.U = true := hinit _ _ X.warmed
  have h4 : A.cells + (headSpec ws rm).room.cells ≤ R.cells := by rw [show (headSpec ws rm).room.cells = mc from hrc]; exact hp.1
  have h5 : A.slots + (headSpec ws rm).room.slots ≤ R.slots := by rw [show (headSpec ws rm).room.slots = ms from hrs]; exact hp.2.1
  have hPc : Pc a (A.U.calling g mk a) := hblind _ _ _ _ hp.2.2
  obtain ⟨U, Ls, c0, s0⟩ := A
  dsimp only [Pt.U, Pt.locs, Pt.cells, Pt.slots] at h1 h2 h3 h4 h5 X hn hPc ⊢
  obtain ⟨m9, methY, cY, hn9, hmY, hcY, -, hlY, -⟩ := Cond.codeWith_spec h2
  cases Option.some.inj (hn9.symm.trans hn)
  obtain ⟨kY, hkY, -⟩ := className_of_methodNamed hn
  have hinitY : kY.init = .initialized := Cond.initialized_spec (findClass_of_methodNamed hn) hkY h3
  have h : At U g.method c below := by rw [hg]; exact X.here
  have hlocals9 : W9 + (maxL + 11) + (headSpec ws rm).room.locals ≤ R.locals := hlocals
  have happ : (headSpec ws rm).appliesLoose y e.platform (U.calling g mk a) = true :=
    Spec.appliesLoose_calling (g := g) h hdg hn hkY hinitY
      (X.room_calling (g := g) (R' := (headSpec ws rm).room) hsize hmY hcY hframes (by rw [hlY]; omega) h4 h5) h1
  obtain ⟨mid, hmid⟩ := h.above
  have hfr : (U.setTop g).frames = (.java g :: mid) ++ below := by rw [State.frames_setTop' g h.top, hmid]; rfl
  obtain ⟨o, s₂, hsteps, -, hend, hq⟩ := Steps.callFree hM p X.admits X.cas X.clock (acts := []) hfr happ hPc trivial
  have hq' : vx_Q Qc XC mc ms free a (U.calling g mk a) o s₂ := hq
  rw [State.frames_setTop' g h.top] at hend
  obtain ⟨g₀, hg0⟩ := Option.isSome_iff_exists.mp h.top
  obtain ⟨r, hr⟩ := State.topJava?_eq_some.mp hg0
  have hr' : (({ U with heap := s₂.heap, slotsUsed := s₂.slotsUsed } : State).setVm s₂.vm).frames = .java g₀ :: r := hr
  rcases hq' with ⟨hqc, L, hfe, hL⟩ | ⟨q, rfl, E, ce, L, hx, hce, hcv, hcl, hW₂, hsm, hL⟩
  · obtain ⟨⟨v, rfl⟩, hW₂, e2, q2, q3, q4, q5, q6⟩ := id hfe
    have e3 : s₂ = ({ (U.calling g mk a).setFrames s₂.frames with heap := s₂.heap, slotsUsed := s₂.slotsUsed } : State).setVm s₂.vm := by
      have : s₂ = ({ s₂ with vm := (U.calling g mk a).vm } : State).setVm s₂.vm := rfl
      rw [e2] at this
      exact this
    obtain ⟨c₂, i₂, len₂, hc₂, hd₂, hf₂⟩ := hend
    have hW' : U.WarmedH s₂.vm := hW₂
    have hcc : c₂ = c := by
      have h1 : s₂.code? g.method = U.code? g.method := by
        rw [State.code?_eq, State.code?_eq, hW'.alike.method?]
      exact Option.some.inj (hc₂.symm.trans (h1.trans h.code))
    subst hcc
    have hlen : len₂ = len := by rw [hdg] at hd₂; cases hd₂; rfl
    subst hlen
    have hs₂ : s₂ = (({ U with heap := s₂.heap, slotsUsed := s₂.slotsUsed } : State).setVm s₂.vm).setTop { g with pc := g.pc + len₂, stack := v.toList ++ g.stack } := by
      refine e3.trans ?_
      rw [hf₂, State.calling_eq h.top, State.setFrames_setFrames, State.setTop_of_frames _ hr', hr]
      rfl
    have hsame : U.sameButNew ({ U with heap := s₂.heap, slotsUsed := s₂.slotsUsed } : State) L mc ms := by
      refine ⟨?_, q2, q3, q4, q5, q6⟩
      obtain ⟨t, ht, -⟩ := State.frames_cons hr
      show ({ U with heap := s₂.heap, slotsUsed := s₂.slotsUsed } : State) = { U.setFrames U.frames with heap := s₂.heap, slotsUsed := s₂.slotsUsed }
      rw [State.setFrames_self ht]
    subst hg
    refine Or.inl ⟨v, ⟨(({ U with heap := s₂.heap, slotsUsed := s₂.slotsUsed } : State).setVm s₂.vm), Ls ++ L, c0 + mc, s0 + ms⟩,
      ⟨X.admits, X.cas, X.clock, X.frames, X.room, X.hears, X.method, X.code, (X.here.setHeapUsed s₂.heap s₂.slotsUsed).setVm hW'.alike, X.tail, State.WarmedH.trans X.warmed hW', X.limits, X.bytes, X.same.trans (hsame.setVm s.vm)⟩,
      ⟨g, mk, s₂, L, rfl, rfl, hqc, rfl, hL, rfl, rfl⟩, ?_⟩
    show Steps p.tables e below _ ((({ U with heap := s₂.heap, slotsUsed := s₂.slotsUsed } : State).setVm s₂.vm).setTop { g with pc := g.pc + len₂, stack := v.toList ++ g.stack })
    rw [← hs₂]
    exact hsteps
  · obtain ⟨e2, q2, q3, q4, q5, q6⟩ := id hsm
    have e3 : s₂ = ({ (U.calling g mk a).setFrames s₂.frames with heap := s₂.heap, slotsUsed := s₂.slotsUsed } : State).setVm s₂.vm := by
      have : s₂ = ({ s₂ with vm := (U.calling g mk a).vm } : State).setVm s₂.vm := rfl
      rw [e2] at this
      exact this
    have hf₂ : s₂.frames = .throwing q :: .java g :: U.frames.tail := hend
    have hW' : U.WarmedH s₂.vm := hW₂
    have hs₂ : s₂ = ((({ U with heap := s₂.heap, slotsUsed := s₂.slotsUsed } : State).setVm s₂.vm).setTop g).pushFrame (.throwing q) := by
      refine e3.trans ?_
      rw [hf₂, State.calling_eq h.top, State.setFrames_setFrames, State.pushFrame, State.frames_setTop _ hr', State.setTop_of_frames _ hr', State.setFrames_setFrames, hr]
      rfl
    have hsame : U.sameButNew ({ U with heap := s₂.heap, slotsUsed := s₂.slotsUsed } : State) L mc ms := by
      refine ⟨?_, q2, q3, q4, q5, q6⟩
      obtain ⟨t, ht, -⟩ := State.frames_cons hr
      show ({ U with heap := s₂.heap, slotsUsed := s₂.slotsUsed } : State) = { U.setFrames U.frames with heap := s₂.heap, slotsUsed := s₂.slotsUsed }
      rw [State.setFrames_self ht]
    subst hg
    refine Or.inr ⟨q, ⟨(({ U with heap := s₂.heap, slotsUsed := s₂.slotsUsed } : State).setVm s₂.vm), Ls ++ L, c0 + mc, s0 + ms⟩,
      ⟨X.admits, X.cas, X.clock, X.frames, X.room, X.hears, X.method, X.code, (X.here.setHeapUsed s₂.heap s₂.slotsUsed).setVm hW'.alike, X.tail, State.WarmedH.trans X.warmed hW', X.limits, X.bytes, X.same.trans (hsame.setVm s.vm)⟩,
      ⟨g, mk, s₂, L, E, ce, rfl, rfl, hx, hce, hcv, hcl, rfl, hL, rfl, rfl⟩, ?_⟩
    show Steps p.tables e below _ (((({ U with heap := s₂.heap, slotsUsed := s₂.slotsUsed } : State).setVm s₂.vm).setTop g).pushFrame (.throwing q))
    rw [← hs₂]
    exact hsteps
end
variable {p : Program} {l : Launch} {e : Env} {R : Room} {s : State} {m : MethodId} {args : Array Value} {below : List Frame} {meth : Method} {c : Code} {T : State} {H : Heap} {locs : List Loc} {cells slots : Nat}
theorem vx_callVX (X : Stand p l e R s m args below meth c T locs cells slots) (hexec : p.tables.exec = Jvm.exec) {own C : String} {index : Nat} {y : MethodName} {bytes : ByteArray} {maxL : Nat} {ret : Option FieldType} {hh : List (Nat × Nat × Nat × Nat)}
    (hown : s.vm.findClass own = some m.cls) (hlink : (Cond.methodLink own index y).before args s = true) (hinst : (Cond.instanceMethod y).before args s = true) (hsel : (Cond.selects C y y).before args s = true)
    (hcode : (Cond.codeWith y bytes maxL ret hh).before args s = true) (hy : y.cls ≠ "java/lang/invoke/MethodHandle" ∧ y.cls ≠ "java/lang/invoke/VarHandle")
    {W9 : Nat} {Pre : Pt → Array Value → Prop} {Post : Pt → Array Value → Option Value → Pt → Prop} {PostX : Pt → Array Value → Addr → Pt → Prop} (hK : vx_Back l R p e below s args y 3 W9 Pre Post PostX)
    {b : Addr} {cellB : Cell} (hcell : T.heap[b]? = some cellB) (hobj : cellB.vm.isStatics = false) (hcls : s.vm.findClass C = some cellB.cls)
    {g : JFrame} (hg : g.method = m) (hsize : g.locals.size = c.maxLocals) {argsL rest : List Value} (hlen : ∀ sig, parseMethodDescriptor y.desc = some sig → argsL.length = sig.parameters.length)
    (hstack : g.stack = argsL.reverse ++ .ref b :: rest) (hW : 2 * g.monitorRoom + (rest.map fun v => v.category).sum ≤ W9) (hdg : decode c.code g.pc = .ok (.invokevirtual index, 3))
    (hpre : ∀ vm₁, s.WarmedH vm₁ → Pre ⟨T.setVm vm₁, locs, cells, slots⟩ (Value.ref b :: argsL).toArray) :
    (∃ (v : Option Value) (vm₁ : Vm) (B : Pt), s.WarmedH vm₁ ∧ Stand p l e R s m args below meth c B.U B.locs B.cells B.slots ∧ Post ⟨T.setVm vm₁, locs, cells, slots⟩ (Value.ref b :: argsL).toArray v B ∧
      ∀ target, Steps p.tables e below (B.U.setTop { g with pc := g.pc + 3, stack := v.toList ++ rest }) target → Steps p.tables e below (T.setTop g) target) ∨
    (∃ (q : Addr) (vm₁ : Vm) (B : Pt), s.WarmedH vm₁ ∧ Stand p l e R s m args below meth c B.U B.locs B.cells B.slots ∧ PostX ⟨T.setVm vm₁, locs, cells, slots⟩ (Value.ref b :: argsL).toArray q B ∧
      Steps p.tables e below (T.setTop g) ((B.U.setTop { g with stack := rest }).pushFrame (.throwing q))) := by
  obtain ⟨mk, methM, hnamed, hmethM, hstM, habM⟩ := Cond.instanceMethod_spec hinst
  obtain ⟨m8, methM', cM, hn8, hmethM', -, -, -, -, -, -, hsigM⟩ := Cond.codeWith_spec hcode
  cases Option.some.inj (hn8.symm.trans hnamed)
  cases hmethM.symm.trans hmethM'
  obtain ⟨c2, r2, m2, q1, q2, q3, q4, kP, hkP, hkPi⟩ := Cond.selects_spec hsel
  cases hcls.symm.trans q1
  cases (State.methodFound?_of_named hnamed hy).symm.trans q2
  cases hnamed.symm.trans q3
  have hselP : selectMethod e.platform s.vm cellB.cls mk = .method mk := by rw [Launch.admits_selectMethod X.admits]; exact q4
  obtain ⟨vm₁, X₁, hstep₁⟩ := X.invokevirtual hexec hown hlink hnamed hmethM hstM hkP hkPi hy (a := b) (cell := cellB) hcell
    (fun z h => by rw [h] at hobj; cases hobj) hselP hmethM habM hkP hkPi (g := g) hg (argsL := argsL) (rest := rest) (hlen _ hsigM) hstack hdg
  rcases hK m meth c ⟨T.setVm vm₁, locs, cells, slots⟩ { g with stack := rest } (.invokevirtual index) mk (Value.ref b :: argsL).toArray X₁ hg hsize hdg hW (X₁.named hnamed) (hpre vm₁ X₁.warmed) with ⟨v, B, X', hpost, hsteps⟩ | ⟨q, B, X', hpost, hsteps⟩
  · exact Or.inl ⟨v, vm₁, B, X₁.warmed, X', hpost, fun target h => hstep₁ _ fun acts => by rw [doInvoke_state]; exact hsteps.trans h⟩
  · exact Or.inr ⟨q, vm₁, B, X₁.warmed, X', hpost, hstep₁ _ fun acts => by rw [doInvoke_state]; exact hsteps⟩
theorem vx_callSX (X : Stand p l e R s m args below meth c T locs cells slots) (hexec : p.tables.exec = Jvm.exec) {own : String} {index : Nat} {y : MethodName} {bytes : ByteArray} {maxL : Nat} {ret : Option FieldType} {hh : List (Nat × Nat × Nat × Nat)}
    (hown : s.vm.findClass own = some m.cls) (hlink : (Cond.methodLink own index y).before args s = true) (hstat : (Cond.static y).before args s = true) (hinit : (Cond.initialized y.cls).before args s = true)
    (hcode : (Cond.codeWith y bytes maxL ret hh).before args s = true) (hy : y.cls ≠ "java/lang/invoke/MethodHandle" ∧ y.cls ≠ "java/lang/invoke/VarHandle")
    {W9 : Nat} {Pre : Pt → Array Value → Prop} {Post : Pt → Array Value → Option Value → Pt → Prop} {PostX : Pt → Array Value → Addr → Pt → Prop} (hK : vx_Back l R p e below s args y 3 W9 Pre Post PostX)
    {g : JFrame} (hg : g.method = m) (hsize : g.locals.size = c.maxLocals) {argsL rest : List Value} (hlen : ∀ sig, parseMethodDescriptor y.desc = some sig → argsL.length = sig.parameters.length)
    (hstack : g.stack = argsL.reverse ++ rest) (hW : 2 * g.monitorRoom + (rest.map fun v => v.category).sum ≤ W9) (hdg : decode c.code g.pc = .ok (.invokestatic index, 3))
    (hpre : ∀ vm₁, s.WarmedH vm₁ → Pre ⟨T.setVm vm₁, locs, cells, slots⟩ argsL.toArray) :
    (∃ (v : Option Value) (vm₁ : Vm) (B : Pt), s.WarmedH vm₁ ∧ Stand p l e R s m args below meth c B.U B.locs B.cells B.slots ∧ Post ⟨T.setVm vm₁, locs, cells, slots⟩ argsL.toArray v B ∧
      ∀ target, Steps p.tables e below (B.U.setTop { g with pc := g.pc + 3, stack := v.toList ++ rest }) target → Steps p.tables e below (T.setTop g) target) ∨
    (∃ (q : Addr) (vm₁ : Vm) (B : Pt), s.WarmedH vm₁ ∧ Stand p l e R s m args below meth c B.U B.locs B.cells B.slots ∧ PostX ⟨T.setVm vm₁, locs, cells, slots⟩ argsL.toArray q B ∧
      Steps p.tables e below (T.setTop g) ((B.U.setTop { g with stack := rest }).pushFrame (.throwing q))) := by
  obtain ⟨mk, methM, cM, hnamed, hmethM, -, -, -, -, -, -, hsigM⟩ := Cond.codeWith_spec hcode
  have hstatic : methM.isStatic = true := Cond.static_spec hnamed hmethM hstat
  obtain ⟨kP, hkP, -⟩ := className_of_methodNamed hnamed
  have hinitP : kP.init = .initialized := Cond.initialized_spec (findClass_of_methodNamed hnamed) hkP hinit
  obtain ⟨vm₁, X₁, hstep₁⟩ := X.invokestatic hexec hown hlink hnamed hmethM hstatic hkP hinitP hy (g := g) hg (argsL := argsL) (rest := rest) (hlen _ hsigM) hstack hdg
  rcases hK m meth c ⟨T.setVm vm₁, locs, cells, slots⟩ { g with stack := rest } (.invokestatic index) mk argsL.toArray X₁ hg hsize hdg hW (X₁.named hnamed) (hpre vm₁ X₁.warmed) with ⟨v, B, X', hpost, hsteps⟩ | ⟨q, B, X', hpost, hsteps⟩
  · exact Or.inl ⟨v, vm₁, B, X₁.warmed, X', hpost, fun target h => hstep₁ _ fun acts => by rw [doInvoke_state]; exact hsteps.trans h⟩
  · exact Or.inr ⟨q, vm₁, B, X₁.warmed, X', hpost, hstep₁ _ fun acts => by rw [doInvoke_state]; exact hsteps⟩
theorem vx_callVW (X : Stand p l e R s m args below meth c T locs cells slots) (hexec : p.tables.exec = Jvm.exec) {own C : String} {index : Nat} {y : MethodName} {bytes : ByteArray} {maxL : Nat} {ret : Option FieldType} {hh : List (Nat × Nat × Nat × Nat)}
    (hown : s.vm.findClass own = some m.cls) (hlink : (Cond.methodLink own index y).before args s = true) (hinst : (Cond.instanceMethod y).before args s = true) (hsel : (Cond.selects C y y).before args s = true)
    (hcode : (Cond.codeWith y bytes maxL ret hh).before args s = true) (hy : y.cls ≠ "java/lang/invoke/MethodHandle" ∧ y.cls ≠ "java/lang/invoke/VarHandle")
    {W9 : Nat} {Pre : Pt → Array Value → Prop} {Post : Pt → Array Value → Option Value → Pt → Prop} (hK : Back l R p e below s args y 3 W9 Pre Post)
    {b : Addr} {cellB : Cell} (hcell : T.heap[b]? = some cellB) (hobj : cellB.vm.isStatics = false) (hcls : s.vm.findClass C = some cellB.cls)
    {g : JFrame} (hg : g.method = m) (hsize : g.locals.size = c.maxLocals) {argsL rest : List Value} (hlen : ∀ sig, parseMethodDescriptor y.desc = some sig → argsL.length = sig.parameters.length)
    (hstack : g.stack = argsL.reverse ++ .ref b :: rest) (hW : 2 * g.monitorRoom + (rest.map fun v => v.category).sum ≤ W9) (hdg : decode c.code g.pc = .ok (.invokevirtual index, 3))
    (hpre : ∀ vm₁, s.WarmedH vm₁ → Pre ⟨T.setVm vm₁, locs, cells, slots⟩ (Value.ref b :: argsL).toArray) :
    ∃ (v : Option Value) (vm₁ : Vm) (B : Pt), s.WarmedH vm₁ ∧ Stand p l e R s m args below meth c B.U B.locs B.cells B.slots ∧ Post ⟨T.setVm vm₁, locs, cells, slots⟩ (Value.ref b :: argsL).toArray v B ∧
      ∀ target, Steps p.tables e below (B.U.setTop { g with pc := g.pc + 3, stack := v.toList ++ rest }) target → Steps p.tables e below (T.setTop g) target := by
  obtain ⟨mk, methM, hnamed, hmethM, hstM, habM⟩ := Cond.instanceMethod_spec hinst
  obtain ⟨m8, methM', cM, hn8, hmethM', -, -, -, -, -, -, hsigM⟩ := Cond.codeWith_spec hcode
  cases Option.some.inj (hn8.symm.trans hnamed)
  cases hmethM.symm.trans hmethM'
  obtain ⟨c2, r2, m2, q1, q2, q3, q4, kP, hkP, hkPi⟩ := Cond.selects_spec hsel
  cases hcls.symm.trans q1
  cases (State.methodFound?_of_named hnamed hy).symm.trans q2
  cases hnamed.symm.trans q3
  have hselP : selectMethod e.platform s.vm cellB.cls mk = .method mk := by rw [Launch.admits_selectMethod X.admits]; exact q4
  obtain ⟨vm₁, X₁, hstep₁⟩ := X.invokevirtual hexec hown hlink hnamed hmethM hstM hkP hkPi hy (a := b) (cell := cellB) hcell
    (fun z h => by rw [h] at hobj; cases hobj) hselP hmethM habM hkP hkPi (g := g) hg (argsL := argsL) (rest := rest) (hlen _ hsigM) hstack hdg
  obtain ⟨v, B, X', hpost, hsteps⟩ := hK m meth c ⟨T.setVm vm₁, locs, cells, slots⟩ { g with stack := rest } (.invokevirtual index) mk (Value.ref b :: argsL).toArray X₁ hg hsize hdg hW (X₁.named hnamed) (hpre vm₁ X₁.warmed)
  exact ⟨v, vm₁, B, X₁.warmed, X', hpost, fun target h => hstep₁ _ fun acts => by rw [doInvoke_state]; exact hsteps.trans h⟩
abbrev vx_CVW (R : Room) (s : State) (args : Array Value) (own C : String) (index : Nat) (y : MethodName) (bytes : ByteArray) (maxL : Nat) (ret : Option FieldType) (hh : List (Nat × Nat × Nat × Nat)) (ws : List Cond) (rm : Room) (mc ms n : Nat) : Prop :=
  (rm.cells = mc ∧ rm.slots = ms ∧ rm.frames + 1 ≤ R.frames ∧ 8 + (maxL + 11) + rm.locals ≤ R.locals ∧ (∀ w ∈ ws, ∀ (a' : Array Value) (U : State), s.WarmedH U.vm → w.before a' U = true) ∧ Cond.codeWith y bytes maxL ret hh ∈ ws) ∧
  (Cond.codeWith y bytes maxL ret hh).before args s = true ∧ (Cond.initialized y.cls).before args s = true ∧ (y.cls ≠ "java/lang/invoke/MethodHandle" ∧ y.cls ≠ "java/lang/invoke/VarHandle") ∧
  (∀ sig, parseMethodDescriptor y.desc = some sig → n = sig.parameters.length) ∧ (Cond.methodLink own index y).before args s = true ∧ (Cond.instanceMethod y).before args s = true ∧ (Cond.selects C y y).before args s = true
theorem vx_cwVW {own C : String} {index maxL mc ms : Nat} {y : MethodName} {bytes : ByteArray} {ret : Option FieldType} {hh : List (Nat × Nat × Nat × Nat)} {Ts ws ws' : List Cond} {rm : Room} (n : Nat) (ht : ∀ w ∈ Ts, w.before args s = true) (hT : GoodIn Ts (wsV own index C y ws)) (hw : ws = Cond.codeWith y bytes maxL ret hh :: ws') (hrc : rm.cells = mc) (hrs : rm.slots = ms)
    (hd : y.cls = C ∧ y.cls ≠ "java/lang/invoke/MethodHandle" ∧ y.cls ≠ "java/lang/invoke/VarHandle" ∧ (parseMethodDescriptor y.desc).map (fun d => d.parameters.length) = some n) (hR : rm.frames + 1 ≤ R.frames ∧ 8 + (maxL + 11) + rm.locals ≤ R.locals) :
    vx_CVW R s args own C index y bytes maxL ret hh ws rm mc ms n := by
  obtain ⟨hC, hd⟩ := hd
  subst hC
  have ok : ∀ w ∈ wsV own index y.cls y ws, w.before args s = true := fun w h => ht w (hT w h).1
  have hG : GoodIn Ts ws := fun w h => hT w (by unfold wsV; exact List.mem_append_right _ h)
  have hc : Cond.codeWith y bytes maxL ret hh ∈ ws := by rw [hw]; exact List.mem_cons_self
  refine ⟨⟨hrc, hrs, hR.1, hR.2, pay_in ht hG, hc⟩, ht _ (hG _ hc).1, ok _ (by simp [wsV]), ⟨hd.1, hd.2.1⟩, fun sig h => ?_, ok _ (by simp [wsV]), ok _ (by simp [wsV]), ok _ (by simp [wsV])⟩
  have h2 := hd.2.2
  rw [h] at h2
  exact (Option.some.inj h2).symm
theorem vx_runVW {y : MethodName} {bytes cc : ByteArray} {maxL nL mc ms n index : Nat} {ret : Option FieldType} {hh : List (Nat × Nat × Nat × Nat)} {ws : List Cond} {rm : Room} {Pc : Array Value → State → Prop} {Qc : Array Value → State → Outcome → State → Prop} {free : Addr → Prop} {Ts : List Cond} {own C : String} {b : Addr} {As rest : List Value} {g : JFrame}
    (S : CallFix p m c cc nL s args Ts own) (hM : Met l y ws rm Pc Qc mc ms free) (cw : vx_CVW R s args own C index y bytes maxL ret hh ws rm mc ms n) (hp : PreV s H C b Pc As)
    (hg : g.method = m) (hn : As.length = n) (hsize : g.locals.size = nL) (hstack : g.stack = As.reverse ++ .ref b :: rest) (hW : 2 * g.monitorRoom + (rest.map fun v => v.category).sum ≤ 8) (hdg : decode cc g.pc = .ok (.invokevirtual index, 3)) (hf : cells + mc ≤ R.cells ∧ slots + ms ≤ R.slots) :
    va_Run p l e R s m args below meth c H locs cells slots mc ms g rest (Qc (Value.ref b :: As).toArray) free := by
  obtain ⟨⟨hrc, hrs, hfr, hlo, hws, hcw⟩, hcode, hini, hy, hlen, hl, hin, hse⟩ := cw
  have hK : Back l R p e below s args y 3 8 (PreOf R mc ms Pc) (PostOf Qc mc ms free) := va_backW (hh := hh) (bytes := bytes) (maxL := maxL) (ret := ret) hM hp.1 hrc hrs hfr hlo hws hcw (fun a' U hW => word_at hW (Or.inl (by first | rfl | simp [Cond.onTables, Cond.keeps, Cond.steady])) hini)
  obtain ⟨hx, hb, hml, ho, -⟩ := S
  obtain ⟨-, ⟨cellB, hcB, hoB, hclB⟩, hPc⟩ := hp
  intro T hT X
  obtain ⟨v, vm₁, ⟨U', l2, c2, s2⟩, hW₁, X', ⟨g', mk, t, L, e1, e2, hq, h1, hL, h2, h3⟩, st⟩ := vx_callVW X hx (C := C) (hh := hh) (bytes := bytes) (maxL := maxL) (ret := ret) ho hl hin hse hcode hy hK (by rw [hT]; exact hcB) hoB hclB hg (hsize.trans hml.symm) (argsL := As) (rest := rest) (fun sig h => hn.trans (hlen sig h)) hstack hW (by rw [hb]; exact hdg)
    (fun vm₁ hW₁ => ⟨hf.1, hf.2, hPc (T.setVm vm₁) hT hW₁⟩)
  dsimp only [Pt.U, Pt.locs, Pt.cells, Pt.slots] at X' e1 e2 h1 h2 h3 st
  subst h1; subst h2; subst h3
  exact ⟨v, (T.setVm vm₁).calling g' mk (Value.ref b :: As).toArray, t, U', L, hT, X', hL, e1, e2, hq, st⟩
section
variable {y : MethodName} {bytes cc : ByteArray} {maxL nL mc ms n index : Nat} {ret : Option FieldType} {ws : List Cond} {rm : Room} {Pc : Array Value → State → Prop} {Qc : Array Value → State → Outcome → State → Prop} {XC : String → State → State → Prop} {free : Addr → Prop} {Ts : List Cond} {own C : String} {b : Addr} {As rest : List Value} {g : JFrame}
theorem vx_runVX {hh : List (Nat × Nat × Nat × Nat)} (S : CallFix p m c cc nL s args Ts own) (hM : vx_Met l y ws rm Pc Qc XC mc ms free) (cw : vx_CVW R s args own C index y bytes maxL ret hh ws rm mc ms n) (hp : PreV s H C b Pc As)
    (hg : g.method = m) (hn : As.length = n) (hsize : g.locals.size = nL) (hstack : g.stack = As.reverse ++ .ref b :: rest) (hW : 2 * g.monitorRoom + (rest.map fun v => v.category).sum ≤ 8) (hdg : decode cc g.pc = .ok (.invokevirtual index, 3)) (hf : cells + mc ≤ R.cells ∧ slots + ms ≤ R.slots) :
    vx_Run p l e R s m args below meth c H locs cells slots mc ms g rest (Qc (Value.ref b :: As).toArray) XC free := by
  obtain ⟨⟨hrc, hrs, hfr, hlo, hws, hcw⟩, hcode, hini, hy, hlen, hl, hin, hse⟩ := cw
  have hK : vx_Back l R p e below s args y 3 8 (PreOf R mc ms Pc) (PostOf Qc mc ms free) (vx_Post XC mc ms free) := vx_backW (hh := hh) (bytes := bytes) (maxL := maxL) (ret := ret) hM hp.1 hrc hrs hfr hlo hws hcw (fun a' U hW => word_at hW (Or.inl (by first | rfl | simp [Cond.onTables, Cond.keeps, Cond.steady])) hini)
  obtain ⟨hx, hb, hml, ho, -⟩ := S
  obtain ⟨-, ⟨cellB, hcB, hoB, hclB⟩, hPc⟩ := hp
  intro T hT X
  rcases vx_callVX X hx (C := C) (hh := hh) (bytes := bytes) (maxL := maxL) (ret := ret) ho hl hin hse hcode hy hK (by rw [hT]; exact hcB) hoB hclB hg (hsize.trans hml.symm) (argsL := As) (rest := rest) (fun sig h => hn.trans (hlen sig h)) hstack hW (by rw [hb]; exact hdg)
    (fun vm₁ hW₁ => ⟨hf.1, hf.2, hPc (T.setVm vm₁) hT hW₁⟩) with ⟨v, vm₁, ⟨U', l2, c2, s2⟩, hW₁, X', ⟨g', mk, t, L, e1, e2, hq, h1, hL, h2, h3⟩, st⟩ | ⟨q, vm₁, ⟨U', l2, c2, s2⟩, hW₁, X', ⟨g', mk, t, L, E, ce, e1, e2, hq, hce, hcv, hcl, h1, hL, h2, h3⟩, st⟩
  · dsimp only [Pt.U, Pt.locs, Pt.cells, Pt.slots] at X' e1 e2 h1 h2 h3 st
    subst h1; subst h2; subst h3
    exact Or.inl ⟨v, (T.setVm vm₁).calling g' mk (Value.ref b :: As).toArray, t, U', L, hT, X', hL, e1, e2, hq, st⟩
  · dsimp only [Pt.U, Pt.locs, Pt.cells, Pt.slots] at X' e1 e2 h1 h2 h3 st hcl
    subst h1; subst h2; subst h3
    exact Or.inr ⟨q, (T.setVm vm₁).calling g' mk (Value.ref b :: As).toArray, t, U', L, E, ce, hT, X', hL, e1, e2, hq, hce, hcv, vx_cls hW₁ hcl, st⟩
theorem vx_runSX {hh : List (Nat × Nat × Nat × Nat)} (S : CallFix p m c cc nL s args Ts own) (hM : vx_Met l y ws rm Pc Qc XC mc ms free) (cw : vx_CSW R s args own index y bytes maxL ret hh ws rm mc ms n) (hp : PreS s H Pc As)
    (hg : g.method = m) (hn : As.length = n) (hsize : g.locals.size = nL) (hstack : g.stack = As.reverse ++ rest) (hW : 2 * g.monitorRoom + (rest.map fun v => v.category).sum ≤ 8) (hdg : decode cc g.pc = .ok (.invokestatic index, 3)) (hf : cells + mc ≤ R.cells ∧ slots + ms ≤ R.slots) :
    vx_Run p l e R s m args below meth c H locs cells slots mc ms g rest (Qc As.toArray) XC free := by
  obtain ⟨⟨hrc, hrs, hfr, hlo, hws, hcw⟩, hcode, hini, hy, hlen, hl, hstt⟩ := cw
  have hK : vx_Back l R p e below s args y 3 8 (PreOf R mc ms Pc) (PostOf Qc mc ms free) (vx_Post XC mc ms free) := vx_backW (hh := hh) (bytes := bytes) (maxL := maxL) (ret := ret) hM hp.1 hrc hrs hfr hlo hws hcw (fun a' U hW => word_at hW (Or.inl (by first | rfl | simp [Cond.onTables, Cond.keeps, Cond.steady])) hini)
  obtain ⟨hx, hb, hml, ho, -⟩ := S
  intro T hT X
  rcases vx_callSX X hx (hh := hh) (bytes := bytes) (maxL := maxL) (ret := ret) ho hl hstt hini hcode hy hK hg (hsize.trans hml.symm) (argsL := As) (rest := rest) (fun sig h => hn.trans (hlen sig h)) hstack hW (by rw [hb]; exact hdg)
    (fun vm₁ hW₁ => ⟨hf.1, hf.2, hp.2 (T.setVm vm₁) hT hW₁⟩) with ⟨v, vm₁, ⟨U', l2, c2, s2⟩, hW₁, X', ⟨g', mk, t, L, e1, e2, hq, h1, hL, h2, h3⟩, st⟩ | ⟨q, vm₁, ⟨U', l2, c2, s2⟩, hW₁, X', ⟨g', mk, t, L, E, ce, e1, e2, hq, hce, hcv, hcl, h1, hL, h2, h3⟩, st⟩
  · dsimp only [Pt.U, Pt.locs, Pt.cells, Pt.slots] at X' e1 e2 h1 h2 h3 st
    subst h1; subst h2; subst h3
    exact Or.inl ⟨v, (T.setVm vm₁).calling g' mk As.toArray, t, U', L, hT, X', hL, e1, e2, hq, st⟩
  · dsimp only [Pt.U, Pt.locs, Pt.cells, Pt.slots] at X' e1 e2 h1 h2 h3 st hcl
    subst h1; subst h2; subst h3
    exact Or.inr ⟨q, (T.setVm vm₁).calling g' mk As.toArray, t, U', L, E, ce, hT, X', hL, e1, e2, hq, hce, hcv, vx_cls hW₁ hcl, st⟩
end
end VXH
theorem vx_ofWH {l : Launch} {y : MethodName} {ws ws' : List Cond} {rm : Room} {Pc : Array Value → State → Prop} {Qc : Array Value → State → Outcome → State → Prop} {XC : String → State → State → Prop} {mc ms : Nat} {free : Addr → Prop} {cc : ByteArray} {maxL : Nat} {ret : Option FieldType} {hh : List (Nat × Nat × Nat × Nat)}
    (hy : plainName y.cls = true) (hw : ws = Cond.codeWith y cc maxL ret hh :: ws')
    (body : ∀ p e s m args below meth c s₁, BodyLoose p l y (headSpec ws rm) cc maxL ret e s m args below meth c s₁ → c.maxLocals = maxL → Pc args s →
      W p l e (headSpec ws rm).room s m args below meth c s.heap [] 0 0 (vx_MQ below Qc XC args s mc ms free) (entryFrame m args maxL)) : vx_Met l y ws rm Pc Qc XC mc ms free := by
  refine MetFree.of_bodyS (code := cc) (maxLocals := maxL) (ret := ret) hy ?_ ?_
  · intro args s m h hn
    obtain ⟨m9, meth, c, hn9, h1, h2, h3, h4, -, h5, h6, -⟩ := Cond.codeWith_spec (atoms_spec (ws := ws) h _ (by rw [hw]; exact List.mem_cons_self))
    cases hn.symm.trans hn9
    exact ⟨meth, c, h1, h2, h3, h4, h5, h6⟩
  · intro p e s m args below meth c s₁ B hml hP _
    have hh0 : s₁.heap = s.heap := by rw [B.state]; rfl
    obtain ⟨t, a1, o, b1, b2, b3⟩ := body p e s m args below meth c s₁ B hml hP s₁ hh0 (Stand.of_body B)
    exact ⟨t, o, a1, b1, b2, b3⟩
/-! ===== END ===== -/
end
section
/-! ===== BEGIN printed: names, fields, word lists, decode rows ===== -/
def RX0 : String := "AdvanceBook$Balance"
def TX0 : u_T := fun k => match k with
  | 0 => ("AdvanceBook$Balance", "open", "[I", true)
  | 1 => ("AdvanceBook$Balance", "payers", "[I", true)
  | 2 => ("AdvanceBook$Balance", "getters", "[I", true)
  | 3 => ("AdvanceBook$Balance", "coins", "[I", true)
  | _ => ("AdvanceBook$Balance", "moves", "I", false)
def tyX0 : Nat → FieldType := fun k => match k with
  | 0 => .array .int
  | 1 => .array .int
  | 2 => .array .int
  | 3 => .array .int
  | _ => .int
abbrev wsX00 : List Cond := u_ws RX0 TX0 5
theorem nmX0 : ∀ a, a < 5 → ∀ b, b < 5 → a ≠ b → (TX0 a).2.1 ≠ (TX0 b).2.1 := by decide +kernel
theorem tyX0_ok : ∀ k, k < 5 → parseFieldDescriptor (TX0 k).2.2.1 = some (tyX0 k) := by decide +kernel
abbrev cX0_init : ByteArray := prog_2_method_1_code
def yX0_init : MethodName := ⟨RX0, "<init>", "()V"⟩
abbrev cX0_workOut : ByteArray := prog_2_method_2_code
def yX0_workOut : MethodName := ⟨RX0, "workOut", "(LAdvanceBook$Town;)V"⟩
abbrev cX0_addMove : ByteArray := prog_2_method_3_code
def yX0_addMove : MethodName := ⟨RX0, "addMove", "(II)V"⟩
abbrev cX0_coinsMoved : ByteArray := prog_2_method_4_code
def yX0_coinsMoved : MethodName := ⟨RX0, "coinsMoved", "()I"⟩
abbrev cX0_tell : ByteArray := prog_2_method_5_code
def yX0_tell : MethodName := ⟨RX0, "tell", "(II)I"⟩
def RX1 : String := "AdvanceBook$Clearing"
def TX1 : u_T := fun k => match k with
  | 0 => ("AdvanceBook$Clearing", "paid", "[I", true)
  | 1 => ("AdvanceBook$Clearing", "order", "[I", true)
  | 2 => ("AdvanceBook$Clearing", "has", "[I", true)
  | 3 => ("AdvanceBook$Clearing", "unpaid", "[I", true)
  | 4 => ("AdvanceBook$Clearing", "failed", "[I", true)
  | 5 => ("AdvanceBook$Clearing", "lost", "[I", true)
  | 6 => ("AdvanceBook$Clearing", "lastInOrder", "[I", true)
  | 7 => ("AdvanceBook$Clearing", "men", "I", false)
  | 8 => ("AdvanceBook$Clearing", "papers", "I", false)
  | _ => ("AdvanceBook$Clearing", "rounds", "I", false)
def tyX1 : Nat → FieldType := fun k => match k with
  | 0 => .array .int
  | 1 => .array .int
  | 2 => .array .int
  | 3 => .array .int
  | 4 => .array .int
  | 5 => .array .int
  | 6 => .array .int
  | 7 => .int
  | 8 => .int
  | _ => .int
abbrev wsX10 : List Cond := u_ws RX1 TX1 10
theorem nmX1 : ∀ a, a < 10 → ∀ b, b < 10 → a ≠ b → (TX1 a).2.1 ≠ (TX1 b).2.1 := by decide +kernel
theorem tyX1_ok : ∀ k, k < 10 → parseFieldDescriptor (TX1 k).2.2.1 = some (tyX1 k) := by decide +kernel
abbrev cX1_init : ByteArray := prog_3_method_1_code
def yX1_init : MethodName := ⟨RX1, "<init>", "()V"⟩
abbrev cX1_work : ByteArray := prog_3_method_2_code
def yX1_work : MethodName := ⟨RX1, "work", "(LAdvanceBook$Town;LAdvanceBook$Decree;)V"⟩
abbrev cX1_takeStock : ByteArray := prog_3_method_3_code
def yX1_takeStock : MethodName := ⟨RX1, "takeStock", "(LAdvanceBook$Town;)V"⟩
abbrev cX1_takeAllAsPaid : ByteArray := prog_3_method_4_code
def yX1_takeAllAsPaid : MethodName := ⟨RX1, "takeAllAsPaid", "(LAdvanceBook$Papers;LAdvanceBook$Decree;)V"⟩
abbrev cX1_putInOrder : ByteArray := prog_3_method_5_code
def yX1_putInOrder : MethodName := ⟨RX1, "putInOrder", "(LAdvanceBook$Papers;LAdvanceBook$Decree;)V"⟩
abbrev cX1_goRound : ByteArray := prog_3_method_6_code
def yX1_goRound : MethodName := ⟨RX1, "goRound", "(LAdvanceBook$Papers;I)Z"⟩
abbrev cX1_payLess : ByteArray := prog_3_method_7_code
def yX1_payLess : MethodName := ⟨RX1, "payLess", "(LAdvanceBook$Papers;II)V"⟩
abbrev cX1_loseWhatIsNotPaid : ByteArray := prog_3_method_8_code
def yX1_loseWhatIsNotPaid : MethodName := ⟨RX1, "loseWhatIsNotPaid", "()V"⟩
abbrev cX1_menFailed : ByteArray := prog_3_method_9_code
def yX1_menFailed : MethodName := ⟨RX1, "menFailed", "()I"⟩
abbrev cX1_coinsPaid : ByteArray := prog_3_method_10_code
def yX1_coinsPaid : MethodName := ⟨RX1, "coinsPaid", "()I"⟩
abbrev cX1_tell : ByteArray := prog_3_method_11_code
def yX1_tell : MethodName := ⟨RX1, "tell", "(II)I"⟩
def RX2 : String := "AdvanceBook$Decree"
def TX2 : u_T := fun k => match k with
  | 0 => ("AdvanceBook$Decree", "cuts", "[I", true)
  | 1 => ("AdvanceBook$Decree", "moves", "[I", true)
  | 2 => ("AdvanceBook$Decree", "spare", "I", false)
  | 3 => ("AdvanceBook$Decree", "before", "I", false)
  | _ => ("AdvanceBook$Decree", "lines", "I", false)
def tyX2 : Nat → FieldType := fun k => match k with
  | 0 => .array .int
  | 1 => .array .int
  | 2 => .int
  | 3 => .int
  | _ => .int
abbrev wsX20 : List Cond := u_ws RX2 TX2 5
theorem nmX2 : ∀ a, a < 5 → ∀ b, b < 5 → a ≠ b → (TX2 a).2.1 ≠ (TX2 b).2.1 := by decide +kernel
theorem tyX2_ok : ∀ k, k < 5 → parseFieldDescriptor (TX2 k).2.2.1 = some (tyX2 k) := by decide +kernel
abbrev cX2_init : ByteArray := prog_4_method_1_code
def yX2_init : MethodName := ⟨RX2, "<init>", "()V"⟩
abbrev cX2_empty : ByteArray := prog_4_method_2_code
def yX2_empty : MethodName := ⟨RX2, "empty", "()V"⟩
abbrev cX2_reaches : ByteArray := prog_4_method_3_code
def yX2_reaches : MethodName := ⟨RX2, "reaches", "(I)Z"⟩
abbrev cX2_leftOf : ByteArray := prog_4_method_4_code
def yX2_leftOf : MethodName := ⟨RX2, "leftOf", "(III)I"⟩
abbrev cX2_rankFor : ByteArray := prog_4_method_5_code
def yX2_rankFor : MethodName := ⟨RX2, "rankFor", "(II)I"⟩
def RX3 : String := "AdvanceBook$Papers"
def TX3 : u_T := fun k => match k with
  | 0 => ("AdvanceBook$Papers", "toldDebtors", "[I", true)
  | 1 => ("AdvanceBook$Papers", "toldCreditors", "[I", true)
  | 2 => ("AdvanceBook$Papers", "toldCoins", "[I", true)
  | 3 => ("AdvanceBook$Papers", "toldRanks", "[I", true)
  | 4 => ("AdvanceBook$Papers", "days", "[I", true)
  | 5 => ("AdvanceBook$Papers", "copies", "[Z", true)
  | 6 => ("AdvanceBook$Papers", "debtors", "[I", true)
  | 7 => ("AdvanceBook$Papers", "creditors", "[I", true)
  | 8 => ("AdvanceBook$Papers", "ranks", "[I", true)
  | 9 => ("AdvanceBook$Papers", "lefts", "[I", true)
  | _ => ("AdvanceBook$Papers", "size", "I", false)
def tyX3 : Nat → FieldType := fun k => match k with
  | 0 => .array .int
  | 1 => .array .int
  | 2 => .array .int
  | 3 => .array .int
  | 4 => .array .int
  | 5 => .array .boolean
  | 6 => .array .int
  | 7 => .array .int
  | 8 => .array .int
  | 9 => .array .int
  | _ => .int
abbrev wsX30 : List Cond := u_ws RX3 TX3 11
theorem nmX3 : ∀ a, a < 11 → ∀ b, b < 11 → a ≠ b → (TX3 a).2.1 ≠ (TX3 b).2.1 := by decide +kernel
theorem tyX3_ok : ∀ k, k < 11 → parseFieldDescriptor (TX3 k).2.2.1 = some (tyX3 k) := by decide +kernel
abbrev cX3_init : ByteArray := prog_5_method_1_code
def yX3_init : MethodName := ⟨RX3, "<init>", "()V"⟩
abbrev cX3_holds : ByteArray := prog_5_method_2_code
def yX3_holds : MethodName := ⟨RX3, "holds", "(I)Z"⟩
abbrev cX3_write : ByteArray := prog_5_method_3_code
def yX3_write : MethodName := ⟨RX3, "write", "(IIIII)I"⟩
abbrev cX3_isTold : ByteArray := prog_5_method_4_code
def yX3_isTold : MethodName := ⟨RX3, "isTold", "(IIIII)Z"⟩
abbrev cX3_tell : ByteArray := prog_5_method_5_code
def yX3_tell : MethodName := ⟨RX3, "tell", "(II)I"⟩
abbrev cX3_netOf : ByteArray := prog_5_method_6_code
def yX3_netOf : MethodName := ⟨RX3, "netOf", "(I)I"⟩
abbrev cX3_handOver : ByteArray := prog_5_method_7_code
def yX3_handOver : MethodName := ⟨RX3, "handOver", "(II)V"⟩
abbrev cX3_obey : ByteArray := prog_5_method_8_code
def yX3_obey : MethodName := ⟨RX3, "obey", "(LAdvanceBook$Decree;)I"⟩
abbrev cX3_leftInAll : ByteArray := prog_5_method_9_code
def yX3_leftInAll : MethodName := ⟨RX3, "leftInAll", "()I"⟩
def RX4 : String := "AdvanceBook$Reader"
def TX4 : u_T := fun k => match k with
  | 0 => ("AdvanceBook$Reader", "text", "[I", true)
  | 1 => ("AdvanceBook$Reader", "length", "I", false)
  | 2 => ("AdvanceBook$Reader", "kind", "I", false)
  | 3 => ("AdvanceBook$Reader", "start", "I", false)
  | 4 => ("AdvanceBook$Reader", "next", "I", false)
  | 5 => ("AdvanceBook$Reader", "fault", "I", false)
  | _ => ("AdvanceBook$Reader", "faultPlace", "I", false)
def tyX4 : Nat → FieldType := fun k => match k with
  | 0 => .array .int
  | 1 => .int
  | 2 => .int
  | 3 => .int
  | 4 => .int
  | 5 => .int
  | _ => .int
abbrev wsX40 : List Cond := u_ws RX4 TX4 7
theorem nmX4 : ∀ a, a < 7 → ∀ b, b < 7 → a ≠ b → (TX4 a).2.1 ≠ (TX4 b).2.1 := by decide +kernel
theorem tyX4_ok : ∀ k, k < 7 → parseFieldDescriptor (TX4 k).2.2.1 = some (tyX4 k) := by decide +kernel
abbrev cX4_init : ByteArray := prog_6_method_1_code
def yX4_init : MethodName := ⟨RX4, "<init>", "()V"⟩
abbrev cX4_read : ByteArray := prog_6_method_2_code
def yX4_read : MethodName := ⟨RX4, "read", "(LAdvanceBook$Tape;ILAdvanceBook$Decree;)V"⟩
abbrev cX4_readLine : ByteArray := prog_6_method_3_code
def yX4_readLine : MethodName := ⟨RX4, "readLine", "(LAdvanceBook$Decree;)V"⟩
abbrev cX4_readCut : ByteArray := prog_6_method_4_code
def yX4_readCut : MethodName := ⟨RX4, "readCut", "(LAdvanceBook$Decree;)V"⟩
abbrev cX4_readMove : ByteArray := prog_6_method_5_code
def yX4_readMove : MethodName := ⟨RX4, "readMove", "(LAdvanceBook$Decree;)V"⟩
abbrev cX4_readSpare : ByteArray := prog_6_method_6_code
def yX4_readSpare : MethodName := ⟨RX4, "readSpare", "(LAdvanceBook$Decree;)V"⟩
abbrev cX4_readBefore : ByteArray := prog_6_method_7_code
def yX4_readBefore : MethodName := ⟨RX4, "readBefore", "(LAdvanceBook$Decree;)V"⟩
abbrev cX4_blameRankOf : ByteArray := prog_6_method_8_code
def yX4_blameRankOf : MethodName := ⟨RX4, "blameRankOf", "([I)V"⟩
abbrev cX4_readNumber : ByteArray := prog_6_method_9_code
def yX4_readNumber : MethodName := ⟨RX4, "readNumber", "(I)I"⟩
abbrev cX4_readSemicolon : ByteArray := prog_6_method_10_code
def yX4_readSemicolon : MethodName := ⟨RX4, "readSemicolon", "()V"⟩
abbrev cX4_blame : ByteArray := prog_6_method_11_code
def yX4_blame : MethodName := ⟨RX4, "blame", "(I)V"⟩
abbrev cX4_isWord : ByteArray := prog_6_method_12_code
def yX4_isWord : MethodName := ⟨RX4, "isWord", "(Ljava/lang/String;)Z"⟩
abbrev cX4_numberAtHand : ByteArray := prog_6_method_13_code
def yX4_numberAtHand : MethodName := ⟨RX4, "numberAtHand", "()I"⟩
abbrev cX4_step : ByteArray := prog_6_method_14_code
def yX4_step : MethodName := ⟨RX4, "step", "()V"⟩
abbrev cX4_isInARow : ByteArray := prog_6_method_15_code
def yX4_isInARow : MethodName := ⟨RX4, "isInARow", "()Z"⟩
abbrev cX4_kindOf : ByteArray := prog_6_method_16_code
def yX4_kindOf : MethodName := ⟨RX4, "kindOf", "(I)I"⟩
def RX5 : String := "AdvanceBook$Tape"
def TX5 : u_T := fun k => match k with
  | 0 => ("AdvanceBook$Tape", "bytes", "[I", true)
  | _ => ("AdvanceBook$Tape", "length", "I", false)
def tyX5 : Nat → FieldType := fun k => match k with
  | 0 => .array .int
  | _ => .int
abbrev wsX50 : List Cond := u_ws RX5 TX5 2
theorem nmX5 : ∀ a, a < 2 → ∀ b, b < 2 → a ≠ b → (TX5 a).2.1 ≠ (TX5 b).2.1 := by decide +kernel
theorem tyX5_ok : ∀ k, k < 2 → parseFieldDescriptor (TX5 k).2.2.1 = some (tyX5 k) := by decide +kernel
abbrev cX5_init : ByteArray := prog_7_method_1_code
def yX5_init : MethodName := ⟨RX5, "<init>", "()V"⟩
abbrev cX5_append : ByteArray := prog_7_method_2_code
def yX5_append : MethodName := ⟨RX5, "append", "(I)V"⟩
def RX6 : String := "AdvanceBook$Town"
def TX6 : u_T := fun k => match k with
  | 0 => ("AdvanceBook$Town", "purses", "[I", true)
  | 1 => ("AdvanceBook$Town", "papers", "LAdvanceBook$Papers;", true)
  | 2 => ("AdvanceBook$Town", "men", "I", false)
  | _ => ("AdvanceBook$Town", "today", "I", false)
def tyX6 : Nat → FieldType := fun k => match k with
  | 0 => .array .int
  | 1 => .object "AdvanceBook$Papers"
  | 2 => .int
  | _ => .int
abbrev wsX60 : List Cond := u_ws RX6 TX6 4
theorem nmX6 : ∀ a, a < 4 → ∀ b, b < 4 → a ≠ b → (TX6 a).2.1 ≠ (TX6 b).2.1 := by decide +kernel
theorem tyX6_ok : ∀ k, k < 4 → parseFieldDescriptor (TX6 k).2.2.1 = some (tyX6 k) := by decide +kernel
abbrev cX6_init : ByteArray := prog_8_method_1_code
def yX6_init : MethodName := ⟨RX6, "<init>", "()V"⟩
abbrev cX6_hasMan : ByteArray := prog_8_method_2_code
def yX6_hasMan : MethodName := ⟨RX6, "hasMan", "(I)Z"⟩
abbrev cX6_settle : ByteArray := prog_8_method_3_code
def yX6_settle : MethodName := ⟨RX6, "settle", "(I)I"⟩
abbrev cX6_isCrew : ByteArray := prog_8_method_4_code
def yX6_isCrew : MethodName := ⟨RX6, "isCrew", "(II)Z"⟩
abbrev cX6_shareBoat : ByteArray := prog_8_method_5_code
def yX6_shareBoat : MethodName := ⟨RX6, "shareBoat", "(IIII)I"⟩
abbrev cX6_handOver : ByteArray := prog_8_method_6_code
def yX6_handOver : MethodName := ⟨RX6, "handOver", "(II)V"⟩
abbrev cX6_carryOut : ByteArray := prog_8_method_7_code
def yX6_carryOut : MethodName := ⟨RX6, "carryOut", "(LAdvanceBook$Clearing;)V"⟩
abbrev cX6_allPurses : ByteArray := prog_8_method_8_code
def yX6_allPurses : MethodName := ⟨RX6, "allPurses", "()I"⟩
def RX7 : String := "AdvanceBook"
def TX7 : u_T := fun k => match k with
  | 0 => ("AdvanceBook", "town", "LAdvanceBook$Town;", true)
  | 1 => ("AdvanceBook", "tape", "LAdvanceBook$Tape;", true)
  | 2 => ("AdvanceBook", "reader", "LAdvanceBook$Reader;", true)
  | 3 => ("AdvanceBook", "balance", "LAdvanceBook$Balance;", true)
  | 4 => ("AdvanceBook", "asThingsAre", "LAdvanceBook$Decree;", true)
  | 5 => ("AdvanceBook", "clearingAtHand", "LAdvanceBook$Clearing;", true)
  | 6 => ("AdvanceBook", "clearingOfEnd", "LAdvanceBook$Clearing;", true)
  | 7 => ("AdvanceBook", "decreeAtHand", "LAdvanceBook$Decree;", false)
  | 8 => ("AdvanceBook", "draft", "LAdvanceBook$Decree;", false)
  | _ => ("AdvanceBook", "isDecreeAtHand", "Z", false)
def tyX7 : Nat → FieldType := fun k => match k with
  | 0 => .object "AdvanceBook$Town"
  | 1 => .object "AdvanceBook$Tape"
  | 2 => .object "AdvanceBook$Reader"
  | 3 => .object "AdvanceBook$Balance"
  | 4 => .object "AdvanceBook$Decree"
  | 5 => .object "AdvanceBook$Clearing"
  | 6 => .object "AdvanceBook$Clearing"
  | 7 => .object "AdvanceBook$Decree"
  | 8 => .object "AdvanceBook$Decree"
  | _ => .boolean
abbrev wsX70 : List Cond := u_ws RX7 TX7 10
theorem nmX7 : ∀ a, a < 10 → ∀ b, b < 10 → a ≠ b → (TX7 a).2.1 ≠ (TX7 b).2.1 := by decide +kernel
theorem tyX7_ok : ∀ k, k < 10 → parseFieldDescriptor (TX7 k).2.2.1 = some (tyX7 k) := by decide +kernel
abbrev cX7_init : ByteArray := prog_1_method_1_code
def yX7_init : MethodName := ⟨RX7, "<init>", "()V"⟩
abbrev cX7_feed : ByteArray := prog_1_method_2_code
def yX7_feed : MethodName := ⟨RX7, "feed", "(IIIII)I"⟩
abbrev cX7_man : ByteArray := prog_1_method_3_code
def yX7_man : MethodName := ⟨RX7, "man", "(I)I"⟩
abbrev cX7_paper : ByteArray := prog_1_method_4_code
def yX7_paper : MethodName := ⟨RX7, "paper", "(IIII)I"⟩
abbrev cX7_look : ByteArray := prog_1_method_5_code
def yX7_look : MethodName := ⟨RX7, "look", "(II)I"⟩
abbrev cX7_pass : ByteArray := prog_1_method_6_code
def yX7_pass : MethodName := ⟨RX7, "pass", "(I)I"⟩
abbrev cX7_purse : ByteArray := prog_1_method_7_code
def yX7_purse : MethodName := ⟨RX7, "purse", "(I)I"⟩
abbrev cX7_net : ByteArray := prog_1_method_8_code
def yX7_net : MethodName := ⟨RX7, "net", "(I)I"⟩
abbrev cX7_thread : ByteArray := prog_1_method_9_code
def yX7_thread : MethodName := ⟨RX7, "thread", "()I"⟩
abbrev cX7_move : ByteArray := prog_1_method_10_code
def yX7_move : MethodName := ⟨RX7, "move", "(II)I"⟩
abbrev cX7_boat : ByteArray := prog_1_method_11_code
def yX7_boat : MethodName := ⟨RX7, "boat", "(IIII)I"⟩
abbrev cX7_heir : ByteArray := prog_1_method_12_code
def yX7_heir : MethodName := ⟨RX7, "heir", "(II)Z"⟩
abbrev cX7_decree : ByteArray := prog_1_method_13_code
def yX7_decree : MethodName := ⟨RX7, "decree", "(I)I"⟩
abbrev cX7_fault : ByteArray := prog_1_method_14_code
def yX7_fault : MethodName := ⟨RX7, "fault", "(I)I"⟩
abbrev cX7_clear : ByteArray := prog_1_method_15_code
def yX7_clear : MethodName := ⟨RX7, "clear", "(Z)I"⟩
abbrev cX7_cleared : ByteArray := prog_1_method_16_code
def yX7_cleared : MethodName := ⟨RX7, "cleared", "(II)I"⟩
abbrev cX7_enact : ByteArray := prog_1_method_17_code
def yX7_enact : MethodName := ⟨RX7, "enact", "()I"⟩
abbrev cX7_end : ByteArray := prog_1_method_18_code
def yX7_end : MethodName := ⟨RX7, "end", "()I"⟩
abbrev cX7_count : ByteArray := prog_1_method_19_code
def yX7_count : MethodName := ⟨RX7, "count", "(I)I"⟩
def RX8 : String := "AdvanceBookModel"
def TX8 : u_T := fun k => match k with
  | 0 => ("AdvanceBookModel", "tape", "[I", true)
  | 1 => ("AdvanceBookModel", "tapeSize", "I", false)
  | 2 => ("AdvanceBookModel", "thrown", "I", false)
  | 3 => ("AdvanceBookModel", "today", "I", false)
  | 4 => ("AdvanceBookModel", "men", "I", false)
  | 5 => ("AdvanceBookModel", "purse", "[I", true)
  | 6 => ("AdvanceBookModel", "papers", "I", false)
  | 7 => ("AdvanceBookModel", "debtor", "[I", true)
  | 8 => ("AdvanceBookModel", "creditor", "[I", true)
  | 9 => ("AdvanceBookModel", "toldDebtor", "[I", true)
  | 10 => ("AdvanceBookModel", "toldCreditor", "[I", true)
  | 11 => ("AdvanceBookModel", "toldRank", "[I", true)
  | 12 => ("AdvanceBookModel", "coins", "[I", true)
  | 13 => ("AdvanceBookModel", "rank", "[I", true)
  | 14 => ("AdvanceBookModel", "left", "[I", true)
  | 15 => ("AdvanceBookModel", "day", "[I", true)
  | 16 => ("AdvanceBookModel", "isCopy", "[Z", true)
  | 17 => ("AdvanceBookModel", "isDecree", "Z", false)
  | 18 => ("AdvanceBookModel", "lines", "I", false)
  | 19 => ("AdvanceBookModel", "rule", "[I", true)
  | 20 => ("AdvanceBookModel", "fault", "I", false)
  | 21 => ("AdvanceBookModel", "faultPlace", "I", false)
  | 22 => ("AdvanceBookModel", "nets", "[I", true)
  | 23 => ("AdvanceBookModel", "words", "[I", true)
  | 24 => ("AdvanceBookModel", "size", "I", false)
  | 25 => ("AdvanceBookModel", "next", "I", false)
  | 26 => ("AdvanceBookModel", "kind", "I", false)
  | 27 => ("AdvanceBookModel", "which", "I", false)
  | 28 => ("AdvanceBookModel", "place", "I", false)
  | 29 => ("AdvanceBookModel", "read", "I", false)
  | 30 => ("AdvanceBookModel", "owed", "[I", true)
  | 31 => ("AdvanceBookModel", "ranks", "[I", true)
  | 32 => ("AdvanceBookModel", "paid", "[I", true)
  | 33 => ("AdvanceBookModel", "was", "[I", true)
  | 34 => ("AdvanceBookModel", "failed", "[I", true)
  | 35 => ("AdvanceBookModel", "rounds", "I", false)
  | 36 => ("AdvanceBookModel", "isCleared", "Z", false)
  | 37 => ("AdvanceBookModel", "cMen", "I", false)
  | 38 => ("AdvanceBookModel", "cPapers", "I", false)
  | 39 => ("AdvanceBookModel", "cRounds", "I", false)
  | 40 => ("AdvanceBookModel", "cPaid", "[I", true)
  | 41 => ("AdvanceBookModel", "cHas", "[I", true)
  | 42 => ("AdvanceBookModel", "cFailed", "[I", true)
  | _ => ("AdvanceBookModel", "cOwes", "[I", true)
def tyX8 : Nat → FieldType := fun k => match k with
  | 0 => .array .int
  | 1 => .int
  | 2 => .int
  | 3 => .int
  | 4 => .int
  | 5 => .array .int
  | 6 => .int
  | 7 => .array .int
  | 8 => .array .int
  | 9 => .array .int
  | 10 => .array .int
  | 11 => .array .int
  | 12 => .array .int
  | 13 => .array .int
  | 14 => .array .int
  | 15 => .array .int
  | 16 => .array .boolean
  | 17 => .boolean
  | 18 => .int
  | 19 => .array .int
  | 20 => .int
  | 21 => .int
  | 22 => .array .int
  | 23 => .array .int
  | 24 => .int
  | 25 => .int
  | 26 => .int
  | 27 => .int
  | 28 => .int
  | 29 => .int
  | 30 => .array .int
  | 31 => .array .int
  | 32 => .array .int
  | 33 => .array .int
  | 34 => .array .int
  | 35 => .int
  | 36 => .boolean
  | 37 => .int
  | 38 => .int
  | 39 => .int
  | 40 => .array .int
  | 41 => .array .int
  | 42 => .array .int
  | _ => .array .int
abbrev wsX80 : List Cond := u_ws RX8 TX8 44
theorem nmX8 : ∀ a, a < 44 → ∀ b, b < 44 → a ≠ b → (TX8 a).2.1 ≠ (TX8 b).2.1 := by decide +kernel
theorem tyX8_ok : ∀ k, k < 44 → parseFieldDescriptor (TX8 k).2.2.1 = some (tyX8 k) := by decide +kernel
abbrev cX8_init : ByteArray := prog_10_method_1_code
def yX8_init : MethodName := ⟨RX8, "<init>", "()V"⟩
abbrev cX8_thrown : ByteArray := prog_10_method_2_code
def yX8_thrown : MethodName := ⟨RX8, "thrown", "()I"⟩
abbrev cX8_feed : ByteArray := prog_10_method_3_code
def yX8_feed : MethodName := ⟨RX8, "feed", "(IIIII)I"⟩
abbrev cX8_man : ByteArray := prog_10_method_4_code
def yX8_man : MethodName := ⟨RX8, "man", "(I)I"⟩
abbrev cX8_isMan : ByteArray := prog_10_method_5_code
def yX8_isMan : MethodName := ⟨RX8, "isMan", "(I)Z"⟩
abbrev cX8_paper : ByteArray := prog_10_method_6_code
def yX8_paper : MethodName := ⟨RX8, "paper", "(IIII)I"⟩
abbrev cX8_fails : ByteArray := prog_10_method_7_code
def yX8_fails : MethodName := ⟨RX8, "fails", "(I)I"⟩
abbrev cX8_look : ByteArray := prog_10_method_8_code
def yX8_look : MethodName := ⟨RX8, "look", "(II)I"⟩
abbrev cX8_pass : ByteArray := prog_10_method_9_code
def yX8_pass : MethodName := ⟨RX8, "pass", "(I)I"⟩
abbrev cX8_purse : ByteArray := prog_10_method_10_code
def yX8_purse : MethodName := ⟨RX8, "purse", "(I)I"⟩
abbrev cX8_netOf : ByteArray := prog_10_method_11_code
def yX8_netOf : MethodName := ⟨RX8, "netOf", "(I)I"⟩
abbrev cX8_net : ByteArray := prog_10_method_12_code
def yX8_net : MethodName := ⟨RX8, "net", "(I)I"⟩
abbrev cX8_thread : ByteArray := prog_10_method_13_code
def yX8_thread : MethodName := ⟨RX8, "thread", "()I"⟩
abbrev cX8_move : ByteArray := prog_10_method_14_code
def yX8_move : MethodName := ⟨RX8, "move", "(II)I"⟩
abbrev cX8_boat : ByteArray := prog_10_method_15_code
def yX8_boat : MethodName := ⟨RX8, "boat", "(IIII)I"⟩
abbrev cX8_heir : ByteArray := prog_10_method_16_code
def yX8_heir : MethodName := ⟨RX8, "heir", "(II)Z"⟩
abbrev cX8_wrong : ByteArray := prog_10_method_17_code
def yX8_wrong : MethodName := ⟨RX8, "wrong", "(II)Z"⟩
abbrev cX8_wordAt : ByteArray := prog_10_method_18_code
def yX8_wordAt : MethodName := ⟨RX8, "wordAt", "(II)I"⟩
abbrev cX8_isSmall : ByteArray := prog_10_method_19_code
def yX8_isSmall : MethodName := ⟨RX8, "isSmall", "(I)Z"⟩
abbrev cX8_isDigit : ByteArray := prog_10_method_20_code
def yX8_isDigit : MethodName := ⟨RX8, "isDigit", "(I)Z"⟩
abbrev cX8_take : ByteArray := prog_10_method_21_code
def yX8_take : MethodName := ⟨RX8, "take", "()V"⟩
abbrev cX8_number : ByteArray := prog_10_method_22_code
def yX8_number : MethodName := ⟨RX8, "number", "(I)Z"⟩
abbrev cX8_line : ByteArray := prog_10_method_23_code
def yX8_line : MethodName := ⟨RX8, "line", "()Z"⟩
abbrev cX8_decree : ByteArray := prog_10_method_24_code
def yX8_decree : MethodName := ⟨RX8, "decree", "(I)I"⟩
abbrev cX8_fault : ByteArray := prog_10_method_25_code
def yX8_fault : MethodName := ⟨RX8, "fault", "(I)I"⟩
abbrev cX8_isMeant : ByteArray := prog_10_method_26_code
def yX8_isMeant : MethodName := ⟨RX8, "isMeant", "(I)Z"⟩
abbrev cX8_leftBy : ByteArray := prog_10_method_27_code
def yX8_leftBy : MethodName := ⟨RX8, "leftBy", "(I)I"⟩
abbrev cX8_rankBy : ByteArray := prog_10_method_28_code
def yX8_rankBy : MethodName := ⟨RX8, "rankBy", "(I)I"⟩
abbrev cX8_enact : ByteArray := prog_10_method_29_code
def yX8_enact : MethodName := ⟨RX8, "enact", "()I"⟩
abbrev cX8_works : ByteArray := prog_10_method_30_code
def yX8_works : MethodName := ⟨RX8, "works", "(Z)V"⟩
abbrev cX8_pays : ByteArray := prog_10_method_31_code
def yX8_pays : MethodName := ⟨RX8, "pays", "(II)Z"⟩
abbrev cX8_clear : ByteArray := prog_10_method_32_code
def yX8_clear : MethodName := ⟨RX8, "clear", "(Z)I"⟩
abbrev cX8_cleared : ByteArray := prog_10_method_33_code
def yX8_cleared : MethodName := ⟨RX8, "cleared", "(II)I"⟩
abbrev cX8_end : ByteArray := prog_10_method_34_code
def yX8_end : MethodName := ⟨RX8, "end", "()I"⟩
abbrev cX8_count : ByteArray := prog_10_method_35_code
def yX8_count : MethodName := ⟨RX8, "count", "(I)I"⟩
def RJ6 : String := "java/lang/Integer"
def TJ6 : u_T := fun k => match k with
  | _ => ("", "", "", false)
def tyJ6 : Nat → FieldType := fun k => match k with
  | _ => .int
abbrev wsJ60 : List Cond := u_ws RJ6 TJ6 0
theorem nmJ6 : ∀ a, a < 0 → ∀ b, b < 0 → a ≠ b → (TJ6 a).2.1 ≠ (TJ6 b).2.1 := by decide +kernel
theorem tyJ6_ok : ∀ k, k < 0 → parseFieldDescriptor (TJ6 k).2.2.1 = some (tyJ6 k) := by decide +kernel
abbrev cJ6_bitCount_0f7a4 : ByteArray := prog_13_method_49_code
def yJ6_bitCount_0f7a4 : MethodName := ⟨RJ6, "bitCount", "(I)I"⟩
def RJ9 : String := "java/lang/Math"
def TJ9 : u_T := fun k => match k with
  | _ => ("", "", "", false)
def tyJ9 : Nat → FieldType := fun k => match k with
  | _ => .int
abbrev wsJ90 : List Cond := u_ws RJ9 TJ9 0
theorem nmJ9 : ∀ a, a < 0 → ∀ b, b < 0 → a ≠ b → (TJ9 a).2.1 ≠ (TJ9 b).2.1 := by decide +kernel
theorem tyJ9_ok : ∀ k, k < 0 → parseFieldDescriptor (TJ9 k).2.2.1 = some (tyJ9 k) := by decide +kernel
abbrev cJ9_min_7cf53 : ByteArray := prog_14_method_69_code
def yJ9_min_7cf53 : MethodName := ⟨RJ9, "min", "(II)I"⟩
def RJ0 : String := "java/lang/String"
def TJ0 : u_T := fun k => match k with
  | _ => ("", "", "", false)
def tyJ0 : Nat → FieldType := fun k => match k with
  | _ => .int
abbrev wsJ00 : List Cond := u_ws RJ0 TJ0 0
theorem nmJ0 : ∀ a, a < 0 → ∀ b, b < 0 → a ≠ b → (TJ0 a).2.1 ≠ (TJ0 b).2.1 := by decide +kernel
theorem tyJ0_ok : ∀ k, k < 0 → parseFieldDescriptor (TJ0 k).2.2.1 = some (tyJ0 k) := by decide +kernel
abbrev cJ0_length_8abf5 : ByteArray := prog_16_method_54_code
def yJ0_length_8abf5 : MethodName := ⟨RJ0, "length", "()I"⟩
abbrev cJ0_charAt_5068e : ByteArray := prog_16_method_56_code
def yJ0_charAt_5068e : MethodName := ⟨RJ0, "charAt", "(I)C"⟩
abbrev cJ0_coder_7d493 : ByteArray := prog_16_method_152_code
def yJ0_coder_7d493 : MethodName := ⟨RJ0, "coder", "()B"⟩
abbrev cJ0_isLatin1_aae02 : ByteArray := prog_16_method_154_code
def yJ0_isLatin1_aae02 : MethodName := ⟨RJ0, "isLatin1", "()Z"⟩
abbrev cJ0_checkIndex_df160 : ByteArray := prog_16_method_155_code
def yJ0_checkIndex_df160 : MethodName := ⟨RJ0, "checkIndex", "(II)V"⟩
def RJ1 : String := "java/lang/StringLatin1"
def TJ1 : u_T := fun k => match k with
  | _ => ("", "", "", false)
def tyJ1 : Nat → FieldType := fun k => match k with
  | _ => .int
abbrev wsJ10 : List Cond := u_ws RJ1 TJ1 0
theorem nmJ1 : ∀ a, a < 0 → ∀ b, b < 0 → a ≠ b → (TJ1 a).2.1 ≠ (TJ1 b).2.1 := by decide +kernel
theorem tyJ1_ok : ∀ k, k < 0 → parseFieldDescriptor (TJ1 k).2.2.1 = some (tyJ1 k) := by decide +kernel
abbrev cJ1_charAt_3b067 : ByteArray := prog_17_method_2_code
def yJ1_charAt_3b067 : MethodName := ⟨RJ1, "charAt", "([BI)C"⟩
def RJ2 : String := "java/lang/StringUTF16"
def TJ2 : u_T := fun k => match k with
  | _ => ("", "", "", false)
def tyJ2 : Nat → FieldType := fun k => match k with
  | _ => .int
abbrev wsJ20 : List Cond := u_ws RJ2 TJ2 0
theorem nmJ2 : ∀ a, a < 0 → ∀ b, b < 0 → a ≠ b → (TJ2 a).2.1 ≠ (TJ2 b).2.1 := by decide +kernel
theorem tyJ2_ok : ∀ k, k < 0 → parseFieldDescriptor (TJ2 k).2.2.1 = some (tyJ2 k) := by decide +kernel
abbrev cJ2_getChar_3b067 : ByteArray := prog_18_method_5_code
def yJ2_getChar_3b067 : MethodName := ⟨RJ2, "getChar", "([BI)C"⟩
abbrev cJ2_length_9d52b : ByteArray := prog_18_method_6_code
def yJ2_length_9d52b : MethodName := ⟨RJ2, "length", "([B)I"⟩
abbrev cJ2_charAt_3b067 : ByteArray := prog_18_method_83_code
def yJ2_charAt_3b067 : MethodName := ⟨RJ2, "charAt", "([BI)C"⟩
abbrev cJ2_checkIndex_2214a : ByteArray := prog_18_method_91_code
def yJ2_checkIndex_2214a : MethodName := ⟨RJ2, "checkIndex", "(I[B)V"⟩
def RJ7 : String := "java/util/Arrays"
def TJ7 : u_T := fun k => match k with
  | _ => ("", "", "", false)
def tyJ7 : Nat → FieldType := fun k => match k with
  | _ => .int
abbrev wsJ70 : List Cond := u_ws RJ7 TJ7 0
theorem nmJ7 : ∀ a, a < 0 → ∀ b, b < 0 → a ≠ b → (TJ7 a).2.1 ≠ (TJ7 b).2.1 := by decide +kernel
theorem tyJ7_ok : ∀ k, k < 0 → parseFieldDescriptor (TJ7 k).2.2.1 = some (tyJ7 k) := by decide +kernel
abbrev cJ7_fill_53178 : ByteArray := prog_20_method_103_code
def yJ7_fill_53178 : MethodName := ⟨RJ7, "fill", "([II)V"⟩
def RJ3 : String := "jdk/internal/util/Preconditions"
def TJ3 : u_T := fun k => match k with
  | _ => ("", "", "", false)
def tyJ3 : Nat → FieldType := fun k => match k with
  | _ => .int
abbrev wsJ30 : List Cond := u_ws RJ3 TJ3 0
theorem nmJ3 : ∀ a, a < 0 → ∀ b, b < 0 → a ≠ b → (TJ3 a).2.1 ≠ (TJ3 b).2.1 := by decide +kernel
theorem tyJ3_ok : ∀ k, k < 0 → parseFieldDescriptor (TJ3 k).2.2.1 = some (tyJ3 k) := by decide +kernel
abbrev cJ3_checkIndex_8e157 : ByteArray := prog_22_method_11_code
def yJ3_checkIndex_8e157 : MethodName := ⟨RJ3, "checkIndex", "(IILjava/util/function/BiFunction;)I"⟩
def RL : String := "AdvanceBookLaw"
abbrev cL_look : ByteArray := method_3_code
def yL_look : MethodName := ⟨RL, "look", "(LAdvanceBook;II[J)I"⟩
abbrev cL_law : ByteArray := code
def yL_law : MethodName := ⟨RL, "law", "([I)Z"⟩
def wsX0_init : List Cond := .code yX0_init cX0_init 1 none :: ([.methodLink RX0 3 objectInit, .instanceMethod objectInit, .code objectInit ⟨#[0xb1]⟩ 1 none, .arrayClass .int, .fieldLink RX0 9 "AdvanceBook$Balance" "open" "[I", .fieldLink RX0 15 "AdvanceBook$Balance" "payers" "[I", .fieldLink RX0 18 "AdvanceBook$Balance" "getters" "[I", .fieldLink RX0 21 "AdvanceBook$Balance" "coins" "[I", .fieldLink RX0 24 "AdvanceBook$Balance" "moves" "I"] ++ wsX00)
def wsX3_netOf : List Cond := .code yX3_netOf cX3_netOf 4 (some .int) :: ([.fieldLink RX3 43 "AdvanceBook$Papers" "size" "I", .fieldLink RX3 34 "AdvanceBook$Papers" "creditors" "[I", .fieldLink RX3 40 "AdvanceBook$Papers" "lefts" "[I", .fieldLink RX3 31 "AdvanceBook$Papers" "debtors" "[I"] ++ wsX30)
def wsX0_addMove : List Cond := .code yX0_addMove cX0_addMove 4 none :: ([.fieldLink RX0 24 "AdvanceBook$Balance" "moves" "I", .fieldLink RX0 9 "AdvanceBook$Balance" "open" "[I", .methodLink RX0 47 Lib.Math.min.name, .static Lib.Math.min.name, .initialized "java/lang/Math", .code Lib.Math.min.name Lib.Math.min.code 2 (some .int), .fieldLink RX0 15 "AdvanceBook$Balance" "payers" "[I", .fieldLink RX0 18 "AdvanceBook$Balance" "getters" "[I", .fieldLink RX0 21 "AdvanceBook$Balance" "coins" "[I"] ++ wsX00)
def wsX0_workOut : List Cond := .code yX0_workOut cX0_workOut 4 none :: ([.fieldLink RX0 24 "AdvanceBook$Balance" "moves" "I", .fieldLink RX0 9 "AdvanceBook$Balance" "open" "[I", .methodLink RX0 37 yX3_netOf, .instanceMethod yX3_netOf, .selects RX3 yX3_netOf yX3_netOf, .initialized RX3, .code yX3_netOf cX3_netOf 4 (some .int), .fieldLink RX3 43 "AdvanceBook$Papers" "size" "I", .fieldLink RX3 34 "AdvanceBook$Papers" "creditors" "[I", .fieldLink RX3 40 "AdvanceBook$Papers" "lefts" "[I", .fieldLink RX3 31 "AdvanceBook$Papers" "debtors" "[I", .methodLink RX0 43 yX0_addMove, .instanceMethod yX0_addMove, .selects RX0 yX0_addMove yX0_addMove, .initialized RX0, .code yX0_addMove cX0_addMove 4 none, .methodLink RX0 47 Lib.Math.min.name, .static Lib.Math.min.name, .initialized "java/lang/Math", .code Lib.Math.min.name Lib.Math.min.code 2 (some .int), .fieldLink RX0 15 "AdvanceBook$Balance" "payers" "[I", .fieldLink RX0 18 "AdvanceBook$Balance" "getters" "[I", .fieldLink RX0 21 "AdvanceBook$Balance" "coins" "[I"] ++ wsX00 ++ wsX60 ++ wsX30)
def wsX0_coinsMoved : List Cond := .code yX0_coinsMoved cX0_coinsMoved 3 (some .int) :: ([.fieldLink RX0 24 "AdvanceBook$Balance" "moves" "I", .fieldLink RX0 21 "AdvanceBook$Balance" "coins" "[I"] ++ wsX00)
def wsX0_tell : List Cond := .code yX0_tell cX0_tell 3 (some .int) :: ([.fieldLink RX0 24 "AdvanceBook$Balance" "moves" "I", .fieldLink RX0 15 "AdvanceBook$Balance" "payers" "[I", .fieldLink RX0 18 "AdvanceBook$Balance" "getters" "[I", .fieldLink RX0 21 "AdvanceBook$Balance" "coins" "[I"] ++ wsX00)
def wsX1_init : List Cond := .code yX1_init cX1_init 1 none :: ([.methodLink RX1 3 objectInit, .instanceMethod objectInit, .code objectInit ⟨#[0xb1]⟩ 1 none, .arrayClass .int, .fieldLink RX1 9 "AdvanceBook$Clearing" "paid" "[I", .fieldLink RX1 15 "AdvanceBook$Clearing" "order" "[I", .fieldLink RX1 18 "AdvanceBook$Clearing" "has" "[I", .fieldLink RX1 21 "AdvanceBook$Clearing" "unpaid" "[I", .fieldLink RX1 24 "AdvanceBook$Clearing" "failed" "[I", .fieldLink RX1 27 "AdvanceBook$Clearing" "lost" "[I", .fieldLink RX1 30 "AdvanceBook$Clearing" "lastInOrder" "[I", .fieldLink RX1 33 "AdvanceBook$Clearing" "men" "I", .fieldLink RX1 37 "AdvanceBook$Clearing" "papers" "I", .fieldLink RX1 40 "AdvanceBook$Clearing" "rounds" "I"] ++ wsX10)
def wsX1_takeStock : List Cond := .code yX1_takeStock cX1_takeStock 3 none :: ([.fieldLink RX1 33 "AdvanceBook$Clearing" "men" "I", .fieldLink RX1 37 "AdvanceBook$Clearing" "papers" "I", .fieldLink RX1 40 "AdvanceBook$Clearing" "rounds" "I", .fieldLink RX1 18 "AdvanceBook$Clearing" "has" "[I", .fieldLink RX1 21 "AdvanceBook$Clearing" "unpaid" "[I", .fieldLink RX1 24 "AdvanceBook$Clearing" "failed" "[I", .fieldLink RX1 27 "AdvanceBook$Clearing" "lost" "[I", .fieldLink RX1 30 "AdvanceBook$Clearing" "lastInOrder" "[I"] ++ wsX60 ++ wsX10 ++ wsX30)
def wsX2_reaches : List Cond := .code yX2_reaches cX2_reaches 2 (some .boolean) :: ([.fieldLink RX2 31 "AdvanceBook$Decree" "before" "I"] ++ wsX20)
def wsX2_leftOf : List Cond := .code yX2_leftOf cX2_leftOf 5 (some .int) :: ([.fieldLink RX2 27 "AdvanceBook$Decree" "spare" "I", .fieldLink RX2 9 "AdvanceBook$Decree" "cuts" "[I", .methodLink RX2 37 yX2_reaches, .instanceMethod yX2_reaches, .selects RX2 yX2_reaches yX2_reaches, .initialized RX2, .code yX2_reaches cX2_reaches 2 (some .boolean), .fieldLink RX2 31 "AdvanceBook$Decree" "before" "I"] ++ wsX20)
def wsX1_takeAllAsPaid : List Cond := .code yX1_takeAllAsPaid cX1_takeAllAsPaid 5 none :: ([.fieldLink RX1 37 "AdvanceBook$Clearing" "papers" "I", .fieldLink RX1 9 "AdvanceBook$Clearing" "paid" "[I", .fieldLink RX1 18 "AdvanceBook$Clearing" "has" "[I", .methodLink RX1 82 yX2_leftOf, .instanceMethod yX2_leftOf, .selects RX2 yX2_leftOf yX2_leftOf, .initialized RX2, .code yX2_leftOf cX2_leftOf 5 (some .int), .fieldLink RX2 27 "AdvanceBook$Decree" "spare" "I", .fieldLink RX2 9 "AdvanceBook$Decree" "cuts" "[I", .methodLink RX2 37 yX2_reaches, .instanceMethod yX2_reaches, .selects RX2 yX2_reaches yX2_reaches, .code yX2_reaches cX2_reaches 2 (some .boolean), .fieldLink RX2 31 "AdvanceBook$Decree" "before" "I"] ++ wsX10 ++ wsX30 ++ wsX20)
def wsX2_rankFor : List Cond := .code yX2_rankFor cX2_rankFor 3 (some .int) :: ([.fieldLink RX2 15 "AdvanceBook$Decree" "moves" "[I", .methodLink RX2 37 yX2_reaches, .instanceMethod yX2_reaches, .selects RX2 yX2_reaches yX2_reaches, .initialized RX2, .code yX2_reaches cX2_reaches 2 (some .boolean), .fieldLink RX2 31 "AdvanceBook$Decree" "before" "I"] ++ wsX20)
def wsX1_putInOrder : List Cond := .code yX1_putInOrder cX1_putInOrder 6 none :: ([.fieldLink RX1 37 "AdvanceBook$Clearing" "papers" "I", .fieldLink RX1 15 "AdvanceBook$Clearing" "order" "[I", .methodLink RX1 94 yX2_rankFor, .instanceMethod yX2_rankFor, .selects RX2 yX2_rankFor yX2_rankFor, .initialized RX2, .code yX2_rankFor cX2_rankFor 3 (some .int), .fieldLink RX2 15 "AdvanceBook$Decree" "moves" "[I", .methodLink RX2 37 yX2_reaches, .instanceMethod yX2_reaches, .selects RX2 yX2_reaches yX2_reaches, .code yX2_reaches cX2_reaches 2 (some .boolean), .fieldLink RX2 31 "AdvanceBook$Decree" "before" "I"] ++ wsX10 ++ wsX30 ++ wsX20)
def wsX1_payLess : List Cond := .code yX1_payLess cX1_payLess 8 none :: ([.fieldLink RX1 30 "AdvanceBook$Clearing" "lastInOrder" "[I", .fieldLink RX1 15 "AdvanceBook$Clearing" "order" "[I", .fieldLink RX1 9 "AdvanceBook$Clearing" "paid" "[I", .methodLink RX1 105 Lib.Math.min.name, .static Lib.Math.min.name, .initialized "java/lang/Math", .code Lib.Math.min.name Lib.Math.min.code 2 (some .int), .fieldLink RX1 27 "AdvanceBook$Clearing" "lost" "[I", .fieldLink RX1 18 "AdvanceBook$Clearing" "has" "[I", .fieldLink RX1 21 "AdvanceBook$Clearing" "unpaid" "[I"] ++ wsX10 ++ wsX30)
def wsX1_loseWhatIsNotPaid : List Cond := .code yX1_loseWhatIsNotPaid cX1_loseWhatIsNotPaid 2 none :: ([.fieldLink RX1 33 "AdvanceBook$Clearing" "men" "I", .fieldLink RX1 18 "AdvanceBook$Clearing" "has" "[I", .fieldLink RX1 27 "AdvanceBook$Clearing" "lost" "[I"] ++ wsX10)
def wsX1_goRound : List Cond := .code yX1_goRound cX1_goRound 5 (some .boolean) :: ([.fieldLink RX1 33 "AdvanceBook$Clearing" "men" "I", .fieldLink RX1 18 "AdvanceBook$Clearing" "has" "[I", .fieldLink RX1 24 "AdvanceBook$Clearing" "failed" "[I", .methodLink RX1 98 yX1_payLess, .instanceMethod yX1_payLess, .selects RX1 yX1_payLess yX1_payLess, .initialized RX1, .code yX1_payLess cX1_payLess 8 none, .fieldLink RX1 30 "AdvanceBook$Clearing" "lastInOrder" "[I", .fieldLink RX1 15 "AdvanceBook$Clearing" "order" "[I", .fieldLink RX1 9 "AdvanceBook$Clearing" "paid" "[I", .methodLink RX1 105 Lib.Math.min.name, .static Lib.Math.min.name, .initialized "java/lang/Math", .code Lib.Math.min.name Lib.Math.min.code 2 (some .int), .fieldLink RX1 27 "AdvanceBook$Clearing" "lost" "[I", .fieldLink RX1 21 "AdvanceBook$Clearing" "unpaid" "[I", .methodLink RX1 102 yX1_loseWhatIsNotPaid, .instanceMethod yX1_loseWhatIsNotPaid, .selects RX1 yX1_loseWhatIsNotPaid yX1_loseWhatIsNotPaid, .code yX1_loseWhatIsNotPaid cX1_loseWhatIsNotPaid 2 none] ++ wsX10 ++ wsX30)
def wsX1_work_r1 : List Cond := [Cond.constant RX1 59 (39961), Cond.fieldLink RX1 40 "AdvanceBook$Clearing" "rounds" "I", Cond.methodLink RX1 43 yX1_takeStock, Cond.instanceMethod yX1_takeStock, Cond.selects RX1 yX1_takeStock yX1_takeStock, Cond.initialized RX1, Cond.code yX1_takeStock cX1_takeStock 3 none, Cond.fieldLink RX1 33 "AdvanceBook$Clearing" "men" "I", Cond.fieldLink RX1 37 "AdvanceBook$Clearing" "papers" "I", Cond.fieldLink RX1 18 "AdvanceBook$Clearing" "has" "[I", Cond.fieldLink RX1 21 "AdvanceBook$Clearing" "unpaid" "[I", Cond.fieldLink RX1 24 "AdvanceBook$Clearing" "failed" "[I", Cond.fieldLink RX1 27 "AdvanceBook$Clearing" "lost" "[I", Cond.fieldLink RX1 30 "AdvanceBook$Clearing" "lastInOrder" "[I", Cond.methodLink RX1 52 yX1_takeAllAsPaid, Cond.instanceMethod yX1_takeAllAsPaid, Cond.selects RX1 yX1_takeAllAsPaid yX1_takeAllAsPaid, Cond.code yX1_takeAllAsPaid cX1_takeAllAsPaid 5 none, Cond.fieldLink RX1 9 "AdvanceBook$Clearing" "paid" "[I", Cond.methodLink RX1 82 yX2_leftOf, Cond.instanceMethod yX2_leftOf, Cond.selects RX2 yX2_leftOf yX2_leftOf, Cond.initialized RX2, Cond.code yX2_leftOf cX2_leftOf 5 (some .int)]
def wsX1_work_r2 : List Cond := [Cond.fieldLink RX2 27 "AdvanceBook$Decree" "spare" "I", Cond.fieldLink RX2 9 "AdvanceBook$Decree" "cuts" "[I", Cond.methodLink RX2 37 yX2_reaches, Cond.instanceMethod yX2_reaches, Cond.selects RX2 yX2_reaches yX2_reaches, Cond.code yX2_reaches cX2_reaches 2 (some .boolean), Cond.fieldLink RX2 31 "AdvanceBook$Decree" "before" "I", Cond.methodLink RX1 56 yX1_putInOrder, Cond.instanceMethod yX1_putInOrder, Cond.selects RX1 yX1_putInOrder yX1_putInOrder, Cond.code yX1_putInOrder cX1_putInOrder 6 none, Cond.fieldLink RX1 15 "AdvanceBook$Clearing" "order" "[I", Cond.methodLink RX1 94 yX2_rankFor, Cond.instanceMethod yX2_rankFor, Cond.selects RX2 yX2_rankFor yX2_rankFor, Cond.code yX2_rankFor cX2_rankFor 3 (some .int), Cond.fieldLink RX2 15 "AdvanceBook$Decree" "moves" "[I", Cond.methodLink RX1 60 yX1_goRound, Cond.instanceMethod yX1_goRound, Cond.selects RX1 yX1_goRound yX1_goRound, Cond.code yX1_goRound cX1_goRound 5 (some .boolean), Cond.methodLink RX1 98 yX1_payLess, Cond.instanceMethod yX1_payLess, Cond.selects RX1 yX1_payLess yX1_payLess]
def wsX1_work_r3 : List Cond := [Cond.code yX1_payLess cX1_payLess 8 none, Cond.methodLink RX1 105 Lib.Math.min.name, Cond.static Lib.Math.min.name, Cond.initialized "java/lang/Math", Cond.code Lib.Math.min.name Lib.Math.min.code 2 (some .int), Cond.methodLink RX1 102 yX1_loseWhatIsNotPaid, Cond.instanceMethod yX1_loseWhatIsNotPaid, Cond.selects RX1 yX1_loseWhatIsNotPaid yX1_loseWhatIsNotPaid, Cond.code yX1_loseWhatIsNotPaid cX1_loseWhatIsNotPaid 2 none]
def wsX1_work : List Cond := .code yX1_work cX1_work 5 none :: ((wsX1_work_r1 ++ (wsX1_work_r2 ++ wsX1_work_r3)) ++ wsX60 ++ wsX10 ++ wsX30 ++ wsX20)
def wsX1_menFailed : List Cond := .code yX1_menFailed cX1_menFailed 3 (some .int) :: ([.fieldLink RX1 33 "AdvanceBook$Clearing" "men" "I", .fieldLink RX1 24 "AdvanceBook$Clearing" "failed" "[I"] ++ wsX10)
def wsX1_coinsPaid : List Cond := .code yX1_coinsPaid cX1_coinsPaid 3 (some .int) :: ([.fieldLink RX1 37 "AdvanceBook$Clearing" "papers" "I", .fieldLink RX1 9 "AdvanceBook$Clearing" "paid" "[I"] ++ wsX10)
def wsX1_tell : List Cond := .code yX1_tell cX1_tell 3 (some .int) :: ([.fieldLink RX1 37 "AdvanceBook$Clearing" "papers" "I", .fieldLink RX1 33 "AdvanceBook$Clearing" "men" "I", .fieldLink RX1 9 "AdvanceBook$Clearing" "paid" "[I", .fieldLink RX1 18 "AdvanceBook$Clearing" "has" "[I", .fieldLink RX1 24 "AdvanceBook$Clearing" "failed" "[I", .fieldLink RX1 21 "AdvanceBook$Clearing" "unpaid" "[I"] ++ wsX10)
def wsJ7_fill_53178 : List Cond := .code yJ7_fill_53178 cJ7_fill_53178 4 none :: ([])
def wsX2_empty : List Cond := .code yX2_empty cX2_empty 1 none :: ([.fieldLink RX2 9 "AdvanceBook$Decree" "cuts" "[I", .fieldLink RX2 15 "AdvanceBook$Decree" "moves" "[I", .fieldLink RX2 27 "AdvanceBook$Decree" "spare" "I", .fieldLink RX2 31 "AdvanceBook$Decree" "before" "I", .fieldLink RX2 34 "AdvanceBook$Decree" "lines" "I", .methodLink RX2 21 yJ7_fill_53178, .static yJ7_fill_53178, .initialized RJ7, .code yJ7_fill_53178 cJ7_fill_53178 4 none] ++ wsX20)
def wsX2_init : List Cond := .code yX2_init cX2_init 1 none :: ([.methodLink RX2 3 objectInit, .instanceMethod objectInit, .code objectInit ⟨#[0xb1]⟩ 1 none, .arrayClass .int, .fieldLink RX2 9 "AdvanceBook$Decree" "cuts" "[I", .fieldLink RX2 15 "AdvanceBook$Decree" "moves" "[I", .methodLink RX2 18 yX2_empty, .instanceMethod yX2_empty, .selects RX2 yX2_empty yX2_empty, .initialized RX2, .code yX2_empty cX2_empty 1 none, .fieldLink RX2 27 "AdvanceBook$Decree" "spare" "I", .fieldLink RX2 31 "AdvanceBook$Decree" "before" "I", .fieldLink RX2 34 "AdvanceBook$Decree" "lines" "I", .methodLink RX2 21 yJ7_fill_53178, .static yJ7_fill_53178, .initialized RJ7, .code yJ7_fill_53178 cJ7_fill_53178 4 none] ++ wsX20)
def wsX3_init : List Cond := .code yX3_init cX3_init 1 none :: ([.methodLink RX3 3 objectInit, .instanceMethod objectInit, .code objectInit ⟨#[0xb1]⟩ 1 none, .arrayClass .int, .fieldLink RX3 9 "AdvanceBook$Papers" "toldDebtors" "[I", .fieldLink RX3 15 "AdvanceBook$Papers" "toldCreditors" "[I", .fieldLink RX3 18 "AdvanceBook$Papers" "toldCoins" "[I", .fieldLink RX3 21 "AdvanceBook$Papers" "toldRanks" "[I", .fieldLink RX3 24 "AdvanceBook$Papers" "days" "[I", .arrayClass .boolean, .fieldLink RX3 27 "AdvanceBook$Papers" "copies" "[Z", .fieldLink RX3 31 "AdvanceBook$Papers" "debtors" "[I", .fieldLink RX3 34 "AdvanceBook$Papers" "creditors" "[I", .fieldLink RX3 37 "AdvanceBook$Papers" "ranks" "[I", .fieldLink RX3 40 "AdvanceBook$Papers" "lefts" "[I", .fieldLink RX3 43 "AdvanceBook$Papers" "size" "I"] ++ wsX30)
def wsX3_holds : List Cond := .code yX3_holds cX3_holds 2 (some .boolean) :: ([.fieldLink RX3 43 "AdvanceBook$Papers" "size" "I"] ++ wsX30)
def wsX3_isTold : List Cond := .code yX3_isTold cX3_isTold 7 (some .boolean) :: ([.fieldLink RX3 43 "AdvanceBook$Papers" "size" "I", .fieldLink RX3 9 "AdvanceBook$Papers" "toldDebtors" "[I", .fieldLink RX3 15 "AdvanceBook$Papers" "toldCreditors" "[I", .fieldLink RX3 18 "AdvanceBook$Papers" "toldCoins" "[I", .fieldLink RX3 21 "AdvanceBook$Papers" "toldRanks" "[I", .fieldLink RX3 24 "AdvanceBook$Papers" "days" "[I"] ++ wsX30)
def wsX3_write : List Cond := .code yX3_write cX3_write 8 (some .int) :: ([.fieldLink RX3 43 "AdvanceBook$Papers" "size" "I", .fieldLink RX3 9 "AdvanceBook$Papers" "toldDebtors" "[I", .fieldLink RX3 15 "AdvanceBook$Papers" "toldCreditors" "[I", .fieldLink RX3 18 "AdvanceBook$Papers" "toldCoins" "[I", .fieldLink RX3 21 "AdvanceBook$Papers" "toldRanks" "[I", .fieldLink RX3 24 "AdvanceBook$Papers" "days" "[I", .fieldLink RX3 27 "AdvanceBook$Papers" "copies" "[Z", .fieldLink RX3 31 "AdvanceBook$Papers" "debtors" "[I", .fieldLink RX3 34 "AdvanceBook$Papers" "creditors" "[I", .fieldLink RX3 37 "AdvanceBook$Papers" "ranks" "[I", .fieldLink RX3 40 "AdvanceBook$Papers" "lefts" "[I", .methodLink RX3 47 yX3_isTold, .instanceMethod yX3_isTold, .selects RX3 yX3_isTold yX3_isTold, .initialized RX3, .code yX3_isTold cX3_isTold 7 (some .boolean)] ++ wsX30)
def wsX3_tell : List Cond := .code yX3_tell cX3_tell 3 (some .int) :: ([.fieldLink RX3 31 "AdvanceBook$Papers" "debtors" "[I", .fieldLink RX3 34 "AdvanceBook$Papers" "creditors" "[I", .fieldLink RX3 18 "AdvanceBook$Papers" "toldCoins" "[I", .fieldLink RX3 37 "AdvanceBook$Papers" "ranks" "[I", .fieldLink RX3 40 "AdvanceBook$Papers" "lefts" "[I", .fieldLink RX3 24 "AdvanceBook$Papers" "days" "[I", .fieldLink RX3 27 "AdvanceBook$Papers" "copies" "[Z"] ++ wsX30)
def wsX3_handOver : List Cond := .code yX3_handOver cX3_handOver 4 none :: ([.fieldLink RX3 43 "AdvanceBook$Papers" "size" "I", .fieldLink RX3 31 "AdvanceBook$Papers" "debtors" "[I", .fieldLink RX3 34 "AdvanceBook$Papers" "creditors" "[I", .fieldLink RX3 40 "AdvanceBook$Papers" "lefts" "[I"] ++ wsX30)
def wsX3_obey : List Cond := .code yX3_obey cX3_obey 5 (some .int) :: ([.fieldLink RX3 43 "AdvanceBook$Papers" "size" "I", .fieldLink RX3 40 "AdvanceBook$Papers" "lefts" "[I", .fieldLink RX3 37 "AdvanceBook$Papers" "ranks" "[I", .fieldLink RX3 24 "AdvanceBook$Papers" "days" "[I", .methodLink RX3 51 yX2_leftOf, .instanceMethod yX2_leftOf, .selects RX2 yX2_leftOf yX2_leftOf, .initialized RX2, .code yX2_leftOf cX2_leftOf 5 (some .int), .fieldLink RX2 27 "AdvanceBook$Decree" "spare" "I", .fieldLink RX2 9 "AdvanceBook$Decree" "cuts" "[I", .methodLink RX2 37 yX2_reaches, .instanceMethod yX2_reaches, .selects RX2 yX2_reaches yX2_reaches, .code yX2_reaches cX2_reaches 2 (some .boolean), .fieldLink RX2 31 "AdvanceBook$Decree" "before" "I", .methodLink RX3 57 yX2_rankFor, .instanceMethod yX2_rankFor, .selects RX2 yX2_rankFor yX2_rankFor, .code yX2_rankFor cX2_rankFor 3 (some .int), .fieldLink RX2 15 "AdvanceBook$Decree" "moves" "[I"] ++ wsX30 ++ wsX20)
def wsX3_leftInAll : List Cond := .code yX3_leftInAll cX3_leftInAll 3 (some .int) :: ([.fieldLink RX3 43 "AdvanceBook$Papers" "size" "I", .fieldLink RX3 40 "AdvanceBook$Papers" "lefts" "[I"] ++ wsX30)
def wsX4_init : List Cond := .code yX4_init cX4_init 1 none :: ([.methodLink RX4 3 objectInit, .instanceMethod objectInit, .code objectInit ⟨#[0xb1]⟩ 1 none, .arrayClass .int, .fieldLink RX4 9 "AdvanceBook$Reader" "text" "[I", .fieldLink RX4 15 "AdvanceBook$Reader" "length" "I", .fieldLink RX4 19 "AdvanceBook$Reader" "kind" "I", .fieldLink RX4 22 "AdvanceBook$Reader" "start" "I", .fieldLink RX4 25 "AdvanceBook$Reader" "next" "I", .fieldLink RX4 28 "AdvanceBook$Reader" "fault" "I", .fieldLink RX4 31 "AdvanceBook$Reader" "faultPlace" "I"] ++ wsX40)
def wsX4_kindOf : List Cond := .code yX4_kindOf cX4_kindOf 1 (some .int) :: ([])
def wsX4_isInARow : List Cond := .code yX4_isInARow cX4_isInARow 1 (some .boolean) :: ([.fieldLink RX4 19 "AdvanceBook$Reader" "kind" "I"] ++ wsX40)
def wsX4_step : List Cond := .code yX4_step cX4_step 1 none :: ([.fieldLink RX4 25 "AdvanceBook$Reader" "next" "I", .fieldLink RX4 15 "AdvanceBook$Reader" "length" "I", .fieldLink RX4 9 "AdvanceBook$Reader" "text" "[I", .fieldLink RX4 22 "AdvanceBook$Reader" "start" "I", .fieldLink RX4 19 "AdvanceBook$Reader" "kind" "I", .methodLink RX4 122 yX4_kindOf, .static yX4_kindOf, .initialized RX4, .code yX4_kindOf cX4_kindOf 1 (some .int), .methodLink RX4 125 yX4_isInARow, .instanceMethod yX4_isInARow, .selects RX4 yX4_isInARow yX4_isInARow, .code yX4_isInARow cX4_isInARow 1 (some .boolean)] ++ wsX40)
def wsJ0_coder_7d493 : List Cond := .code yJ0_coder_7d493 cJ0_coder_7d493 1 (some .byte) :: ([.fieldLink RJ0 38 "java/lang/String" "COMPACT_STRINGS" "Z", .fieldLink RJ0 15 "java/lang/String" "coder" "B"])
def wsJ0_length_8abf5 : List Cond := .code yJ0_length_8abf5 cJ0_length_8abf5 1 (some .int) :: ([.fieldLink RJ0 9 "java/lang/String" "value" "[B", .methodLink RJ0 335 yJ0_coder_7d493, .instanceMethod yJ0_coder_7d493, .selects RJ0 yJ0_coder_7d493 yJ0_coder_7d493, .initialized RJ0, .code yJ0_coder_7d493 cJ0_coder_7d493 1 (some .byte), .fieldLink RJ0 38 "java/lang/String" "COMPACT_STRINGS" "Z", .fieldLink RJ0 15 "java/lang/String" "coder" "B"])
def wsJ0_isLatin1_aae02 : List Cond := .code yJ0_isLatin1_aae02 cJ0_isLatin1_aae02 1 (some .boolean) :: ([.fieldLink RJ0 38 "java/lang/String" "COMPACT_STRINGS" "Z", .fieldLink RJ0 15 "java/lang/String" "coder" "B"])
def wsJ3_checkIndex_8e157 : List Cond := .code yJ3_checkIndex_8e157 cJ3_checkIndex_8e157 3 (some .int) :: ([])
def wsJ0_checkIndex_df160 : List Cond := .code yJ0_checkIndex_df160 cJ0_checkIndex_df160 2 none :: ([.fieldLink RJ0 1053 "jdk/internal/util/Preconditions" "SIOOBE_FORMATTER" "Ljava/util/function/BiFunction;", .methodLink RJ0 1059 yJ3_checkIndex_8e157, .static yJ3_checkIndex_8e157, .initialized RJ3, .code yJ3_checkIndex_8e157 cJ3_checkIndex_8e157 3 (some .int)])
def wsJ1_charAt_3b067 : List Cond := .code yJ1_charAt_3b067 cJ1_charAt_3b067 2 (some .char) :: ([.methodLink RJ1 9 yJ0_checkIndex_df160, .static yJ0_checkIndex_df160, .initialized RJ0, .code yJ0_checkIndex_df160 cJ0_checkIndex_df160 2 none, .fieldLink RJ0 1053 "jdk/internal/util/Preconditions" "SIOOBE_FORMATTER" "Ljava/util/function/BiFunction;", .methodLink RJ0 1059 yJ3_checkIndex_8e157, .static yJ3_checkIndex_8e157, .initialized RJ3, .code yJ3_checkIndex_8e157 cJ3_checkIndex_8e157 3 (some .int)])
def wsJ2_length_9d52b : List Cond := .code yJ2_length_9d52b cJ2_length_9d52b 1 (some .int) :: ([])
def wsJ2_checkIndex_2214a : List Cond := .code yJ2_checkIndex_2214a cJ2_checkIndex_2214a 2 none :: ([.methodLink RJ2 48 yJ2_length_9d52b, .static yJ2_length_9d52b, .initialized RJ2, .code yJ2_length_9d52b cJ2_length_9d52b 1 (some .int), .methodLink RJ2 414 yJ0_checkIndex_df160, .static yJ0_checkIndex_df160, .initialized RJ0, .code yJ0_checkIndex_df160 cJ0_checkIndex_df160 2 none, .fieldLink RJ0 1053 "jdk/internal/util/Preconditions" "SIOOBE_FORMATTER" "Ljava/util/function/BiFunction;", .methodLink RJ0 1059 yJ3_checkIndex_8e157, .static yJ3_checkIndex_8e157, .initialized RJ3, .code yJ3_checkIndex_8e157 cJ3_checkIndex_8e157 3 (some .int)])
def wsJ2_getChar_3b067 : List Cond := .code yJ2_getChar_3b067 cJ2_getChar_3b067 2 (some .char) :: ([.fieldLink RJ2 44 "java/lang/StringUTF16" "$assertionsDisabled" "Z", .fieldLink RJ2 59 "java/lang/StringUTF16" "HI_BYTE_SHIFT" "I", .fieldLink RJ2 63 "java/lang/StringUTF16" "LO_BYTE_SHIFT" "I", .methodLink RJ2 48 yJ2_length_9d52b, .static yJ2_length_9d52b, .initialized RJ2, .code yJ2_length_9d52b cJ2_length_9d52b 1 (some .int)])
def wsJ2_charAt_3b067 : List Cond := .code yJ2_charAt_3b067 cJ2_charAt_3b067 2 (some .char) :: ([.methodLink RJ2 67 yJ2_checkIndex_2214a, .static yJ2_checkIndex_2214a, .initialized RJ2, .code yJ2_checkIndex_2214a cJ2_checkIndex_2214a 2 none, .methodLink RJ2 48 yJ2_length_9d52b, .static yJ2_length_9d52b, .code yJ2_length_9d52b cJ2_length_9d52b 1 (some .int), .methodLink RJ2 414 yJ0_checkIndex_df160, .static yJ0_checkIndex_df160, .initialized RJ0, .code yJ0_checkIndex_df160 cJ0_checkIndex_df160 2 none, .fieldLink RJ0 1053 "jdk/internal/util/Preconditions" "SIOOBE_FORMATTER" "Ljava/util/function/BiFunction;", .methodLink RJ0 1059 yJ3_checkIndex_8e157, .static yJ3_checkIndex_8e157, .initialized RJ3, .code yJ3_checkIndex_8e157 cJ3_checkIndex_8e157 3 (some .int), .methodLink RJ2 71 yJ2_getChar_3b067, .static yJ2_getChar_3b067, .code yJ2_getChar_3b067 cJ2_getChar_3b067 2 (some .char), .fieldLink RJ2 44 "java/lang/StringUTF16" "$assertionsDisabled" "Z", .fieldLink RJ2 59 "java/lang/StringUTF16" "HI_BYTE_SHIFT" "I", .fieldLink RJ2 63 "java/lang/StringUTF16" "LO_BYTE_SHIFT" "I"])
def wsJ0_charAt_5068e_r1 : List Cond := [Cond.fieldLink RJ0 9 "java/lang/String" "value" "[B", Cond.methodLink RJ0 492 yJ0_isLatin1_aae02, Cond.instanceMethod yJ0_isLatin1_aae02, Cond.selects RJ0 yJ0_isLatin1_aae02 yJ0_isLatin1_aae02, Cond.initialized RJ0, Cond.code yJ0_isLatin1_aae02 cJ0_isLatin1_aae02 1 (some .boolean), Cond.fieldLink RJ0 38 "java/lang/String" "COMPACT_STRINGS" "Z", Cond.fieldLink RJ0 15 "java/lang/String" "coder" "B", Cond.methodLink RJ0 495 yJ1_charAt_3b067, Cond.static yJ1_charAt_3b067, Cond.initialized RJ1, Cond.code yJ1_charAt_3b067 cJ1_charAt_3b067 2 (some .char), Cond.methodLink RJ1 9 yJ0_checkIndex_df160, Cond.static yJ0_checkIndex_df160, Cond.code yJ0_checkIndex_df160 cJ0_checkIndex_df160 2 none, Cond.fieldLink RJ0 1053 "jdk/internal/util/Preconditions" "SIOOBE_FORMATTER" "Ljava/util/function/BiFunction;", Cond.methodLink RJ0 1059 yJ3_checkIndex_8e157, Cond.static yJ3_checkIndex_8e157, Cond.initialized RJ3, Cond.code yJ3_checkIndex_8e157 cJ3_checkIndex_8e157 3 (some .int), Cond.methodLink RJ0 498 yJ2_charAt_3b067, Cond.static yJ2_charAt_3b067, Cond.initialized RJ2, Cond.code yJ2_charAt_3b067 cJ2_charAt_3b067 2 (some .char)]
def wsJ0_charAt_5068e_r2 : List Cond := [Cond.methodLink RJ2 67 yJ2_checkIndex_2214a, Cond.static yJ2_checkIndex_2214a, Cond.code yJ2_checkIndex_2214a cJ2_checkIndex_2214a 2 none, Cond.methodLink RJ2 48 yJ2_length_9d52b, Cond.static yJ2_length_9d52b, Cond.code yJ2_length_9d52b cJ2_length_9d52b 1 (some .int), Cond.methodLink RJ2 414 yJ0_checkIndex_df160, Cond.methodLink RJ2 71 yJ2_getChar_3b067, Cond.static yJ2_getChar_3b067, Cond.code yJ2_getChar_3b067 cJ2_getChar_3b067 2 (some .char), Cond.fieldLink RJ2 44 "java/lang/StringUTF16" "$assertionsDisabled" "Z", Cond.fieldLink RJ2 59 "java/lang/StringUTF16" "HI_BYTE_SHIFT" "I", Cond.fieldLink RJ2 63 "java/lang/StringUTF16" "LO_BYTE_SHIFT" "I"]
def wsJ0_charAt_5068e : List Cond := .code yJ0_charAt_5068e cJ0_charAt_5068e 2 (some .char) :: ((wsJ0_charAt_5068e_r1 ++ wsJ0_charAt_5068e_r2))
def wsX4_isWord_r1 : List Cond := [Cond.fieldLink RX4 19 "AdvanceBook$Reader" "kind" "I", Cond.fieldLink RX4 25 "AdvanceBook$Reader" "next" "I", Cond.fieldLink RX4 22 "AdvanceBook$Reader" "start" "I", Cond.fieldLink RX4 9 "AdvanceBook$Reader" "text" "[I", Cond.methodLink RX4 114 yJ0_length_8abf5, Cond.instanceMethod yJ0_length_8abf5, Cond.selects RJ0 yJ0_length_8abf5 yJ0_length_8abf5, Cond.initialized RJ0, Cond.code yJ0_length_8abf5 cJ0_length_8abf5 1 (some .int), Cond.fieldLink RJ0 9 "java/lang/String" "value" "[B", Cond.methodLink RJ0 335 yJ0_coder_7d493, Cond.instanceMethod yJ0_coder_7d493, Cond.selects RJ0 yJ0_coder_7d493 yJ0_coder_7d493, Cond.code yJ0_coder_7d493 cJ0_coder_7d493 1 (some .byte), Cond.fieldLink RJ0 38 "java/lang/String" "COMPACT_STRINGS" "Z", Cond.fieldLink RJ0 15 "java/lang/String" "coder" "B", Cond.methodLink RX4 118 yJ0_charAt_5068e, Cond.instanceMethod yJ0_charAt_5068e, Cond.selects RJ0 yJ0_charAt_5068e yJ0_charAt_5068e, Cond.code yJ0_charAt_5068e cJ0_charAt_5068e 2 (some .char), Cond.methodLink RJ0 492 yJ0_isLatin1_aae02, Cond.instanceMethod yJ0_isLatin1_aae02, Cond.selects RJ0 yJ0_isLatin1_aae02 yJ0_isLatin1_aae02, Cond.code yJ0_isLatin1_aae02 cJ0_isLatin1_aae02 1 (some .boolean)]
def wsX4_isWord_r2 : List Cond := [Cond.methodLink RJ0 495 yJ1_charAt_3b067, Cond.static yJ1_charAt_3b067, Cond.initialized RJ1, Cond.code yJ1_charAt_3b067 cJ1_charAt_3b067 2 (some .char), Cond.methodLink RJ1 9 yJ0_checkIndex_df160, Cond.static yJ0_checkIndex_df160, Cond.code yJ0_checkIndex_df160 cJ0_checkIndex_df160 2 none, Cond.fieldLink RJ0 1053 "jdk/internal/util/Preconditions" "SIOOBE_FORMATTER" "Ljava/util/function/BiFunction;", Cond.methodLink RJ0 1059 yJ3_checkIndex_8e157, Cond.static yJ3_checkIndex_8e157, Cond.initialized RJ3, Cond.code yJ3_checkIndex_8e157 cJ3_checkIndex_8e157 3 (some .int), Cond.methodLink RJ0 498 yJ2_charAt_3b067, Cond.static yJ2_charAt_3b067, Cond.initialized RJ2, Cond.code yJ2_charAt_3b067 cJ2_charAt_3b067 2 (some .char), Cond.methodLink RJ2 67 yJ2_checkIndex_2214a, Cond.static yJ2_checkIndex_2214a, Cond.code yJ2_checkIndex_2214a cJ2_checkIndex_2214a 2 none, Cond.methodLink RJ2 48 yJ2_length_9d52b, Cond.static yJ2_length_9d52b, Cond.code yJ2_length_9d52b cJ2_length_9d52b 1 (some .int), Cond.methodLink RJ2 414 yJ0_checkIndex_df160, Cond.methodLink RJ2 71 yJ2_getChar_3b067]
def wsX4_isWord_r3 : List Cond := [Cond.static yJ2_getChar_3b067, Cond.code yJ2_getChar_3b067 cJ2_getChar_3b067 2 (some .char), Cond.fieldLink RJ2 44 "java/lang/StringUTF16" "$assertionsDisabled" "Z", Cond.fieldLink RJ2 59 "java/lang/StringUTF16" "HI_BYTE_SHIFT" "I", Cond.fieldLink RJ2 63 "java/lang/StringUTF16" "LO_BYTE_SHIFT" "I"]
def wsX4_isWord : List Cond := .code yX4_isWord cX4_isWord 3 (some .boolean) :: ((wsX4_isWord_r1 ++ (wsX4_isWord_r2 ++ wsX4_isWord_r3)) ++ wsX40)
def wsX4_numberAtHand : List Cond := .code yX4_numberAtHand cX4_numberAtHand 3 (some .int) :: ([.fieldLink RX4 22 "AdvanceBook$Reader" "start" "I", .fieldLink RX4 25 "AdvanceBook$Reader" "next" "I", .fieldLink RX4 9 "AdvanceBook$Reader" "text" "[I"] ++ wsX40)
def wsX4_blame : List Cond := .code yX4_blame cX4_blame 2 none :: ([.fieldLink RX4 28 "AdvanceBook$Reader" "fault" "I", .fieldLink RX4 22 "AdvanceBook$Reader" "start" "I", .fieldLink RX4 31 "AdvanceBook$Reader" "faultPlace" "I"] ++ wsX40)
def wsX4_blameRankOf : List Cond := .code yX4_blameRankOf cX4_blameRankOf 3 none :: ([.fieldLink RX4 19 "AdvanceBook$Reader" "kind" "I", .methodLink RX4 110 yX4_numberAtHand, .instanceMethod yX4_numberAtHand, .selects RX4 yX4_numberAtHand yX4_numberAtHand, .initialized RX4, .code yX4_numberAtHand cX4_numberAtHand 3 (some .int), .fieldLink RX4 22 "AdvanceBook$Reader" "start" "I", .fieldLink RX4 25 "AdvanceBook$Reader" "next" "I", .fieldLink RX4 9 "AdvanceBook$Reader" "text" "[I", .methodLink RX4 82 yX4_blame, .instanceMethod yX4_blame, .selects RX4 yX4_blame yX4_blame, .code yX4_blame cX4_blame 2 none, .fieldLink RX4 28 "AdvanceBook$Reader" "fault" "I", .fieldLink RX4 31 "AdvanceBook$Reader" "faultPlace" "I"] ++ wsX40)
def wsX4_readNumber_r1 : List Cond := [Cond.fieldLink RX4 19 "AdvanceBook$Reader" "kind" "I", Cond.methodLink RX4 110 yX4_numberAtHand, Cond.instanceMethod yX4_numberAtHand, Cond.selects RX4 yX4_numberAtHand yX4_numberAtHand, Cond.initialized RX4, Cond.code yX4_numberAtHand cX4_numberAtHand 3 (some .int), Cond.fieldLink RX4 22 "AdvanceBook$Reader" "start" "I", Cond.fieldLink RX4 25 "AdvanceBook$Reader" "next" "I", Cond.fieldLink RX4 9 "AdvanceBook$Reader" "text" "[I", Cond.methodLink RX4 82 yX4_blame, Cond.instanceMethod yX4_blame, Cond.selects RX4 yX4_blame yX4_blame, Cond.code yX4_blame cX4_blame 2 none, Cond.fieldLink RX4 28 "AdvanceBook$Reader" "fault" "I", Cond.fieldLink RX4 31 "AdvanceBook$Reader" "faultPlace" "I", Cond.methodLink RX4 51 yX4_step, Cond.instanceMethod yX4_step, Cond.selects RX4 yX4_step yX4_step, Cond.code yX4_step cX4_step 1 none, Cond.fieldLink RX4 15 "AdvanceBook$Reader" "length" "I", Cond.methodLink RX4 122 yX4_kindOf, Cond.static yX4_kindOf, Cond.code yX4_kindOf cX4_kindOf 1 (some .int), Cond.methodLink RX4 125 yX4_isInARow]
def wsX4_readNumber_r2 : List Cond := [Cond.instanceMethod yX4_isInARow, Cond.selects RX4 yX4_isInARow yX4_isInARow, Cond.code yX4_isInARow cX4_isInARow 1 (some .boolean)]
def wsX4_readNumber : List Cond := .code yX4_readNumber cX4_readNumber 3 (some .int) :: ((wsX4_readNumber_r1 ++ wsX4_readNumber_r2) ++ wsX40)
def wsX4_readCut_r1 : List Cond := [Cond.methodLink RX4 51 yX4_step, Cond.instanceMethod yX4_step, Cond.selects RX4 yX4_step yX4_step, Cond.initialized RX4, Cond.code yX4_step cX4_step 1 none, Cond.fieldLink RX4 25 "AdvanceBook$Reader" "next" "I", Cond.fieldLink RX4 15 "AdvanceBook$Reader" "length" "I", Cond.fieldLink RX4 9 "AdvanceBook$Reader" "text" "[I", Cond.fieldLink RX4 22 "AdvanceBook$Reader" "start" "I", Cond.fieldLink RX4 19 "AdvanceBook$Reader" "kind" "I", Cond.methodLink RX4 122 yX4_kindOf, Cond.static yX4_kindOf, Cond.code yX4_kindOf cX4_kindOf 1 (some .int), Cond.methodLink RX4 125 yX4_isInARow, Cond.instanceMethod yX4_isInARow, Cond.selects RX4 yX4_isInARow yX4_isInARow, Cond.code yX4_isInARow cX4_isInARow 1 (some .boolean), Cond.methodLink RX4 95 yX4_blameRankOf, Cond.instanceMethod yX4_blameRankOf, Cond.selects RX4 yX4_blameRankOf yX4_blameRankOf, Cond.code yX4_blameRankOf cX4_blameRankOf 3 none, Cond.methodLink RX4 110 yX4_numberAtHand, Cond.instanceMethod yX4_numberAtHand, Cond.selects RX4 yX4_numberAtHand yX4_numberAtHand]
def wsX4_readCut_r2 : List Cond := [Cond.code yX4_numberAtHand cX4_numberAtHand 3 (some .int), Cond.methodLink RX4 82 yX4_blame, Cond.instanceMethod yX4_blame, Cond.selects RX4 yX4_blame yX4_blame, Cond.code yX4_blame cX4_blame 2 none, Cond.fieldLink RX4 28 "AdvanceBook$Reader" "fault" "I", Cond.fieldLink RX4 31 "AdvanceBook$Reader" "faultPlace" "I", Cond.methodLink RX4 99 yX4_readNumber, Cond.instanceMethod yX4_readNumber, Cond.selects RX4 yX4_readNumber yX4_readNumber, Cond.code yX4_readNumber cX4_readNumber 3 (some .int)]
def wsX4_readCut : List Cond := .code yX4_readCut cX4_readCut 3 none :: ((wsX4_readCut_r1 ++ wsX4_readCut_r2) ++ wsX20 ++ wsX40)
def wsX4_readMove_r1 : List Cond := [Cond.methodLink RX4 51 yX4_step, Cond.instanceMethod yX4_step, Cond.selects RX4 yX4_step yX4_step, Cond.initialized RX4, Cond.code yX4_step cX4_step 1 none, Cond.fieldLink RX4 25 "AdvanceBook$Reader" "next" "I", Cond.fieldLink RX4 15 "AdvanceBook$Reader" "length" "I", Cond.fieldLink RX4 9 "AdvanceBook$Reader" "text" "[I", Cond.fieldLink RX4 22 "AdvanceBook$Reader" "start" "I", Cond.fieldLink RX4 19 "AdvanceBook$Reader" "kind" "I", Cond.methodLink RX4 122 yX4_kindOf, Cond.static yX4_kindOf, Cond.code yX4_kindOf cX4_kindOf 1 (some .int), Cond.methodLink RX4 125 yX4_isInARow, Cond.instanceMethod yX4_isInARow, Cond.selects RX4 yX4_isInARow yX4_isInARow, Cond.code yX4_isInARow cX4_isInARow 1 (some .boolean), Cond.methodLink RX4 95 yX4_blameRankOf, Cond.instanceMethod yX4_blameRankOf, Cond.selects RX4 yX4_blameRankOf yX4_blameRankOf, Cond.code yX4_blameRankOf cX4_blameRankOf 3 none, Cond.methodLink RX4 110 yX4_numberAtHand, Cond.instanceMethod yX4_numberAtHand, Cond.selects RX4 yX4_numberAtHand yX4_numberAtHand]
def wsX4_readMove_r2 : List Cond := [Cond.code yX4_numberAtHand cX4_numberAtHand 3 (some .int), Cond.methodLink RX4 82 yX4_blame, Cond.instanceMethod yX4_blame, Cond.selects RX4 yX4_blame yX4_blame, Cond.code yX4_blame cX4_blame 2 none, Cond.fieldLink RX4 28 "AdvanceBook$Reader" "fault" "I", Cond.fieldLink RX4 31 "AdvanceBook$Reader" "faultPlace" "I", Cond.methodLink RX4 99 yX4_readNumber, Cond.instanceMethod yX4_readNumber, Cond.selects RX4 yX4_readNumber yX4_readNumber, Cond.code yX4_readNumber cX4_readNumber 3 (some .int)]
def wsX4_readMove : List Cond := .code yX4_readMove cX4_readMove 3 none :: ((wsX4_readMove_r1 ++ wsX4_readMove_r2) ++ wsX20 ++ wsX40)
def wsX4_readSpare_r1 : List Cond := [Cond.methodLink RX4 82 yX4_blame, Cond.instanceMethod yX4_blame, Cond.selects RX4 yX4_blame yX4_blame, Cond.initialized RX4, Cond.code yX4_blame cX4_blame 2 none, Cond.fieldLink RX4 28 "AdvanceBook$Reader" "fault" "I", Cond.fieldLink RX4 22 "AdvanceBook$Reader" "start" "I", Cond.fieldLink RX4 31 "AdvanceBook$Reader" "faultPlace" "I", Cond.methodLink RX4 51 yX4_step, Cond.instanceMethod yX4_step, Cond.selects RX4 yX4_step yX4_step, Cond.code yX4_step cX4_step 1 none, Cond.fieldLink RX4 25 "AdvanceBook$Reader" "next" "I", Cond.fieldLink RX4 15 "AdvanceBook$Reader" "length" "I", Cond.fieldLink RX4 9 "AdvanceBook$Reader" "text" "[I", Cond.fieldLink RX4 19 "AdvanceBook$Reader" "kind" "I", Cond.methodLink RX4 122 yX4_kindOf, Cond.static yX4_kindOf, Cond.code yX4_kindOf cX4_kindOf 1 (some .int), Cond.methodLink RX4 125 yX4_isInARow, Cond.instanceMethod yX4_isInARow, Cond.selects RX4 yX4_isInARow yX4_isInARow, Cond.code yX4_isInARow cX4_isInARow 1 (some .boolean), Cond.methodLink RX4 99 yX4_readNumber]
def wsX4_readSpare_r2 : List Cond := [Cond.instanceMethod yX4_readNumber, Cond.selects RX4 yX4_readNumber yX4_readNumber, Cond.code yX4_readNumber cX4_readNumber 3 (some .int), Cond.methodLink RX4 110 yX4_numberAtHand, Cond.instanceMethod yX4_numberAtHand, Cond.selects RX4 yX4_numberAtHand yX4_numberAtHand, Cond.code yX4_numberAtHand cX4_numberAtHand 3 (some .int)]
def wsX4_readSpare : List Cond := .code yX4_readSpare cX4_readSpare 2 none :: ((wsX4_readSpare_r1 ++ wsX4_readSpare_r2) ++ wsX20 ++ wsX40)
def wsX4_readBefore_r1 : List Cond := [Cond.methodLink RX4 82 yX4_blame, Cond.instanceMethod yX4_blame, Cond.selects RX4 yX4_blame yX4_blame, Cond.initialized RX4, Cond.code yX4_blame cX4_blame 2 none, Cond.fieldLink RX4 28 "AdvanceBook$Reader" "fault" "I", Cond.fieldLink RX4 22 "AdvanceBook$Reader" "start" "I", Cond.fieldLink RX4 31 "AdvanceBook$Reader" "faultPlace" "I", Cond.methodLink RX4 51 yX4_step, Cond.instanceMethod yX4_step, Cond.selects RX4 yX4_step yX4_step, Cond.code yX4_step cX4_step 1 none, Cond.fieldLink RX4 25 "AdvanceBook$Reader" "next" "I", Cond.fieldLink RX4 15 "AdvanceBook$Reader" "length" "I", Cond.fieldLink RX4 9 "AdvanceBook$Reader" "text" "[I", Cond.fieldLink RX4 19 "AdvanceBook$Reader" "kind" "I", Cond.methodLink RX4 122 yX4_kindOf, Cond.static yX4_kindOf, Cond.code yX4_kindOf cX4_kindOf 1 (some .int), Cond.methodLink RX4 125 yX4_isInARow, Cond.instanceMethod yX4_isInARow, Cond.selects RX4 yX4_isInARow yX4_isInARow, Cond.code yX4_isInARow cX4_isInARow 1 (some .boolean), Cond.methodLink RX4 99 yX4_readNumber]
def wsX4_readBefore_r2 : List Cond := [Cond.instanceMethod yX4_readNumber, Cond.selects RX4 yX4_readNumber yX4_readNumber, Cond.code yX4_readNumber cX4_readNumber 3 (some .int), Cond.methodLink RX4 110 yX4_numberAtHand, Cond.instanceMethod yX4_numberAtHand, Cond.selects RX4 yX4_numberAtHand yX4_numberAtHand, Cond.code yX4_numberAtHand cX4_numberAtHand 3 (some .int)]
def wsX4_readBefore : List Cond := .code yX4_readBefore cX4_readBefore 2 none :: ((wsX4_readBefore_r1 ++ wsX4_readBefore_r2) ++ wsX20 ++ wsX40)
def wsX4_readSemicolon : List Cond := .code yX4_readSemicolon cX4_readSemicolon 1 none :: ([.fieldLink RX4 19 "AdvanceBook$Reader" "kind" "I", .methodLink RX4 82 yX4_blame, .instanceMethod yX4_blame, .selects RX4 yX4_blame yX4_blame, .initialized RX4, .code yX4_blame cX4_blame 2 none, .fieldLink RX4 28 "AdvanceBook$Reader" "fault" "I", .fieldLink RX4 22 "AdvanceBook$Reader" "start" "I", .fieldLink RX4 31 "AdvanceBook$Reader" "faultPlace" "I", .methodLink RX4 51 yX4_step, .instanceMethod yX4_step, .selects RX4 yX4_step yX4_step, .code yX4_step cX4_step 1 none, .fieldLink RX4 25 "AdvanceBook$Reader" "next" "I", .fieldLink RX4 15 "AdvanceBook$Reader" "length" "I", .fieldLink RX4 9 "AdvanceBook$Reader" "text" "[I", .methodLink RX4 122 yX4_kindOf, .static yX4_kindOf, .code yX4_kindOf cX4_kindOf 1 (some .int), .methodLink RX4 125 yX4_isInARow, .instanceMethod yX4_isInARow, .selects RX4 yX4_isInARow yX4_isInARow, .code yX4_isInARow cX4_isInARow 1 (some .boolean)] ++ wsX40)
def wsX4_readLine_r1 : List Cond := [Cond.methodLink RX4 60 yX4_isWord, Cond.instanceMethod yX4_isWord, Cond.selects RX4 yX4_isWord yX4_isWord, Cond.initialized RX4, Cond.code yX4_isWord cX4_isWord 3 (some .boolean), Cond.fieldLink RX4 19 "AdvanceBook$Reader" "kind" "I", Cond.fieldLink RX4 25 "AdvanceBook$Reader" "next" "I", Cond.fieldLink RX4 22 "AdvanceBook$Reader" "start" "I", Cond.fieldLink RX4 9 "AdvanceBook$Reader" "text" "[I", Cond.methodLink RX4 114 yJ0_length_8abf5, Cond.instanceMethod yJ0_length_8abf5, Cond.selects RJ0 yJ0_length_8abf5 yJ0_length_8abf5, Cond.initialized RJ0, Cond.code yJ0_length_8abf5 cJ0_length_8abf5 1 (some .int), Cond.fieldLink RJ0 9 "java/lang/String" "value" "[B", Cond.methodLink RJ0 335 yJ0_coder_7d493, Cond.instanceMethod yJ0_coder_7d493, Cond.selects RJ0 yJ0_coder_7d493 yJ0_coder_7d493, Cond.code yJ0_coder_7d493 cJ0_coder_7d493 1 (some .byte), Cond.fieldLink RJ0 38 "java/lang/String" "COMPACT_STRINGS" "Z", Cond.fieldLink RJ0 15 "java/lang/String" "coder" "B", Cond.methodLink RX4 118 yJ0_charAt_5068e, Cond.instanceMethod yJ0_charAt_5068e, Cond.selects RJ0 yJ0_charAt_5068e yJ0_charAt_5068e]
def wsX4_readLine_r2 : List Cond := [Cond.code yJ0_charAt_5068e cJ0_charAt_5068e 2 (some .char), Cond.methodLink RJ0 492 yJ0_isLatin1_aae02, Cond.instanceMethod yJ0_isLatin1_aae02, Cond.selects RJ0 yJ0_isLatin1_aae02 yJ0_isLatin1_aae02, Cond.code yJ0_isLatin1_aae02 cJ0_isLatin1_aae02 1 (some .boolean), Cond.methodLink RJ0 495 yJ1_charAt_3b067, Cond.static yJ1_charAt_3b067, Cond.initialized RJ1, Cond.code yJ1_charAt_3b067 cJ1_charAt_3b067 2 (some .char), Cond.methodLink RJ1 9 yJ0_checkIndex_df160, Cond.static yJ0_checkIndex_df160, Cond.code yJ0_checkIndex_df160 cJ0_checkIndex_df160 2 none, Cond.fieldLink RJ0 1053 "jdk/internal/util/Preconditions" "SIOOBE_FORMATTER" "Ljava/util/function/BiFunction;", Cond.methodLink RJ0 1059 yJ3_checkIndex_8e157, Cond.static yJ3_checkIndex_8e157, Cond.initialized RJ3, Cond.code yJ3_checkIndex_8e157 cJ3_checkIndex_8e157 3 (some .int), Cond.methodLink RJ0 498 yJ2_charAt_3b067, Cond.static yJ2_charAt_3b067, Cond.initialized RJ2, Cond.code yJ2_charAt_3b067 cJ2_charAt_3b067 2 (some .char), Cond.methodLink RJ2 67 yJ2_checkIndex_2214a, Cond.static yJ2_checkIndex_2214a, Cond.code yJ2_checkIndex_2214a cJ2_checkIndex_2214a 2 none]
def wsX4_readLine_r3 : List Cond := [Cond.methodLink RJ2 48 yJ2_length_9d52b, Cond.static yJ2_length_9d52b, Cond.code yJ2_length_9d52b cJ2_length_9d52b 1 (some .int), Cond.methodLink RJ2 414 yJ0_checkIndex_df160, Cond.methodLink RJ2 71 yJ2_getChar_3b067, Cond.static yJ2_getChar_3b067, Cond.code yJ2_getChar_3b067 cJ2_getChar_3b067 2 (some .char), Cond.fieldLink RJ2 44 "java/lang/StringUTF16" "$assertionsDisabled" "Z", Cond.fieldLink RJ2 59 "java/lang/StringUTF16" "HI_BYTE_SHIFT" "I", Cond.fieldLink RJ2 63 "java/lang/StringUTF16" "LO_BYTE_SHIFT" "I", Cond.methodLink RX4 64 yX4_readCut, Cond.instanceMethod yX4_readCut, Cond.selects RX4 yX4_readCut yX4_readCut, Cond.code yX4_readCut cX4_readCut 3 none, Cond.methodLink RX4 51 yX4_step, Cond.instanceMethod yX4_step, Cond.selects RX4 yX4_step yX4_step, Cond.code yX4_step cX4_step 1 none, Cond.fieldLink RX4 15 "AdvanceBook$Reader" "length" "I", Cond.methodLink RX4 122 yX4_kindOf, Cond.static yX4_kindOf, Cond.code yX4_kindOf cX4_kindOf 1 (some .int), Cond.methodLink RX4 125 yX4_isInARow, Cond.instanceMethod yX4_isInARow]
def wsX4_readLine_r4 : List Cond := [Cond.selects RX4 yX4_isInARow yX4_isInARow, Cond.code yX4_isInARow cX4_isInARow 1 (some .boolean), Cond.methodLink RX4 95 yX4_blameRankOf, Cond.instanceMethod yX4_blameRankOf, Cond.selects RX4 yX4_blameRankOf yX4_blameRankOf, Cond.code yX4_blameRankOf cX4_blameRankOf 3 none, Cond.methodLink RX4 110 yX4_numberAtHand, Cond.instanceMethod yX4_numberAtHand, Cond.selects RX4 yX4_numberAtHand yX4_numberAtHand, Cond.code yX4_numberAtHand cX4_numberAtHand 3 (some .int), Cond.methodLink RX4 82 yX4_blame, Cond.instanceMethod yX4_blame, Cond.selects RX4 yX4_blame yX4_blame, Cond.code yX4_blame cX4_blame 2 none, Cond.fieldLink RX4 28 "AdvanceBook$Reader" "fault" "I", Cond.fieldLink RX4 31 "AdvanceBook$Reader" "faultPlace" "I", Cond.methodLink RX4 99 yX4_readNumber, Cond.instanceMethod yX4_readNumber, Cond.selects RX4 yX4_readNumber yX4_readNumber, Cond.code yX4_readNumber cX4_readNumber 3 (some .int), Cond.methodLink RX4 69 yX4_readMove, Cond.instanceMethod yX4_readMove, Cond.selects RX4 yX4_readMove yX4_readMove, Cond.code yX4_readMove cX4_readMove 3 none]
def wsX4_readLine_r5 : List Cond := [Cond.methodLink RX4 74 yX4_readSpare, Cond.instanceMethod yX4_readSpare, Cond.selects RX4 yX4_readSpare yX4_readSpare, Cond.code yX4_readSpare cX4_readSpare 2 none, Cond.methodLink RX4 79 yX4_readBefore, Cond.instanceMethod yX4_readBefore, Cond.selects RX4 yX4_readBefore yX4_readBefore, Cond.code yX4_readBefore cX4_readBefore 2 none, Cond.methodLink RX4 86 yX4_readSemicolon, Cond.instanceMethod yX4_readSemicolon, Cond.selects RX4 yX4_readSemicolon yX4_readSemicolon, Cond.code yX4_readSemicolon cX4_readSemicolon 1 none]
def wsX4_readLine : List Cond := .code yX4_readLine cX4_readLine 2 none :: ((wsX4_readLine_r1 ++ (wsX4_readLine_r2 ++ (wsX4_readLine_r3 ++ (wsX4_readLine_r4 ++ wsX4_readLine_r5)))) ++ wsX20 ++ wsX40)
def wsX4_read_r1 : List Cond := [Cond.methodLink RX4 37 Lib.Math.min.name, Cond.static Lib.Math.min.name, Cond.initialized "java/lang/Math", Cond.code Lib.Math.min.name Lib.Math.min.code 2 (some .int), Cond.fieldLink RX4 15 "AdvanceBook$Reader" "length" "I", Cond.fieldLink RX4 9 "AdvanceBook$Reader" "text" "[I", Cond.fieldLink RX4 25 "AdvanceBook$Reader" "next" "I", Cond.fieldLink RX4 28 "AdvanceBook$Reader" "fault" "I", Cond.fieldLink RX4 31 "AdvanceBook$Reader" "faultPlace" "I", Cond.fieldLink RX4 19 "AdvanceBook$Reader" "kind" "I", Cond.methodLink RX4 46 yX2_empty, Cond.instanceMethod yX2_empty, Cond.selects RX2 yX2_empty yX2_empty, Cond.initialized RX2, Cond.code yX2_empty cX2_empty 1 none, Cond.fieldLink RX2 9 "AdvanceBook$Decree" "cuts" "[I", Cond.fieldLink RX2 15 "AdvanceBook$Decree" "moves" "[I", Cond.fieldLink RX2 27 "AdvanceBook$Decree" "spare" "I", Cond.fieldLink RX2 31 "AdvanceBook$Decree" "before" "I", Cond.fieldLink RX2 34 "AdvanceBook$Decree" "lines" "I", Cond.methodLink RX2 21 yJ7_fill_53178, Cond.static yJ7_fill_53178, Cond.initialized RJ7, Cond.code yJ7_fill_53178 cJ7_fill_53178 4 none]
def wsX4_read_r2 : List Cond := [Cond.methodLink RX4 51 yX4_step, Cond.instanceMethod yX4_step, Cond.selects RX4 yX4_step yX4_step, Cond.initialized RX4, Cond.code yX4_step cX4_step 1 none, Cond.fieldLink RX4 22 "AdvanceBook$Reader" "start" "I", Cond.methodLink RX4 122 yX4_kindOf, Cond.static yX4_kindOf, Cond.code yX4_kindOf cX4_kindOf 1 (some .int), Cond.methodLink RX4 125 yX4_isInARow, Cond.instanceMethod yX4_isInARow, Cond.selects RX4 yX4_isInARow yX4_isInARow, Cond.code yX4_isInARow cX4_isInARow 1 (some .boolean), Cond.methodLink RX4 54 yX4_readLine, Cond.instanceMethod yX4_readLine, Cond.selects RX4 yX4_readLine yX4_readLine, Cond.code yX4_readLine cX4_readLine 2 none, Cond.methodLink RX4 60 yX4_isWord, Cond.instanceMethod yX4_isWord, Cond.selects RX4 yX4_isWord yX4_isWord, Cond.code yX4_isWord cX4_isWord 3 (some .boolean), Cond.methodLink RX4 114 yJ0_length_8abf5, Cond.instanceMethod yJ0_length_8abf5, Cond.selects RJ0 yJ0_length_8abf5 yJ0_length_8abf5]
def wsX4_read_r3 : List Cond := [Cond.initialized RJ0, Cond.code yJ0_length_8abf5 cJ0_length_8abf5 1 (some .int), Cond.fieldLink RJ0 9 "java/lang/String" "value" "[B", Cond.methodLink RJ0 335 yJ0_coder_7d493, Cond.instanceMethod yJ0_coder_7d493, Cond.selects RJ0 yJ0_coder_7d493 yJ0_coder_7d493, Cond.code yJ0_coder_7d493 cJ0_coder_7d493 1 (some .byte), Cond.fieldLink RJ0 38 "java/lang/String" "COMPACT_STRINGS" "Z", Cond.fieldLink RJ0 15 "java/lang/String" "coder" "B", Cond.methodLink RX4 118 yJ0_charAt_5068e, Cond.instanceMethod yJ0_charAt_5068e, Cond.selects RJ0 yJ0_charAt_5068e yJ0_charAt_5068e, Cond.code yJ0_charAt_5068e cJ0_charAt_5068e 2 (some .char), Cond.methodLink RJ0 492 yJ0_isLatin1_aae02, Cond.instanceMethod yJ0_isLatin1_aae02, Cond.selects RJ0 yJ0_isLatin1_aae02 yJ0_isLatin1_aae02, Cond.code yJ0_isLatin1_aae02 cJ0_isLatin1_aae02 1 (some .boolean), Cond.methodLink RJ0 495 yJ1_charAt_3b067, Cond.static yJ1_charAt_3b067, Cond.initialized RJ1, Cond.code yJ1_charAt_3b067 cJ1_charAt_3b067 2 (some .char), Cond.methodLink RJ1 9 yJ0_checkIndex_df160, Cond.static yJ0_checkIndex_df160, Cond.code yJ0_checkIndex_df160 cJ0_checkIndex_df160 2 none]
def wsX4_read_r4 : List Cond := [Cond.fieldLink RJ0 1053 "jdk/internal/util/Preconditions" "SIOOBE_FORMATTER" "Ljava/util/function/BiFunction;", Cond.methodLink RJ0 1059 yJ3_checkIndex_8e157, Cond.static yJ3_checkIndex_8e157, Cond.initialized RJ3, Cond.code yJ3_checkIndex_8e157 cJ3_checkIndex_8e157 3 (some .int), Cond.methodLink RJ0 498 yJ2_charAt_3b067, Cond.static yJ2_charAt_3b067, Cond.initialized RJ2, Cond.code yJ2_charAt_3b067 cJ2_charAt_3b067 2 (some .char), Cond.methodLink RJ2 67 yJ2_checkIndex_2214a, Cond.static yJ2_checkIndex_2214a, Cond.code yJ2_checkIndex_2214a cJ2_checkIndex_2214a 2 none, Cond.methodLink RJ2 48 yJ2_length_9d52b, Cond.static yJ2_length_9d52b, Cond.code yJ2_length_9d52b cJ2_length_9d52b 1 (some .int), Cond.methodLink RJ2 414 yJ0_checkIndex_df160, Cond.methodLink RJ2 71 yJ2_getChar_3b067, Cond.static yJ2_getChar_3b067, Cond.code yJ2_getChar_3b067 cJ2_getChar_3b067 2 (some .char), Cond.fieldLink RJ2 44 "java/lang/StringUTF16" "$assertionsDisabled" "Z", Cond.fieldLink RJ2 59 "java/lang/StringUTF16" "HI_BYTE_SHIFT" "I", Cond.fieldLink RJ2 63 "java/lang/StringUTF16" "LO_BYTE_SHIFT" "I", Cond.methodLink RX4 64 yX4_readCut, Cond.instanceMethod yX4_readCut]
def wsX4_read_r5 : List Cond := [Cond.selects RX4 yX4_readCut yX4_readCut, Cond.code yX4_readCut cX4_readCut 3 none, Cond.methodLink RX4 95 yX4_blameRankOf, Cond.instanceMethod yX4_blameRankOf, Cond.selects RX4 yX4_blameRankOf yX4_blameRankOf, Cond.code yX4_blameRankOf cX4_blameRankOf 3 none, Cond.methodLink RX4 110 yX4_numberAtHand, Cond.instanceMethod yX4_numberAtHand, Cond.selects RX4 yX4_numberAtHand yX4_numberAtHand, Cond.code yX4_numberAtHand cX4_numberAtHand 3 (some .int), Cond.methodLink RX4 82 yX4_blame, Cond.instanceMethod yX4_blame, Cond.selects RX4 yX4_blame yX4_blame, Cond.code yX4_blame cX4_blame 2 none, Cond.methodLink RX4 99 yX4_readNumber, Cond.instanceMethod yX4_readNumber, Cond.selects RX4 yX4_readNumber yX4_readNumber, Cond.code yX4_readNumber cX4_readNumber 3 (some .int), Cond.methodLink RX4 69 yX4_readMove, Cond.instanceMethod yX4_readMove, Cond.selects RX4 yX4_readMove yX4_readMove, Cond.code yX4_readMove cX4_readMove 3 none, Cond.methodLink RX4 74 yX4_readSpare, Cond.instanceMethod yX4_readSpare]
def wsX4_read_r6 : List Cond := [Cond.selects RX4 yX4_readSpare yX4_readSpare, Cond.code yX4_readSpare cX4_readSpare 2 none, Cond.methodLink RX4 79 yX4_readBefore, Cond.instanceMethod yX4_readBefore, Cond.selects RX4 yX4_readBefore yX4_readBefore, Cond.code yX4_readBefore cX4_readBefore 2 none, Cond.methodLink RX4 86 yX4_readSemicolon, Cond.instanceMethod yX4_readSemicolon, Cond.selects RX4 yX4_readSemicolon yX4_readSemicolon, Cond.code yX4_readSemicolon cX4_readSemicolon 1 none]
def wsX4_read : List Cond := .code yX4_read cX4_read 5 none :: ((wsX4_read_r1 ++ (wsX4_read_r2 ++ (wsX4_read_r3 ++ (wsX4_read_r4 ++ (wsX4_read_r5 ++ wsX4_read_r6))))) ++ wsX50 ++ wsX40 ++ wsX20)
def wsX5_init : List Cond := .code yX5_init cX5_init 1 none :: ([.methodLink RX5 3 objectInit, .instanceMethod objectInit, .code objectInit ⟨#[0xb1]⟩ 1 none, .arrayClass .int, .fieldLink RX5 9 "AdvanceBook$Tape" "bytes" "[I", .fieldLink RX5 15 "AdvanceBook$Tape" "length" "I"] ++ wsX50)
def wsX5_append : List Cond := .code yX5_append cX5_append 3 none :: ([.fieldLink RX5 15 "AdvanceBook$Tape" "length" "I", .fieldLink RX5 9 "AdvanceBook$Tape" "bytes" "[I"] ++ wsX50)
def wsX6_init_r1 : List Cond := [Cond.methodLink RX6 3 objectInit, Cond.instanceMethod objectInit, Cond.code objectInit ⟨#[0xb1]⟩ 1 none, Cond.arrayClass .int, Cond.fieldLink RX6 9 "AdvanceBook$Town" "purses" "[I", Cond.classLink RX6 15 RX3, Cond.instantiable RX3 11, Cond.initialized RX3, Cond.fieldLink RX6 18 "AdvanceBook$Town" "papers" "LAdvanceBook$Papers;", Cond.fieldLink RX6 22 "AdvanceBook$Town" "men" "I", Cond.fieldLink RX6 26 "AdvanceBook$Town" "today" "I", Cond.instanceMethod yX3_init, Cond.code yX3_init cX3_init 1 none, Cond.methodLink RX3 3 objectInit, Cond.fieldLink RX3 9 "AdvanceBook$Papers" "toldDebtors" "[I", Cond.fieldLink RX3 15 "AdvanceBook$Papers" "toldCreditors" "[I", Cond.fieldLink RX3 18 "AdvanceBook$Papers" "toldCoins" "[I", Cond.fieldLink RX3 21 "AdvanceBook$Papers" "toldRanks" "[I", Cond.fieldLink RX3 24 "AdvanceBook$Papers" "days" "[I", Cond.arrayClass .boolean, Cond.fieldLink RX3 27 "AdvanceBook$Papers" "copies" "[Z", Cond.fieldLink RX3 31 "AdvanceBook$Papers" "debtors" "[I", Cond.fieldLink RX3 34 "AdvanceBook$Papers" "creditors" "[I", Cond.fieldLink RX3 37 "AdvanceBook$Papers" "ranks" "[I"]
def wsX6_init_r2 : List Cond := [Cond.fieldLink RX3 40 "AdvanceBook$Papers" "lefts" "[I", Cond.fieldLink RX3 43 "AdvanceBook$Papers" "size" "I"]
def wsX6_init : List Cond := .code yX6_init cX6_init 1 none :: ((wsX6_init_r1 ++ wsX6_init_r2) ++ wsX60 ++ wsX30)
def wsX6_hasMan : List Cond := .code yX6_hasMan cX6_hasMan 2 (some .boolean) :: ([.fieldLink RX6 22 "AdvanceBook$Town" "men" "I"] ++ wsX60)
def wsX6_settle : List Cond := .code yX6_settle cX6_settle 2 (some .int) :: ([.fieldLink RX6 22 "AdvanceBook$Town" "men" "I", .fieldLink RX6 9 "AdvanceBook$Town" "purses" "[I"] ++ wsX60)
def wsX6_isCrew : List Cond := .code yX6_isCrew cX6_isCrew 3 (some .boolean) :: ([.fieldLink RX6 22 "AdvanceBook$Town" "men" "I"] ++ wsX60)
def wsJ6_bitCount_0f7a4 : List Cond := .code yJ6_bitCount_0f7a4 cJ6_bitCount_0f7a4 1 (some .int) :: ([.constant RJ6 265 (1431655765), .constant RJ6 266 (858993459), .constant RJ6 267 (252645135)])
def wsX6_shareBoat : List Cond := .code yX6_shareBoat cX6_shareBoat 9 (some .int) :: ([.fieldLink RX6 22 "AdvanceBook$Town" "men" "I", .fieldLink RX6 9 "AdvanceBook$Town" "purses" "[I", .methodLink RX6 29 yJ6_bitCount_0f7a4, .static yJ6_bitCount_0f7a4, .initialized RJ6, .code yJ6_bitCount_0f7a4 cJ6_bitCount_0f7a4 1 (some .int), .constant RJ6 265 (1431655765), .constant RJ6 266 (858993459), .constant RJ6 267 (252645135)] ++ wsX60)
def wsX6_handOver : List Cond := .code yX6_handOver cX6_handOver 3 none :: ([.fieldLink RX6 9 "AdvanceBook$Town" "purses" "[I", .fieldLink RX6 18 "AdvanceBook$Town" "papers" "LAdvanceBook$Papers;", .methodLink RX6 35 yX3_handOver, .instanceMethod yX3_handOver, .selects RX3 yX3_handOver yX3_handOver, .initialized RX3, .code yX3_handOver cX3_handOver 4 none, .fieldLink RX3 43 "AdvanceBook$Papers" "size" "I", .fieldLink RX3 31 "AdvanceBook$Papers" "debtors" "[I", .fieldLink RX3 34 "AdvanceBook$Papers" "creditors" "[I", .fieldLink RX3 40 "AdvanceBook$Papers" "lefts" "[I"] ++ wsX60 ++ wsX30)
def wsX6_carryOut : List Cond := .code yX6_carryOut cX6_carryOut 3 none :: ([.fieldLink RX6 22 "AdvanceBook$Town" "men" "I", .fieldLink RX6 9 "AdvanceBook$Town" "purses" "[I", .fieldLink RX6 18 "AdvanceBook$Town" "papers" "LAdvanceBook$Papers;"] ++ wsX60 ++ wsX10 ++ wsX30)
def wsX6_allPurses : List Cond := .code yX6_allPurses cX6_allPurses 3 (some .int) :: ([.fieldLink RX6 22 "AdvanceBook$Town" "men" "I", .fieldLink RX6 9 "AdvanceBook$Town" "purses" "[I"] ++ wsX60)
def wsX7_init_r1 : List Cond := [Cond.methodLink RX7 1 objectInit, Cond.instanceMethod objectInit, Cond.code objectInit ⟨#[0xb1]⟩ 1 none, Cond.classLink RX7 7 RX6, Cond.instantiable RX6 4, Cond.initialized RX6, Cond.fieldLink RX7 10 "AdvanceBook" "town" "LAdvanceBook$Town;", Cond.classLink RX7 16 RX5, Cond.instantiable RX5 2, Cond.initialized RX5, Cond.fieldLink RX7 19 "AdvanceBook" "tape" "LAdvanceBook$Tape;", Cond.classLink RX7 23 RX4, Cond.instantiable RX4 7, Cond.initialized RX4, Cond.fieldLink RX7 26 "AdvanceBook" "reader" "LAdvanceBook$Reader;", Cond.classLink RX7 30 RX0, Cond.instantiable RX0 5, Cond.initialized RX0, Cond.fieldLink RX7 33 "AdvanceBook" "balance" "LAdvanceBook$Balance;", Cond.classLink RX7 37 RX2, Cond.instantiable RX2 5, Cond.initialized RX2, Cond.fieldLink RX7 40 "AdvanceBook" "asThingsAre" "LAdvanceBook$Decree;", Cond.classLink RX7 44 RX1]
def wsX7_init_r2 : List Cond := [Cond.instantiable RX1 10, Cond.initialized RX1, Cond.fieldLink RX7 47 "AdvanceBook" "clearingAtHand" "LAdvanceBook$Clearing;", Cond.fieldLink RX7 51 "AdvanceBook" "clearingOfEnd" "LAdvanceBook$Clearing;", Cond.fieldLink RX7 54 "AdvanceBook" "decreeAtHand" "LAdvanceBook$Decree;", Cond.fieldLink RX7 57 "AdvanceBook" "draft" "LAdvanceBook$Decree;", Cond.fieldLink RX7 60 "AdvanceBook" "isDecreeAtHand" "Z", Cond.instanceMethod yX6_init, Cond.code yX6_init cX6_init 1 none, Cond.methodLink RX6 3 objectInit, Cond.arrayClass .int, Cond.fieldLink RX6 9 "AdvanceBook$Town" "purses" "[I", Cond.classLink RX6 15 RX3, Cond.instantiable RX3 11, Cond.initialized RX3, Cond.fieldLink RX6 18 "AdvanceBook$Town" "papers" "LAdvanceBook$Papers;", Cond.fieldLink RX6 22 "AdvanceBook$Town" "men" "I", Cond.fieldLink RX6 26 "AdvanceBook$Town" "today" "I", Cond.instanceMethod yX3_init, Cond.code yX3_init cX3_init 1 none, Cond.methodLink RX3 3 objectInit, Cond.fieldLink RX3 9 "AdvanceBook$Papers" "toldDebtors" "[I", Cond.fieldLink RX3 15 "AdvanceBook$Papers" "toldCreditors" "[I", Cond.fieldLink RX3 18 "AdvanceBook$Papers" "toldCoins" "[I"]
def wsX7_init_r3 : List Cond := [Cond.fieldLink RX3 21 "AdvanceBook$Papers" "toldRanks" "[I", Cond.fieldLink RX3 24 "AdvanceBook$Papers" "days" "[I", Cond.arrayClass .boolean, Cond.fieldLink RX3 27 "AdvanceBook$Papers" "copies" "[Z", Cond.fieldLink RX3 31 "AdvanceBook$Papers" "debtors" "[I", Cond.fieldLink RX3 34 "AdvanceBook$Papers" "creditors" "[I", Cond.fieldLink RX3 37 "AdvanceBook$Papers" "ranks" "[I", Cond.fieldLink RX3 40 "AdvanceBook$Papers" "lefts" "[I", Cond.fieldLink RX3 43 "AdvanceBook$Papers" "size" "I", Cond.instanceMethod yX5_init, Cond.code yX5_init cX5_init 1 none, Cond.methodLink RX5 3 objectInit, Cond.fieldLink RX5 9 "AdvanceBook$Tape" "bytes" "[I", Cond.fieldLink RX5 15 "AdvanceBook$Tape" "length" "I", Cond.instanceMethod yX4_init, Cond.code yX4_init cX4_init 1 none, Cond.methodLink RX4 3 objectInit, Cond.fieldLink RX4 9 "AdvanceBook$Reader" "text" "[I", Cond.fieldLink RX4 15 "AdvanceBook$Reader" "length" "I", Cond.fieldLink RX4 19 "AdvanceBook$Reader" "kind" "I", Cond.fieldLink RX4 22 "AdvanceBook$Reader" "start" "I", Cond.fieldLink RX4 25 "AdvanceBook$Reader" "next" "I", Cond.fieldLink RX4 28 "AdvanceBook$Reader" "fault" "I", Cond.fieldLink RX4 31 "AdvanceBook$Reader" "faultPlace" "I"]
def wsX7_init_r4 : List Cond := [Cond.instanceMethod yX0_init, Cond.code yX0_init cX0_init 1 none, Cond.methodLink RX0 3 objectInit, Cond.fieldLink RX0 9 "AdvanceBook$Balance" "open" "[I", Cond.fieldLink RX0 15 "AdvanceBook$Balance" "payers" "[I", Cond.fieldLink RX0 18 "AdvanceBook$Balance" "getters" "[I", Cond.fieldLink RX0 21 "AdvanceBook$Balance" "coins" "[I", Cond.fieldLink RX0 24 "AdvanceBook$Balance" "moves" "I", Cond.methodLink RX7 39 yX2_init, Cond.instanceMethod yX2_init, Cond.code yX2_init cX2_init 1 none, Cond.methodLink RX2 3 objectInit, Cond.fieldLink RX2 9 "AdvanceBook$Decree" "cuts" "[I", Cond.fieldLink RX2 15 "AdvanceBook$Decree" "moves" "[I", Cond.methodLink RX2 18 yX2_empty, Cond.instanceMethod yX2_empty, Cond.selects RX2 yX2_empty yX2_empty, Cond.code yX2_empty cX2_empty 1 none, Cond.fieldLink RX2 27 "AdvanceBook$Decree" "spare" "I", Cond.fieldLink RX2 31 "AdvanceBook$Decree" "before" "I", Cond.fieldLink RX2 34 "AdvanceBook$Decree" "lines" "I", Cond.methodLink RX2 21 yJ7_fill_53178, Cond.static yJ7_fill_53178, Cond.initialized RJ7]
def wsX7_init_r5 : List Cond := [Cond.code yJ7_fill_53178 cJ7_fill_53178 4 none, Cond.instanceMethod yX1_init, Cond.code yX1_init cX1_init 1 none, Cond.methodLink RX1 3 objectInit, Cond.fieldLink RX1 9 "AdvanceBook$Clearing" "paid" "[I", Cond.fieldLink RX1 15 "AdvanceBook$Clearing" "order" "[I", Cond.fieldLink RX1 18 "AdvanceBook$Clearing" "has" "[I", Cond.fieldLink RX1 21 "AdvanceBook$Clearing" "unpaid" "[I", Cond.fieldLink RX1 24 "AdvanceBook$Clearing" "failed" "[I", Cond.fieldLink RX1 27 "AdvanceBook$Clearing" "lost" "[I", Cond.fieldLink RX1 30 "AdvanceBook$Clearing" "lastInOrder" "[I", Cond.fieldLink RX1 33 "AdvanceBook$Clearing" "men" "I", Cond.fieldLink RX1 37 "AdvanceBook$Clearing" "papers" "I", Cond.fieldLink RX1 40 "AdvanceBook$Clearing" "rounds" "I"]
def wsX7_init : List Cond := .code yX7_init cX7_init 1 none :: ((wsX7_init_r1 ++ (wsX7_init_r2 ++ (wsX7_init_r3 ++ (wsX7_init_r4 ++ wsX7_init_r5)))) ++ wsX60 ++ wsX70 ++ wsX50 ++ wsX40 ++ wsX00 ++ wsX20 ++ wsX10 ++ wsX30)
def wsX7_feed : List Cond := .code yX7_feed cX7_feed 6 (some .int) :: ([.fieldLink RX7 19 "AdvanceBook" "tape" "LAdvanceBook$Tape;", .methodLink RX7 68 yX5_append, .instanceMethod yX5_append, .selects RX5 yX5_append yX5_append, .initialized RX5, .code yX5_append cX5_append 3 none, .fieldLink RX5 15 "AdvanceBook$Tape" "length" "I", .fieldLink RX5 9 "AdvanceBook$Tape" "bytes" "[I"] ++ wsX70 ++ wsX50)
def wsX7_man : List Cond := .code yX7_man cX7_man 2 (some .int) :: ([.constant RX7 72 (99999), .fieldLink RX7 10 "AdvanceBook" "town" "LAdvanceBook$Town;", .methodLink RX7 73 yX6_settle, .instanceMethod yX6_settle, .selects RX6 yX6_settle yX6_settle, .initialized RX6, .code yX6_settle cX6_settle 2 (some .int), .fieldLink RX6 22 "AdvanceBook$Town" "men" "I", .fieldLink RX6 9 "AdvanceBook$Town" "purses" "[I"] ++ wsX70 ++ wsX60)
def wsX7_paper_r1 : List Cond := [Cond.fieldLink RX7 10 "AdvanceBook" "town" "LAdvanceBook$Town;", Cond.methodLink RX7 77 yX6_hasMan, Cond.instanceMethod yX6_hasMan, Cond.selects RX6 yX6_hasMan yX6_hasMan, Cond.initialized RX6, Cond.code yX6_hasMan cX6_hasMan 2 (some .boolean), Cond.fieldLink RX6 22 "AdvanceBook$Town" "men" "I", Cond.methodLink RX7 88 yX3_write, Cond.instanceMethod yX3_write, Cond.selects RX3 yX3_write yX3_write, Cond.initialized RX3, Cond.code yX3_write cX3_write 8 (some .int), Cond.fieldLink RX3 43 "AdvanceBook$Papers" "size" "I", Cond.fieldLink RX3 9 "AdvanceBook$Papers" "toldDebtors" "[I", Cond.fieldLink RX3 15 "AdvanceBook$Papers" "toldCreditors" "[I", Cond.fieldLink RX3 18 "AdvanceBook$Papers" "toldCoins" "[I", Cond.fieldLink RX3 21 "AdvanceBook$Papers" "toldRanks" "[I", Cond.fieldLink RX3 24 "AdvanceBook$Papers" "days" "[I", Cond.fieldLink RX3 27 "AdvanceBook$Papers" "copies" "[Z", Cond.fieldLink RX3 31 "AdvanceBook$Papers" "debtors" "[I", Cond.fieldLink RX3 34 "AdvanceBook$Papers" "creditors" "[I", Cond.fieldLink RX3 37 "AdvanceBook$Papers" "ranks" "[I", Cond.fieldLink RX3 40 "AdvanceBook$Papers" "lefts" "[I", Cond.methodLink RX3 47 yX3_isTold]
def wsX7_paper_r2 : List Cond := [Cond.instanceMethod yX3_isTold, Cond.selects RX3 yX3_isTold yX3_isTold, Cond.code yX3_isTold cX3_isTold 7 (some .boolean)]
def wsX7_paper : List Cond := .code yX7_paper cX7_paper 5 (some .int) :: ((wsX7_paper_r1 ++ wsX7_paper_r2) ++ wsX70 ++ wsX60 ++ wsX30)
def wsX7_look : List Cond := .code yX7_look cX7_look 3 (some .int) :: ([.classLink RX7 97 "java/lang/IndexOutOfBoundsException", .initialized "java/lang/IndexOutOfBoundsException", .classLink RX7 104 "java/util/NoSuchElementException", .initialized "java/util/NoSuchElementException", .fieldLink RX7 10 "AdvanceBook" "town" "LAdvanceBook$Town;", .methodLink RX7 94 yX3_holds, .instanceMethod yX3_holds, .selects RX3 yX3_holds yX3_holds, .initialized RX3, .code yX3_holds cX3_holds 2 (some .boolean), .fieldLink RX3 43 "AdvanceBook$Papers" "size" "I", .methodLink RX7 109 yX3_tell, .instanceMethod yX3_tell, .selects RX3 yX3_tell yX3_tell, .code yX3_tell cX3_tell 3 (some .int), .fieldLink RX3 31 "AdvanceBook$Papers" "debtors" "[I", .fieldLink RX3 34 "AdvanceBook$Papers" "creditors" "[I", .fieldLink RX3 18 "AdvanceBook$Papers" "toldCoins" "[I", .fieldLink RX3 37 "AdvanceBook$Papers" "ranks" "[I", .fieldLink RX3 40 "AdvanceBook$Papers" "lefts" "[I", .fieldLink RX3 24 "AdvanceBook$Papers" "days" "[I", .fieldLink RX3 27 "AdvanceBook$Papers" "copies" "[Z"] ++ wsX70 ++ wsX60 ++ wsX30 ++ (vx_atS RX7 101 "java/lang/IndexOutOfBoundsException" ["java/lang/RuntimeException", "java/lang/Exception"]).filter goodWord ++ (vx_atS RX7 108 "java/util/NoSuchElementException" ["java/lang/RuntimeException", "java/lang/Exception"]).filter goodWord)
def wsX7_pass : List Cond := .code yX7_pass cX7_pass 2 (some .int) :: ([.fieldLink RX7 10 "AdvanceBook" "town" "LAdvanceBook$Town;"] ++ wsX70 ++ wsX60)
def wsX7_purse : List Cond := .code yX7_purse cX7_purse 2 (some .int) :: ([.fieldLink RX7 10 "AdvanceBook" "town" "LAdvanceBook$Town;", .methodLink RX7 77 yX6_hasMan, .instanceMethod yX6_hasMan, .selects RX6 yX6_hasMan yX6_hasMan, .initialized RX6, .code yX6_hasMan cX6_hasMan 2 (some .boolean), .fieldLink RX6 22 "AdvanceBook$Town" "men" "I"] ++ wsX70 ++ wsX60)
def wsX7_net : List Cond := .code yX7_net cX7_net 2 (some .int) :: ([.fieldLink RX7 10 "AdvanceBook" "town" "LAdvanceBook$Town;", .constant RX7 122 (-2147483648), .methodLink RX7 77 yX6_hasMan, .instanceMethod yX6_hasMan, .selects RX6 yX6_hasMan yX6_hasMan, .initialized RX6, .code yX6_hasMan cX6_hasMan 2 (some .boolean), .fieldLink RX6 22 "AdvanceBook$Town" "men" "I", .methodLink RX7 117 yX3_netOf, .instanceMethod yX3_netOf, .selects RX3 yX3_netOf yX3_netOf, .initialized RX3, .code yX3_netOf cX3_netOf 4 (some .int), .fieldLink RX3 43 "AdvanceBook$Papers" "size" "I", .fieldLink RX3 34 "AdvanceBook$Papers" "creditors" "[I", .fieldLink RX3 40 "AdvanceBook$Papers" "lefts" "[I", .fieldLink RX3 31 "AdvanceBook$Papers" "debtors" "[I"] ++ wsX70 ++ wsX60 ++ wsX30)
def wsX7_thread_r1 : List Cond := [Cond.fieldLink RX7 33 "AdvanceBook" "balance" "LAdvanceBook$Balance;", Cond.fieldLink RX7 10 "AdvanceBook" "town" "LAdvanceBook$Town;", Cond.methodLink RX7 123 yX0_workOut, Cond.instanceMethod yX0_workOut, Cond.selects RX0 yX0_workOut yX0_workOut, Cond.initialized RX0, Cond.code yX0_workOut cX0_workOut 4 none, Cond.fieldLink RX0 24 "AdvanceBook$Balance" "moves" "I", Cond.fieldLink RX0 9 "AdvanceBook$Balance" "open" "[I", Cond.methodLink RX0 37 yX3_netOf, Cond.instanceMethod yX3_netOf, Cond.selects RX3 yX3_netOf yX3_netOf, Cond.initialized RX3, Cond.code yX3_netOf cX3_netOf 4 (some .int), Cond.fieldLink RX3 43 "AdvanceBook$Papers" "size" "I", Cond.fieldLink RX3 34 "AdvanceBook$Papers" "creditors" "[I", Cond.fieldLink RX3 40 "AdvanceBook$Papers" "lefts" "[I", Cond.fieldLink RX3 31 "AdvanceBook$Papers" "debtors" "[I", Cond.methodLink RX0 43 yX0_addMove, Cond.instanceMethod yX0_addMove, Cond.selects RX0 yX0_addMove yX0_addMove, Cond.code yX0_addMove cX0_addMove 4 none, Cond.methodLink RX0 47 Lib.Math.min.name, Cond.static Lib.Math.min.name]
def wsX7_thread_r2 : List Cond := [Cond.initialized "java/lang/Math", Cond.code Lib.Math.min.name Lib.Math.min.code 2 (some .int), Cond.fieldLink RX0 15 "AdvanceBook$Balance" "payers" "[I", Cond.fieldLink RX0 18 "AdvanceBook$Balance" "getters" "[I", Cond.fieldLink RX0 21 "AdvanceBook$Balance" "coins" "[I", Cond.methodLink RX7 127 yX0_coinsMoved, Cond.instanceMethod yX0_coinsMoved, Cond.selects RX0 yX0_coinsMoved yX0_coinsMoved, Cond.code yX0_coinsMoved cX0_coinsMoved 3 (some .int)]
def wsX7_thread : List Cond := .code yX7_thread cX7_thread 1 (some .int) :: ((wsX7_thread_r1 ++ wsX7_thread_r2) ++ wsX70 ++ wsX00 ++ wsX60 ++ wsX30)
def wsX7_move_r1 : List Cond := [Cond.fieldLink RX7 33 "AdvanceBook" "balance" "LAdvanceBook$Balance;", Cond.fieldLink RX7 10 "AdvanceBook" "town" "LAdvanceBook$Town;", Cond.methodLink RX7 123 yX0_workOut, Cond.instanceMethod yX0_workOut, Cond.selects RX0 yX0_workOut yX0_workOut, Cond.initialized RX0, Cond.code yX0_workOut cX0_workOut 4 none, Cond.fieldLink RX0 24 "AdvanceBook$Balance" "moves" "I", Cond.fieldLink RX0 9 "AdvanceBook$Balance" "open" "[I", Cond.methodLink RX0 37 yX3_netOf, Cond.instanceMethod yX3_netOf, Cond.selects RX3 yX3_netOf yX3_netOf, Cond.initialized RX3, Cond.code yX3_netOf cX3_netOf 4 (some .int), Cond.fieldLink RX3 43 "AdvanceBook$Papers" "size" "I", Cond.fieldLink RX3 34 "AdvanceBook$Papers" "creditors" "[I", Cond.fieldLink RX3 40 "AdvanceBook$Papers" "lefts" "[I", Cond.fieldLink RX3 31 "AdvanceBook$Papers" "debtors" "[I", Cond.methodLink RX0 43 yX0_addMove, Cond.instanceMethod yX0_addMove, Cond.selects RX0 yX0_addMove yX0_addMove, Cond.code yX0_addMove cX0_addMove 4 none, Cond.methodLink RX0 47 Lib.Math.min.name, Cond.static Lib.Math.min.name]
def wsX7_move_r2 : List Cond := [Cond.initialized "java/lang/Math", Cond.code Lib.Math.min.name Lib.Math.min.code 2 (some .int), Cond.fieldLink RX0 15 "AdvanceBook$Balance" "payers" "[I", Cond.fieldLink RX0 18 "AdvanceBook$Balance" "getters" "[I", Cond.fieldLink RX0 21 "AdvanceBook$Balance" "coins" "[I", Cond.methodLink RX7 131 yX0_tell, Cond.instanceMethod yX0_tell, Cond.selects RX0 yX0_tell yX0_tell, Cond.code yX0_tell cX0_tell 3 (some .int)]
def wsX7_move : List Cond := .code yX7_move cX7_move 3 (some .int) :: ((wsX7_move_r1 ++ wsX7_move_r2) ++ wsX70 ++ wsX00 ++ wsX60 ++ wsX30)
def wsX7_boat : List Cond := .code yX7_boat cX7_boat 5 (some .int) :: ([.fieldLink RX7 10 "AdvanceBook" "town" "LAdvanceBook$Town;", .methodLink RX7 77 yX6_hasMan, .instanceMethod yX6_hasMan, .selects RX6 yX6_hasMan yX6_hasMan, .initialized RX6, .code yX6_hasMan cX6_hasMan 2 (some .boolean), .fieldLink RX6 22 "AdvanceBook$Town" "men" "I", .methodLink RX7 132 yX6_isCrew, .instanceMethod yX6_isCrew, .selects RX6 yX6_isCrew yX6_isCrew, .code yX6_isCrew cX6_isCrew 3 (some .boolean), .methodLink RX7 136 yX6_shareBoat, .instanceMethod yX6_shareBoat, .selects RX6 yX6_shareBoat yX6_shareBoat, .code yX6_shareBoat cX6_shareBoat 9 (some .int), .fieldLink RX6 9 "AdvanceBook$Town" "purses" "[I", .methodLink RX6 29 yJ6_bitCount_0f7a4, .static yJ6_bitCount_0f7a4, .initialized RJ6, .code yJ6_bitCount_0f7a4 cJ6_bitCount_0f7a4 1 (some .int), .constant RJ6 265 (1431655765), .constant RJ6 266 (858993459), .constant RJ6 267 (252645135)] ++ wsX70 ++ wsX60)
def wsX7_heir : List Cond := .code yX7_heir cX7_heir 3 (some .boolean) :: ([.fieldLink RX7 10 "AdvanceBook" "town" "LAdvanceBook$Town;", .methodLink RX7 77 yX6_hasMan, .instanceMethod yX6_hasMan, .selects RX6 yX6_hasMan yX6_hasMan, .initialized RX6, .code yX6_hasMan cX6_hasMan 2 (some .boolean), .fieldLink RX6 22 "AdvanceBook$Town" "men" "I", .methodLink RX7 140 yX6_handOver, .instanceMethod yX6_handOver, .selects RX6 yX6_handOver yX6_handOver, .code yX6_handOver cX6_handOver 3 none, .fieldLink RX6 9 "AdvanceBook$Town" "purses" "[I", .fieldLink RX6 18 "AdvanceBook$Town" "papers" "LAdvanceBook$Papers;", .methodLink RX6 35 yX3_handOver, .instanceMethod yX3_handOver, .selects RX3 yX3_handOver yX3_handOver, .initialized RX3, .code yX3_handOver cX3_handOver 4 none, .fieldLink RX3 43 "AdvanceBook$Papers" "size" "I", .fieldLink RX3 31 "AdvanceBook$Papers" "debtors" "[I", .fieldLink RX3 34 "AdvanceBook$Papers" "creditors" "[I", .fieldLink RX3 40 "AdvanceBook$Papers" "lefts" "[I"] ++ wsX70 ++ wsX60 ++ wsX30)
def wsX7_decree_r1 : List Cond := [Cond.fieldLink RX7 19 "AdvanceBook" "tape" "LAdvanceBook$Tape;", Cond.fieldLink RX7 26 "AdvanceBook" "reader" "LAdvanceBook$Reader;", Cond.fieldLink RX7 57 "AdvanceBook" "draft" "LAdvanceBook$Decree;", Cond.fieldLink RX7 54 "AdvanceBook" "decreeAtHand" "LAdvanceBook$Decree;", Cond.fieldLink RX7 60 "AdvanceBook" "isDecreeAtHand" "Z", Cond.methodLink RX7 144 yX4_read, Cond.instanceMethod yX4_read, Cond.selects RX4 yX4_read yX4_read, Cond.initialized RX4, Cond.code yX4_read cX4_read 5 none, Cond.methodLink RX4 37 Lib.Math.min.name, Cond.static Lib.Math.min.name, Cond.initialized "java/lang/Math", Cond.code Lib.Math.min.name Lib.Math.min.code 2 (some .int), Cond.fieldLink RX4 15 "AdvanceBook$Reader" "length" "I", Cond.fieldLink RX4 9 "AdvanceBook$Reader" "text" "[I", Cond.fieldLink RX4 25 "AdvanceBook$Reader" "next" "I", Cond.fieldLink RX4 28 "AdvanceBook$Reader" "fault" "I", Cond.fieldLink RX4 31 "AdvanceBook$Reader" "faultPlace" "I", Cond.fieldLink RX4 19 "AdvanceBook$Reader" "kind" "I", Cond.methodLink RX4 46 yX2_empty, Cond.instanceMethod yX2_empty, Cond.selects RX2 yX2_empty yX2_empty, Cond.initialized RX2]
def wsX7_decree_r2 : List Cond := [Cond.code yX2_empty cX2_empty 1 none, Cond.fieldLink RX2 9 "AdvanceBook$Decree" "cuts" "[I", Cond.fieldLink RX2 15 "AdvanceBook$Decree" "moves" "[I", Cond.fieldLink RX2 27 "AdvanceBook$Decree" "spare" "I", Cond.fieldLink RX2 31 "AdvanceBook$Decree" "before" "I", Cond.fieldLink RX2 34 "AdvanceBook$Decree" "lines" "I", Cond.methodLink RX2 21 yJ7_fill_53178, Cond.static yJ7_fill_53178, Cond.initialized RJ7, Cond.code yJ7_fill_53178 cJ7_fill_53178 4 none, Cond.methodLink RX4 51 yX4_step, Cond.instanceMethod yX4_step, Cond.selects RX4 yX4_step yX4_step, Cond.code yX4_step cX4_step 1 none, Cond.fieldLink RX4 22 "AdvanceBook$Reader" "start" "I", Cond.methodLink RX4 122 yX4_kindOf, Cond.static yX4_kindOf, Cond.code yX4_kindOf cX4_kindOf 1 (some .int), Cond.methodLink RX4 125 yX4_isInARow, Cond.instanceMethod yX4_isInARow, Cond.selects RX4 yX4_isInARow yX4_isInARow, Cond.code yX4_isInARow cX4_isInARow 1 (some .boolean), Cond.methodLink RX4 54 yX4_readLine, Cond.instanceMethod yX4_readLine]
def wsX7_decree_r3 : List Cond := [Cond.selects RX4 yX4_readLine yX4_readLine, Cond.code yX4_readLine cX4_readLine 2 none, Cond.methodLink RX4 60 yX4_isWord, Cond.instanceMethod yX4_isWord, Cond.selects RX4 yX4_isWord yX4_isWord, Cond.code yX4_isWord cX4_isWord 3 (some .boolean), Cond.methodLink RX4 114 yJ0_length_8abf5, Cond.instanceMethod yJ0_length_8abf5, Cond.selects RJ0 yJ0_length_8abf5 yJ0_length_8abf5, Cond.initialized RJ0, Cond.code yJ0_length_8abf5 cJ0_length_8abf5 1 (some .int), Cond.fieldLink RJ0 9 "java/lang/String" "value" "[B", Cond.methodLink RJ0 335 yJ0_coder_7d493, Cond.instanceMethod yJ0_coder_7d493, Cond.selects RJ0 yJ0_coder_7d493 yJ0_coder_7d493, Cond.code yJ0_coder_7d493 cJ0_coder_7d493 1 (some .byte), Cond.fieldLink RJ0 38 "java/lang/String" "COMPACT_STRINGS" "Z", Cond.fieldLink RJ0 15 "java/lang/String" "coder" "B", Cond.methodLink RX4 118 yJ0_charAt_5068e, Cond.instanceMethod yJ0_charAt_5068e, Cond.selects RJ0 yJ0_charAt_5068e yJ0_charAt_5068e, Cond.code yJ0_charAt_5068e cJ0_charAt_5068e 2 (some .char), Cond.methodLink RJ0 492 yJ0_isLatin1_aae02, Cond.instanceMethod yJ0_isLatin1_aae02]
def wsX7_decree_r4 : List Cond := [Cond.selects RJ0 yJ0_isLatin1_aae02 yJ0_isLatin1_aae02, Cond.code yJ0_isLatin1_aae02 cJ0_isLatin1_aae02 1 (some .boolean), Cond.methodLink RJ0 495 yJ1_charAt_3b067, Cond.static yJ1_charAt_3b067, Cond.initialized RJ1, Cond.code yJ1_charAt_3b067 cJ1_charAt_3b067 2 (some .char), Cond.methodLink RJ1 9 yJ0_checkIndex_df160, Cond.static yJ0_checkIndex_df160, Cond.code yJ0_checkIndex_df160 cJ0_checkIndex_df160 2 none, Cond.fieldLink RJ0 1053 "jdk/internal/util/Preconditions" "SIOOBE_FORMATTER" "Ljava/util/function/BiFunction;", Cond.methodLink RJ0 1059 yJ3_checkIndex_8e157, Cond.static yJ3_checkIndex_8e157, Cond.initialized RJ3, Cond.code yJ3_checkIndex_8e157 cJ3_checkIndex_8e157 3 (some .int), Cond.methodLink RJ0 498 yJ2_charAt_3b067, Cond.static yJ2_charAt_3b067, Cond.initialized RJ2, Cond.code yJ2_charAt_3b067 cJ2_charAt_3b067 2 (some .char), Cond.methodLink RJ2 67 yJ2_checkIndex_2214a, Cond.static yJ2_checkIndex_2214a, Cond.code yJ2_checkIndex_2214a cJ2_checkIndex_2214a 2 none, Cond.methodLink RJ2 48 yJ2_length_9d52b, Cond.static yJ2_length_9d52b, Cond.code yJ2_length_9d52b cJ2_length_9d52b 1 (some .int)]
def wsX7_decree_r5 : List Cond := [Cond.methodLink RJ2 414 yJ0_checkIndex_df160, Cond.methodLink RJ2 71 yJ2_getChar_3b067, Cond.static yJ2_getChar_3b067, Cond.code yJ2_getChar_3b067 cJ2_getChar_3b067 2 (some .char), Cond.fieldLink RJ2 44 "java/lang/StringUTF16" "$assertionsDisabled" "Z", Cond.fieldLink RJ2 59 "java/lang/StringUTF16" "HI_BYTE_SHIFT" "I", Cond.fieldLink RJ2 63 "java/lang/StringUTF16" "LO_BYTE_SHIFT" "I", Cond.methodLink RX4 64 yX4_readCut, Cond.instanceMethod yX4_readCut, Cond.selects RX4 yX4_readCut yX4_readCut, Cond.code yX4_readCut cX4_readCut 3 none, Cond.methodLink RX4 95 yX4_blameRankOf, Cond.instanceMethod yX4_blameRankOf, Cond.selects RX4 yX4_blameRankOf yX4_blameRankOf, Cond.code yX4_blameRankOf cX4_blameRankOf 3 none, Cond.methodLink RX4 110 yX4_numberAtHand, Cond.instanceMethod yX4_numberAtHand, Cond.selects RX4 yX4_numberAtHand yX4_numberAtHand, Cond.code yX4_numberAtHand cX4_numberAtHand 3 (some .int), Cond.methodLink RX4 82 yX4_blame, Cond.instanceMethod yX4_blame, Cond.selects RX4 yX4_blame yX4_blame, Cond.code yX4_blame cX4_blame 2 none, Cond.methodLink RX4 99 yX4_readNumber]
def wsX7_decree_r6 : List Cond := [Cond.instanceMethod yX4_readNumber, Cond.selects RX4 yX4_readNumber yX4_readNumber, Cond.code yX4_readNumber cX4_readNumber 3 (some .int), Cond.methodLink RX4 69 yX4_readMove, Cond.instanceMethod yX4_readMove, Cond.selects RX4 yX4_readMove yX4_readMove, Cond.code yX4_readMove cX4_readMove 3 none, Cond.methodLink RX4 74 yX4_readSpare, Cond.instanceMethod yX4_readSpare, Cond.selects RX4 yX4_readSpare yX4_readSpare, Cond.code yX4_readSpare cX4_readSpare 2 none, Cond.methodLink RX4 79 yX4_readBefore, Cond.instanceMethod yX4_readBefore, Cond.selects RX4 yX4_readBefore yX4_readBefore, Cond.code yX4_readBefore cX4_readBefore 2 none, Cond.methodLink RX4 86 yX4_readSemicolon, Cond.instanceMethod yX4_readSemicolon, Cond.selects RX4 yX4_readSemicolon yX4_readSemicolon, Cond.code yX4_readSemicolon cX4_readSemicolon 1 none]
def wsX7_decree : List Cond := .code yX7_decree cX7_decree 3 (some .int) :: ((wsX7_decree_r1 ++ (wsX7_decree_r2 ++ (wsX7_decree_r3 ++ (wsX7_decree_r4 ++ (wsX7_decree_r5 ++ wsX7_decree_r6))))) ++ wsX70 ++ wsX50 ++ wsX40 ++ wsX20)
def wsX7_fault : List Cond := .code yX7_fault cX7_fault 2 (some .int) :: ([.fieldLink RX7 26 "AdvanceBook" "reader" "LAdvanceBook$Reader;"] ++ wsX70 ++ wsX40)
def wsX7_clear_r1 : List Cond := [Cond.fieldLink RX7 47 "AdvanceBook" "clearingAtHand" "LAdvanceBook$Clearing;", Cond.fieldLink RX7 10 "AdvanceBook" "town" "LAdvanceBook$Town;", Cond.fieldLink RX7 60 "AdvanceBook" "isDecreeAtHand" "Z", Cond.fieldLink RX7 54 "AdvanceBook" "decreeAtHand" "LAdvanceBook$Decree;", Cond.fieldLink RX7 40 "AdvanceBook" "asThingsAre" "LAdvanceBook$Decree;", Cond.methodLink RX7 157 yX1_work, Cond.instanceMethod yX1_work, Cond.selects RX1 yX1_work yX1_work, Cond.initialized RX1, Cond.code yX1_work cX1_work 5 none, Cond.constant RX1 59 (39961), Cond.fieldLink RX1 40 "AdvanceBook$Clearing" "rounds" "I", Cond.methodLink RX1 43 yX1_takeStock, Cond.instanceMethod yX1_takeStock, Cond.selects RX1 yX1_takeStock yX1_takeStock, Cond.code yX1_takeStock cX1_takeStock 3 none, Cond.fieldLink RX1 33 "AdvanceBook$Clearing" "men" "I", Cond.fieldLink RX1 37 "AdvanceBook$Clearing" "papers" "I", Cond.fieldLink RX1 18 "AdvanceBook$Clearing" "has" "[I", Cond.fieldLink RX1 21 "AdvanceBook$Clearing" "unpaid" "[I", Cond.fieldLink RX1 24 "AdvanceBook$Clearing" "failed" "[I", Cond.fieldLink RX1 27 "AdvanceBook$Clearing" "lost" "[I", Cond.fieldLink RX1 30 "AdvanceBook$Clearing" "lastInOrder" "[I", Cond.methodLink RX1 52 yX1_takeAllAsPaid]
def wsX7_clear_r2 : List Cond := [Cond.instanceMethod yX1_takeAllAsPaid, Cond.selects RX1 yX1_takeAllAsPaid yX1_takeAllAsPaid, Cond.code yX1_takeAllAsPaid cX1_takeAllAsPaid 5 none, Cond.fieldLink RX1 9 "AdvanceBook$Clearing" "paid" "[I", Cond.methodLink RX1 82 yX2_leftOf, Cond.instanceMethod yX2_leftOf, Cond.selects RX2 yX2_leftOf yX2_leftOf, Cond.initialized RX2, Cond.code yX2_leftOf cX2_leftOf 5 (some .int), Cond.fieldLink RX2 27 "AdvanceBook$Decree" "spare" "I", Cond.fieldLink RX2 9 "AdvanceBook$Decree" "cuts" "[I", Cond.methodLink RX2 37 yX2_reaches, Cond.instanceMethod yX2_reaches, Cond.selects RX2 yX2_reaches yX2_reaches, Cond.code yX2_reaches cX2_reaches 2 (some .boolean), Cond.fieldLink RX2 31 "AdvanceBook$Decree" "before" "I", Cond.methodLink RX1 56 yX1_putInOrder, Cond.instanceMethod yX1_putInOrder, Cond.selects RX1 yX1_putInOrder yX1_putInOrder, Cond.code yX1_putInOrder cX1_putInOrder 6 none, Cond.fieldLink RX1 15 "AdvanceBook$Clearing" "order" "[I", Cond.methodLink RX1 94 yX2_rankFor, Cond.instanceMethod yX2_rankFor, Cond.selects RX2 yX2_rankFor yX2_rankFor]
def wsX7_clear_r3 : List Cond := [Cond.code yX2_rankFor cX2_rankFor 3 (some .int), Cond.fieldLink RX2 15 "AdvanceBook$Decree" "moves" "[I", Cond.methodLink RX1 60 yX1_goRound, Cond.instanceMethod yX1_goRound, Cond.selects RX1 yX1_goRound yX1_goRound, Cond.code yX1_goRound cX1_goRound 5 (some .boolean), Cond.methodLink RX1 98 yX1_payLess, Cond.instanceMethod yX1_payLess, Cond.selects RX1 yX1_payLess yX1_payLess, Cond.code yX1_payLess cX1_payLess 8 none, Cond.methodLink RX1 105 Lib.Math.min.name, Cond.static Lib.Math.min.name, Cond.initialized "java/lang/Math", Cond.code Lib.Math.min.name Lib.Math.min.code 2 (some .int), Cond.methodLink RX1 102 yX1_loseWhatIsNotPaid, Cond.instanceMethod yX1_loseWhatIsNotPaid, Cond.selects RX1 yX1_loseWhatIsNotPaid yX1_loseWhatIsNotPaid, Cond.code yX1_loseWhatIsNotPaid cX1_loseWhatIsNotPaid 2 none, Cond.methodLink RX7 161 yX1_menFailed, Cond.instanceMethod yX1_menFailed, Cond.selects RX1 yX1_menFailed yX1_menFailed, Cond.code yX1_menFailed cX1_menFailed 3 (some .int)]
def wsX7_clear : List Cond := .code yX7_clear cX7_clear 2 (some .int) :: ((wsX7_clear_r1 ++ (wsX7_clear_r2 ++ wsX7_clear_r3)) ++ wsX70 ++ wsX60 ++ wsX10 ++ wsX30 ++ wsX20)
def wsX7_cleared : List Cond := .code yX7_cleared cX7_cleared 3 (some .int) :: ([.fieldLink RX7 47 "AdvanceBook" "clearingAtHand" "LAdvanceBook$Clearing;", .methodLink RX7 164 yX1_tell, .instanceMethod yX1_tell, .selects RX1 yX1_tell yX1_tell, .initialized RX1, .code yX1_tell cX1_tell 3 (some .int), .fieldLink RX1 37 "AdvanceBook$Clearing" "papers" "I", .fieldLink RX1 33 "AdvanceBook$Clearing" "men" "I", .fieldLink RX1 9 "AdvanceBook$Clearing" "paid" "[I", .fieldLink RX1 18 "AdvanceBook$Clearing" "has" "[I", .fieldLink RX1 24 "AdvanceBook$Clearing" "failed" "[I", .fieldLink RX1 21 "AdvanceBook$Clearing" "unpaid" "[I"] ++ wsX70 ++ wsX10)
def wsX7_enact_r1 : List Cond := [Cond.fieldLink RX7 60 "AdvanceBook" "isDecreeAtHand" "Z", Cond.fieldLink RX7 10 "AdvanceBook" "town" "LAdvanceBook$Town;", Cond.fieldLink RX7 54 "AdvanceBook" "decreeAtHand" "LAdvanceBook$Decree;", Cond.methodLink RX7 165 yX3_obey, Cond.instanceMethod yX3_obey, Cond.selects RX3 yX3_obey yX3_obey, Cond.initialized RX3, Cond.code yX3_obey cX3_obey 5 (some .int), Cond.fieldLink RX3 43 "AdvanceBook$Papers" "size" "I", Cond.fieldLink RX3 40 "AdvanceBook$Papers" "lefts" "[I", Cond.fieldLink RX3 37 "AdvanceBook$Papers" "ranks" "[I", Cond.fieldLink RX3 24 "AdvanceBook$Papers" "days" "[I", Cond.methodLink RX3 51 yX2_leftOf, Cond.instanceMethod yX2_leftOf, Cond.selects RX2 yX2_leftOf yX2_leftOf, Cond.initialized RX2, Cond.code yX2_leftOf cX2_leftOf 5 (some .int), Cond.fieldLink RX2 27 "AdvanceBook$Decree" "spare" "I", Cond.fieldLink RX2 9 "AdvanceBook$Decree" "cuts" "[I", Cond.methodLink RX2 37 yX2_reaches, Cond.instanceMethod yX2_reaches, Cond.selects RX2 yX2_reaches yX2_reaches, Cond.code yX2_reaches cX2_reaches 2 (some .boolean), Cond.fieldLink RX2 31 "AdvanceBook$Decree" "before" "I"]
def wsX7_enact_r2 : List Cond := [Cond.methodLink RX3 57 yX2_rankFor, Cond.instanceMethod yX2_rankFor, Cond.selects RX2 yX2_rankFor yX2_rankFor, Cond.code yX2_rankFor cX2_rankFor 3 (some .int), Cond.fieldLink RX2 15 "AdvanceBook$Decree" "moves" "[I"]
def wsX7_enact : List Cond := .code yX7_enact cX7_enact 1 (some .int) :: ((wsX7_enact_r1 ++ wsX7_enact_r2) ++ wsX70 ++ wsX60 ++ wsX30 ++ wsX20)
def wsX7_end_r1 : List Cond := [Cond.fieldLink RX7 10 "AdvanceBook" "town" "LAdvanceBook$Town;", Cond.fieldLink RX7 51 "AdvanceBook" "clearingOfEnd" "LAdvanceBook$Clearing;", Cond.fieldLink RX7 40 "AdvanceBook" "asThingsAre" "LAdvanceBook$Decree;", Cond.methodLink RX7 157 yX1_work, Cond.instanceMethod yX1_work, Cond.selects RX1 yX1_work yX1_work, Cond.initialized RX1, Cond.code yX1_work cX1_work 5 none, Cond.constant RX1 59 (39961), Cond.fieldLink RX1 40 "AdvanceBook$Clearing" "rounds" "I", Cond.methodLink RX1 43 yX1_takeStock, Cond.instanceMethod yX1_takeStock, Cond.selects RX1 yX1_takeStock yX1_takeStock, Cond.code yX1_takeStock cX1_takeStock 3 none, Cond.fieldLink RX1 33 "AdvanceBook$Clearing" "men" "I", Cond.fieldLink RX1 37 "AdvanceBook$Clearing" "papers" "I", Cond.fieldLink RX1 18 "AdvanceBook$Clearing" "has" "[I", Cond.fieldLink RX1 21 "AdvanceBook$Clearing" "unpaid" "[I", Cond.fieldLink RX1 24 "AdvanceBook$Clearing" "failed" "[I", Cond.fieldLink RX1 27 "AdvanceBook$Clearing" "lost" "[I", Cond.fieldLink RX1 30 "AdvanceBook$Clearing" "lastInOrder" "[I", Cond.methodLink RX1 52 yX1_takeAllAsPaid, Cond.instanceMethod yX1_takeAllAsPaid, Cond.selects RX1 yX1_takeAllAsPaid yX1_takeAllAsPaid]
def wsX7_end_r2 : List Cond := [Cond.code yX1_takeAllAsPaid cX1_takeAllAsPaid 5 none, Cond.fieldLink RX1 9 "AdvanceBook$Clearing" "paid" "[I", Cond.methodLink RX1 82 yX2_leftOf, Cond.instanceMethod yX2_leftOf, Cond.selects RX2 yX2_leftOf yX2_leftOf, Cond.initialized RX2, Cond.code yX2_leftOf cX2_leftOf 5 (some .int), Cond.fieldLink RX2 27 "AdvanceBook$Decree" "spare" "I", Cond.fieldLink RX2 9 "AdvanceBook$Decree" "cuts" "[I", Cond.methodLink RX2 37 yX2_reaches, Cond.instanceMethod yX2_reaches, Cond.selects RX2 yX2_reaches yX2_reaches, Cond.code yX2_reaches cX2_reaches 2 (some .boolean), Cond.fieldLink RX2 31 "AdvanceBook$Decree" "before" "I", Cond.methodLink RX1 56 yX1_putInOrder, Cond.instanceMethod yX1_putInOrder, Cond.selects RX1 yX1_putInOrder yX1_putInOrder, Cond.code yX1_putInOrder cX1_putInOrder 6 none, Cond.fieldLink RX1 15 "AdvanceBook$Clearing" "order" "[I", Cond.methodLink RX1 94 yX2_rankFor, Cond.instanceMethod yX2_rankFor, Cond.selects RX2 yX2_rankFor yX2_rankFor, Cond.code yX2_rankFor cX2_rankFor 3 (some .int), Cond.fieldLink RX2 15 "AdvanceBook$Decree" "moves" "[I"]
def wsX7_end_r3 : List Cond := [Cond.methodLink RX1 60 yX1_goRound, Cond.instanceMethod yX1_goRound, Cond.selects RX1 yX1_goRound yX1_goRound, Cond.code yX1_goRound cX1_goRound 5 (some .boolean), Cond.methodLink RX1 98 yX1_payLess, Cond.instanceMethod yX1_payLess, Cond.selects RX1 yX1_payLess yX1_payLess, Cond.code yX1_payLess cX1_payLess 8 none, Cond.methodLink RX1 105 Lib.Math.min.name, Cond.static Lib.Math.min.name, Cond.initialized "java/lang/Math", Cond.code Lib.Math.min.name Lib.Math.min.code 2 (some .int), Cond.methodLink RX1 102 yX1_loseWhatIsNotPaid, Cond.instanceMethod yX1_loseWhatIsNotPaid, Cond.selects RX1 yX1_loseWhatIsNotPaid yX1_loseWhatIsNotPaid, Cond.code yX1_loseWhatIsNotPaid cX1_loseWhatIsNotPaid 2 none, Cond.methodLink RX7 169 yX6_carryOut, Cond.instanceMethod yX6_carryOut, Cond.selects RX6 yX6_carryOut yX6_carryOut, Cond.initialized RX6, Cond.code yX6_carryOut cX6_carryOut 3 none, Cond.fieldLink RX6 22 "AdvanceBook$Town" "men" "I", Cond.fieldLink RX6 9 "AdvanceBook$Town" "purses" "[I", Cond.fieldLink RX6 18 "AdvanceBook$Town" "papers" "LAdvanceBook$Papers;"]
def wsX7_end_r4 : List Cond := [Cond.methodLink RX7 173 yX1_coinsPaid, Cond.instanceMethod yX1_coinsPaid, Cond.selects RX1 yX1_coinsPaid yX1_coinsPaid, Cond.code yX1_coinsPaid cX1_coinsPaid 3 (some .int)]
def wsX7_end : List Cond := .code yX7_end cX7_end 1 (some .int) :: ((wsX7_end_r1 ++ (wsX7_end_r2 ++ (wsX7_end_r3 ++ wsX7_end_r4))) ++ wsX70 ++ wsX60 ++ wsX10 ++ wsX30 ++ wsX20)
def wsX7_count : List Cond := .code yX7_count cX7_count 2 (some .int) :: ([.fieldLink RX7 10 "AdvanceBook" "town" "LAdvanceBook$Town;", .fieldLink RX7 47 "AdvanceBook" "clearingAtHand" "LAdvanceBook$Clearing;", .fieldLink RX7 60 "AdvanceBook" "isDecreeAtHand" "Z", .fieldLink RX7 54 "AdvanceBook" "decreeAtHand" "LAdvanceBook$Decree;", .methodLink RX7 182 yX3_leftInAll, .instanceMethod yX3_leftInAll, .selects RX3 yX3_leftInAll yX3_leftInAll, .initialized RX3, .code yX3_leftInAll cX3_leftInAll 3 (some .int), .fieldLink RX3 43 "AdvanceBook$Papers" "size" "I", .fieldLink RX3 40 "AdvanceBook$Papers" "lefts" "[I", .methodLink RX7 185 yX6_allPurses, .instanceMethod yX6_allPurses, .selects RX6 yX6_allPurses yX6_allPurses, .initialized RX6, .code yX6_allPurses cX6_allPurses 3 (some .int), .fieldLink RX6 22 "AdvanceBook$Town" "men" "I", .fieldLink RX6 9 "AdvanceBook$Town" "purses" "[I"] ++ wsX70 ++ wsX60 ++ wsX30 ++ wsX10 ++ wsX20)
def wsX8_init_r1 : List Cond := [Cond.methodLink RX8 1 objectInit, Cond.instanceMethod objectInit, Cond.code objectInit ⟨#[0xb1]⟩ 1 none, Cond.arrayClass .int, Cond.fieldLink RX8 7 "AdvanceBookModel" "tape" "[I", Cond.fieldLink RX8 13 "AdvanceBookModel" "purse" "[I", Cond.fieldLink RX8 16 "AdvanceBookModel" "debtor" "[I", Cond.fieldLink RX8 19 "AdvanceBookModel" "creditor" "[I", Cond.fieldLink RX8 22 "AdvanceBookModel" "toldDebtor" "[I", Cond.fieldLink RX8 25 "AdvanceBookModel" "toldCreditor" "[I", Cond.fieldLink RX8 28 "AdvanceBookModel" "toldRank" "[I", Cond.fieldLink RX8 31 "AdvanceBookModel" "coins" "[I", Cond.fieldLink RX8 34 "AdvanceBookModel" "rank" "[I", Cond.fieldLink RX8 37 "AdvanceBookModel" "left" "[I", Cond.fieldLink RX8 40 "AdvanceBookModel" "day" "[I", Cond.arrayClass .boolean, Cond.fieldLink RX8 43 "AdvanceBookModel" "isCopy" "[Z", Cond.fieldLink RX8 47 "AdvanceBookModel" "rule" "[I", Cond.fieldLink RX8 50 "AdvanceBookModel" "faultPlace" "I", Cond.fieldLink RX8 54 "AdvanceBookModel" "nets" "[I", Cond.fieldLink RX8 57 "AdvanceBookModel" "words" "[I", Cond.fieldLink RX8 60 "AdvanceBookModel" "owed" "[I", Cond.fieldLink RX8 63 "AdvanceBookModel" "ranks" "[I", Cond.fieldLink RX8 66 "AdvanceBookModel" "paid" "[I"]
def wsX8_init_r2 : List Cond := [Cond.fieldLink RX8 69 "AdvanceBookModel" "was" "[I", Cond.fieldLink RX8 72 "AdvanceBookModel" "failed" "[I", Cond.fieldLink RX8 75 "AdvanceBookModel" "cPaid" "[I", Cond.fieldLink RX8 78 "AdvanceBookModel" "cHas" "[I", Cond.fieldLink RX8 81 "AdvanceBookModel" "cFailed" "[I", Cond.fieldLink RX8 84 "AdvanceBookModel" "cOwes" "[I"]
def wsX8_init : List Cond := .code yX8_init cX8_init 1 none :: ((wsX8_init_r1 ++ wsX8_init_r2) ++ wsX80)
def wsX8_thrown : List Cond := .code yX8_thrown cX8_thrown 1 (some .int) :: ([.fieldLink RX8 87 "AdvanceBookModel" "thrown" "I"] ++ wsX80)
def wsX8_feed : List Cond := .code yX8_feed cX8_feed 8 (some .int) :: ([.fieldLink RX8 87 "AdvanceBookModel" "thrown" "I", .fieldLink RX8 90 "AdvanceBookModel" "tapeSize" "I", .fieldLink RX8 7 "AdvanceBookModel" "tape" "[I"] ++ wsX80)
def wsX8_man : List Cond := .code yX8_man cX8_man 2 (some .int) :: ([.fieldLink RX8 87 "AdvanceBookModel" "thrown" "I", .constant RX8 93 (99999), .fieldLink RX8 94 "AdvanceBookModel" "men" "I", .fieldLink RX8 13 "AdvanceBookModel" "purse" "[I"] ++ wsX80)
def wsX8_isMan : List Cond := .code yX8_isMan cX8_isMan 2 (some .boolean) :: ([.fieldLink RX8 94 "AdvanceBookModel" "men" "I"] ++ wsX80)
def wsX8_paper : List Cond := .code yX8_paper cX8_paper 7 (some .int) :: ([.fieldLink RX8 87 "AdvanceBookModel" "thrown" "I", .fieldLink RX8 101 "AdvanceBookModel" "papers" "I", .fieldLink RX8 22 "AdvanceBookModel" "toldDebtor" "[I", .fieldLink RX8 25 "AdvanceBookModel" "toldCreditor" "[I", .fieldLink RX8 31 "AdvanceBookModel" "coins" "[I", .fieldLink RX8 28 "AdvanceBookModel" "toldRank" "[I", .fieldLink RX8 40 "AdvanceBookModel" "day" "[I", .fieldLink RX8 104 "AdvanceBookModel" "today" "I", .fieldLink RX8 16 "AdvanceBookModel" "debtor" "[I", .fieldLink RX8 19 "AdvanceBookModel" "creditor" "[I", .fieldLink RX8 34 "AdvanceBookModel" "rank" "[I", .fieldLink RX8 37 "AdvanceBookModel" "left" "[I", .fieldLink RX8 43 "AdvanceBookModel" "isCopy" "[Z", .methodLink RX8 97 yX8_isMan, .instanceMethod yX8_isMan, .selects RX8 yX8_isMan yX8_isMan, .initialized RX8, .code yX8_isMan cX8_isMan 2 (some .boolean), .fieldLink RX8 94 "AdvanceBookModel" "men" "I"] ++ wsX80)
def wsX8_fails : List Cond := .code yX8_fails cX8_fails 2 (some .int) :: ([.fieldLink RX8 87 "AdvanceBookModel" "thrown" "I"] ++ wsX80)
def wsX8_look : List Cond := .code yX8_look cX8_look 3 (some .int) :: ([.fieldLink RX8 87 "AdvanceBookModel" "thrown" "I", .fieldLink RX8 101 "AdvanceBookModel" "papers" "I", .fieldLink RX8 16 "AdvanceBookModel" "debtor" "[I", .fieldLink RX8 19 "AdvanceBookModel" "creditor" "[I", .fieldLink RX8 31 "AdvanceBookModel" "coins" "[I", .fieldLink RX8 34 "AdvanceBookModel" "rank" "[I", .fieldLink RX8 37 "AdvanceBookModel" "left" "[I", .fieldLink RX8 40 "AdvanceBookModel" "day" "[I", .fieldLink RX8 43 "AdvanceBookModel" "isCopy" "[Z", .methodLink RX8 107 yX8_fails, .instanceMethod yX8_fails, .selects RX8 yX8_fails yX8_fails, .initialized RX8, .code yX8_fails cX8_fails 2 (some .int)] ++ wsX80)
def wsX8_pass : List Cond := .code yX8_pass cX8_pass 2 (some .int) :: ([.fieldLink RX8 87 "AdvanceBookModel" "thrown" "I", .fieldLink RX8 104 "AdvanceBookModel" "today" "I"] ++ wsX80)
def wsX8_purse : List Cond := .code yX8_purse cX8_purse 2 (some .int) :: ([.fieldLink RX8 87 "AdvanceBookModel" "thrown" "I", .fieldLink RX8 13 "AdvanceBookModel" "purse" "[I", .methodLink RX8 97 yX8_isMan, .instanceMethod yX8_isMan, .selects RX8 yX8_isMan yX8_isMan, .initialized RX8, .code yX8_isMan cX8_isMan 2 (some .boolean), .fieldLink RX8 94 "AdvanceBookModel" "men" "I"] ++ wsX80)
def wsX8_netOf : List Cond := .code yX8_netOf cX8_netOf 4 (some .int) :: ([.fieldLink RX8 101 "AdvanceBookModel" "papers" "I", .fieldLink RX8 19 "AdvanceBookModel" "creditor" "[I", .fieldLink RX8 37 "AdvanceBookModel" "left" "[I", .fieldLink RX8 16 "AdvanceBookModel" "debtor" "[I"] ++ wsX80)
def wsX8_net : List Cond := .code yX8_net cX8_net 2 (some .int) :: ([.fieldLink RX8 87 "AdvanceBookModel" "thrown" "I", .constant RX8 114 (-2147483648), .methodLink RX8 97 yX8_isMan, .instanceMethod yX8_isMan, .selects RX8 yX8_isMan yX8_isMan, .initialized RX8, .code yX8_isMan cX8_isMan 2 (some .boolean), .fieldLink RX8 94 "AdvanceBookModel" "men" "I", .methodLink RX8 111 yX8_netOf, .instanceMethod yX8_netOf, .selects RX8 yX8_netOf yX8_netOf, .code yX8_netOf cX8_netOf 4 (some .int), .fieldLink RX8 101 "AdvanceBookModel" "papers" "I", .fieldLink RX8 19 "AdvanceBookModel" "creditor" "[I", .fieldLink RX8 37 "AdvanceBookModel" "left" "[I", .fieldLink RX8 16 "AdvanceBookModel" "debtor" "[I"] ++ wsX80)
def wsX8_thread : List Cond := .code yX8_thread cX8_thread 3 (some .int) :: ([.fieldLink RX8 87 "AdvanceBookModel" "thrown" "I", .fieldLink RX8 94 "AdvanceBookModel" "men" "I", .methodLink RX8 111 yX8_netOf, .instanceMethod yX8_netOf, .selects RX8 yX8_netOf yX8_netOf, .initialized RX8, .code yX8_netOf cX8_netOf 4 (some .int), .fieldLink RX8 101 "AdvanceBookModel" "papers" "I", .fieldLink RX8 19 "AdvanceBookModel" "creditor" "[I", .fieldLink RX8 37 "AdvanceBookModel" "left" "[I", .fieldLink RX8 16 "AdvanceBookModel" "debtor" "[I"] ++ wsX80)
def wsX8_move : List Cond := .code yX8_move cX8_move 7 (some .int) :: ([.fieldLink RX8 87 "AdvanceBookModel" "thrown" "I", .fieldLink RX8 94 "AdvanceBookModel" "men" "I", .fieldLink RX8 54 "AdvanceBookModel" "nets" "[I", .methodLink RX8 111 yX8_netOf, .instanceMethod yX8_netOf, .selects RX8 yX8_netOf yX8_netOf, .initialized RX8, .code yX8_netOf cX8_netOf 4 (some .int), .fieldLink RX8 101 "AdvanceBookModel" "papers" "I", .fieldLink RX8 19 "AdvanceBookModel" "creditor" "[I", .fieldLink RX8 37 "AdvanceBookModel" "left" "[I", .fieldLink RX8 16 "AdvanceBookModel" "debtor" "[I"] ++ wsX80)
def wsX8_boat : List Cond := .code yX8_boat cX8_boat 8 (some .int) :: ([.fieldLink RX8 87 "AdvanceBookModel" "thrown" "I", .fieldLink RX8 94 "AdvanceBookModel" "men" "I", .fieldLink RX8 13 "AdvanceBookModel" "purse" "[I", .methodLink RX8 97 yX8_isMan, .instanceMethod yX8_isMan, .selects RX8 yX8_isMan yX8_isMan, .initialized RX8, .code yX8_isMan cX8_isMan 2 (some .boolean)] ++ wsX80)
def wsX8_heir : List Cond := .code yX8_heir cX8_heir 5 (some .boolean) :: ([.fieldLink RX8 87 "AdvanceBookModel" "thrown" "I", .fieldLink RX8 13 "AdvanceBookModel" "purse" "[I", .fieldLink RX8 101 "AdvanceBookModel" "papers" "I", .fieldLink RX8 16 "AdvanceBookModel" "debtor" "[I", .fieldLink RX8 19 "AdvanceBookModel" "creditor" "[I", .fieldLink RX8 37 "AdvanceBookModel" "left" "[I", .methodLink RX8 97 yX8_isMan, .instanceMethod yX8_isMan, .selects RX8 yX8_isMan yX8_isMan, .initialized RX8, .code yX8_isMan cX8_isMan 2 (some .boolean), .fieldLink RX8 94 "AdvanceBookModel" "men" "I"] ++ wsX80)
def wsX8_wrong : List Cond := .code yX8_wrong cX8_wrong 3 (some .boolean) :: ([.fieldLink RX8 115 "AdvanceBookModel" "fault" "I", .fieldLink RX8 50 "AdvanceBookModel" "faultPlace" "I"] ++ wsX80)
def wsX8_wordAt : List Cond := .code yX8_wordAt cX8_wordAt 8 (some .int) :: ([.fieldLink RX8 57 "AdvanceBookModel" "words" "[I", .fieldLink RX8 7 "AdvanceBookModel" "tape" "[I"] ++ wsX80)
def wsX8_isSmall : List Cond := .code yX8_isSmall cX8_isSmall 2 (some .boolean) :: ([.fieldLink RX8 118 "AdvanceBookModel" "size" "I", .fieldLink RX8 7 "AdvanceBookModel" "tape" "[I"] ++ wsX80)
def wsX8_isDigit : List Cond := .code yX8_isDigit cX8_isDigit 2 (some .boolean) :: ([.fieldLink RX8 118 "AdvanceBookModel" "size" "I", .fieldLink RX8 7 "AdvanceBookModel" "tape" "[I"] ++ wsX80)
def wsX8_take : List Cond := .code yX8_take cX8_take 1 none :: ([.fieldLink RX8 121 "AdvanceBookModel" "next" "I", .fieldLink RX8 118 "AdvanceBookModel" "size" "I", .fieldLink RX8 7 "AdvanceBookModel" "tape" "[I", .fieldLink RX8 124 "AdvanceBookModel" "place" "I", .fieldLink RX8 127 "AdvanceBookModel" "kind" "I", .fieldLink RX8 137 "AdvanceBookModel" "which" "I", .methodLink RX8 130 yX8_isSmall, .instanceMethod yX8_isSmall, .selects RX8 yX8_isSmall yX8_isSmall, .initialized RX8, .code yX8_isSmall cX8_isSmall 2 (some .boolean), .methodLink RX8 133 yX8_wordAt, .instanceMethod yX8_wordAt, .selects RX8 yX8_wordAt yX8_wordAt, .code yX8_wordAt cX8_wordAt 8 (some .int), .fieldLink RX8 57 "AdvanceBookModel" "words" "[I", .methodLink RX8 140 yX8_isDigit, .instanceMethod yX8_isDigit, .selects RX8 yX8_isDigit yX8_isDigit, .code yX8_isDigit cX8_isDigit 2 (some .boolean)] ++ wsX80)
def wsX8_number_r1 : List Cond := [Cond.fieldLink RX8 127 "AdvanceBookModel" "kind" "I", Cond.fieldLink RX8 124 "AdvanceBookModel" "place" "I", Cond.fieldLink RX8 137 "AdvanceBookModel" "which" "I", Cond.fieldLink RX8 147 "AdvanceBookModel" "read" "I", Cond.methodLink RX8 143 yX8_wrong, Cond.instanceMethod yX8_wrong, Cond.selects RX8 yX8_wrong yX8_wrong, Cond.initialized RX8, Cond.code yX8_wrong cX8_wrong 3 (some .boolean), Cond.fieldLink RX8 115 "AdvanceBookModel" "fault" "I", Cond.fieldLink RX8 50 "AdvanceBookModel" "faultPlace" "I", Cond.methodLink RX8 150 yX8_take, Cond.instanceMethod yX8_take, Cond.selects RX8 yX8_take yX8_take, Cond.code yX8_take cX8_take 1 none, Cond.fieldLink RX8 121 "AdvanceBookModel" "next" "I", Cond.fieldLink RX8 118 "AdvanceBookModel" "size" "I", Cond.fieldLink RX8 7 "AdvanceBookModel" "tape" "[I", Cond.methodLink RX8 130 yX8_isSmall, Cond.instanceMethod yX8_isSmall, Cond.selects RX8 yX8_isSmall yX8_isSmall, Cond.code yX8_isSmall cX8_isSmall 2 (some .boolean), Cond.methodLink RX8 133 yX8_wordAt, Cond.instanceMethod yX8_wordAt]
def wsX8_number_r2 : List Cond := [Cond.selects RX8 yX8_wordAt yX8_wordAt, Cond.code yX8_wordAt cX8_wordAt 8 (some .int), Cond.fieldLink RX8 57 "AdvanceBookModel" "words" "[I", Cond.methodLink RX8 140 yX8_isDigit, Cond.instanceMethod yX8_isDigit, Cond.selects RX8 yX8_isDigit yX8_isDigit, Cond.code yX8_isDigit cX8_isDigit 2 (some .boolean)]
def wsX8_number : List Cond := .code yX8_number cX8_number 2 (some .boolean) :: ((wsX8_number_r1 ++ wsX8_number_r2) ++ wsX80)
def wsX8_line_r1 : List Cond := [Cond.fieldLink RX8 127 "AdvanceBookModel" "kind" "I", Cond.fieldLink RX8 124 "AdvanceBookModel" "place" "I", Cond.fieldLink RX8 137 "AdvanceBookModel" "which" "I", Cond.fieldLink RX8 47 "AdvanceBookModel" "rule" "[I", Cond.fieldLink RX8 147 "AdvanceBookModel" "read" "I", Cond.methodLink RX8 143 yX8_wrong, Cond.instanceMethod yX8_wrong, Cond.selects RX8 yX8_wrong yX8_wrong, Cond.initialized RX8, Cond.code yX8_wrong cX8_wrong 3 (some .boolean), Cond.fieldLink RX8 115 "AdvanceBookModel" "fault" "I", Cond.fieldLink RX8 50 "AdvanceBookModel" "faultPlace" "I", Cond.methodLink RX8 150 yX8_take, Cond.instanceMethod yX8_take, Cond.selects RX8 yX8_take yX8_take, Cond.code yX8_take cX8_take 1 none, Cond.fieldLink RX8 121 "AdvanceBookModel" "next" "I", Cond.fieldLink RX8 118 "AdvanceBookModel" "size" "I", Cond.fieldLink RX8 7 "AdvanceBookModel" "tape" "[I", Cond.methodLink RX8 130 yX8_isSmall, Cond.instanceMethod yX8_isSmall, Cond.selects RX8 yX8_isSmall yX8_isSmall, Cond.code yX8_isSmall cX8_isSmall 2 (some .boolean), Cond.methodLink RX8 133 yX8_wordAt]
def wsX8_line_r2 : List Cond := [Cond.instanceMethod yX8_wordAt, Cond.selects RX8 yX8_wordAt yX8_wordAt, Cond.code yX8_wordAt cX8_wordAt 8 (some .int), Cond.fieldLink RX8 57 "AdvanceBookModel" "words" "[I", Cond.methodLink RX8 140 yX8_isDigit, Cond.instanceMethod yX8_isDigit, Cond.selects RX8 yX8_isDigit yX8_isDigit, Cond.code yX8_isDigit cX8_isDigit 2 (some .boolean), Cond.methodLink RX8 153 yX8_number, Cond.instanceMethod yX8_number, Cond.selects RX8 yX8_number yX8_number, Cond.code yX8_number cX8_number 2 (some .boolean)]
def wsX8_line : List Cond := .code yX8_line cX8_line 4 (some .boolean) :: ((wsX8_line_r1 ++ wsX8_line_r2) ++ wsX80)
def wsX8_decree_r1 : List Cond := [Cond.fieldLink RX8 87 "AdvanceBookModel" "thrown" "I", Cond.fieldLink RX8 90 "AdvanceBookModel" "tapeSize" "I", Cond.fieldLink RX8 118 "AdvanceBookModel" "size" "I", Cond.fieldLink RX8 115 "AdvanceBookModel" "fault" "I", Cond.fieldLink RX8 50 "AdvanceBookModel" "faultPlace" "I", Cond.fieldLink RX8 47 "AdvanceBookModel" "rule" "[I", Cond.fieldLink RX8 121 "AdvanceBookModel" "next" "I", Cond.fieldLink RX8 127 "AdvanceBookModel" "kind" "I", Cond.fieldLink RX8 124 "AdvanceBookModel" "place" "I", Cond.fieldLink RX8 160 "AdvanceBookModel" "isDecree" "Z", Cond.fieldLink RX8 164 "AdvanceBookModel" "lines" "I", Cond.methodLink RX8 150 yX8_take, Cond.instanceMethod yX8_take, Cond.selects RX8 yX8_take yX8_take, Cond.initialized RX8, Cond.code yX8_take cX8_take 1 none, Cond.fieldLink RX8 7 "AdvanceBookModel" "tape" "[I", Cond.fieldLink RX8 137 "AdvanceBookModel" "which" "I", Cond.methodLink RX8 130 yX8_isSmall, Cond.instanceMethod yX8_isSmall, Cond.selects RX8 yX8_isSmall yX8_isSmall, Cond.code yX8_isSmall cX8_isSmall 2 (some .boolean), Cond.methodLink RX8 133 yX8_wordAt, Cond.instanceMethod yX8_wordAt]
def wsX8_decree_r2 : List Cond := [Cond.selects RX8 yX8_wordAt yX8_wordAt, Cond.code yX8_wordAt cX8_wordAt 8 (some .int), Cond.fieldLink RX8 57 "AdvanceBookModel" "words" "[I", Cond.methodLink RX8 140 yX8_isDigit, Cond.instanceMethod yX8_isDigit, Cond.selects RX8 yX8_isDigit yX8_isDigit, Cond.code yX8_isDigit cX8_isDigit 2 (some .boolean), Cond.methodLink RX8 156 yX8_line, Cond.instanceMethod yX8_line, Cond.selects RX8 yX8_line yX8_line, Cond.code yX8_line cX8_line 4 (some .boolean), Cond.fieldLink RX8 147 "AdvanceBookModel" "read" "I", Cond.methodLink RX8 143 yX8_wrong, Cond.instanceMethod yX8_wrong, Cond.selects RX8 yX8_wrong yX8_wrong, Cond.code yX8_wrong cX8_wrong 3 (some .boolean), Cond.methodLink RX8 153 yX8_number, Cond.instanceMethod yX8_number, Cond.selects RX8 yX8_number yX8_number, Cond.code yX8_number cX8_number 2 (some .boolean)]
def wsX8_decree : List Cond := .code yX8_decree cX8_decree 4 (some .int) :: ((wsX8_decree_r1 ++ wsX8_decree_r2) ++ wsX80)
def wsX8_fault : List Cond := .code yX8_fault cX8_fault 2 (some .int) :: ([.fieldLink RX8 87 "AdvanceBookModel" "thrown" "I", .fieldLink RX8 115 "AdvanceBookModel" "fault" "I", .fieldLink RX8 50 "AdvanceBookModel" "faultPlace" "I"] ++ wsX80)
def wsX8_isMeant : List Cond := .code yX8_isMeant cX8_isMeant 2 (some .boolean) :: ([.fieldLink RX8 47 "AdvanceBookModel" "rule" "[I", .fieldLink RX8 40 "AdvanceBookModel" "day" "[I"] ++ wsX80)
def wsX8_leftBy : List Cond := .code yX8_leftBy cX8_leftBy 3 (some .int) :: ([.fieldLink RX8 47 "AdvanceBookModel" "rule" "[I", .fieldLink RX8 34 "AdvanceBookModel" "rank" "[I", .fieldLink RX8 37 "AdvanceBookModel" "left" "[I", .methodLink RX8 167 yX8_isMeant, .instanceMethod yX8_isMeant, .selects RX8 yX8_isMeant yX8_isMeant, .initialized RX8, .code yX8_isMeant cX8_isMeant 2 (some .boolean), .fieldLink RX8 40 "AdvanceBookModel" "day" "[I"] ++ wsX80)
def wsX8_rankBy : List Cond := .code yX8_rankBy cX8_rankBy 2 (some .int) :: ([.fieldLink RX8 47 "AdvanceBookModel" "rule" "[I", .fieldLink RX8 34 "AdvanceBookModel" "rank" "[I", .methodLink RX8 167 yX8_isMeant, .instanceMethod yX8_isMeant, .selects RX8 yX8_isMeant yX8_isMeant, .initialized RX8, .code yX8_isMeant cX8_isMeant 2 (some .boolean), .fieldLink RX8 40 "AdvanceBookModel" "day" "[I"] ++ wsX80)
def wsX8_enact : List Cond := .code yX8_enact cX8_enact 5 (some .int) :: ([.fieldLink RX8 87 "AdvanceBookModel" "thrown" "I", .fieldLink RX8 160 "AdvanceBookModel" "isDecree" "Z", .fieldLink RX8 101 "AdvanceBookModel" "papers" "I", .fieldLink RX8 37 "AdvanceBookModel" "left" "[I", .fieldLink RX8 34 "AdvanceBookModel" "rank" "[I", .methodLink RX8 170 yX8_leftBy, .instanceMethod yX8_leftBy, .selects RX8 yX8_leftBy yX8_leftBy, .initialized RX8, .code yX8_leftBy cX8_leftBy 3 (some .int), .fieldLink RX8 47 "AdvanceBookModel" "rule" "[I", .methodLink RX8 167 yX8_isMeant, .instanceMethod yX8_isMeant, .selects RX8 yX8_isMeant yX8_isMeant, .code yX8_isMeant cX8_isMeant 2 (some .boolean), .fieldLink RX8 40 "AdvanceBookModel" "day" "[I", .methodLink RX8 173 yX8_rankBy, .instanceMethod yX8_rankBy, .selects RX8 yX8_rankBy yX8_rankBy, .code yX8_rankBy cX8_rankBy 2 (some .int)] ++ wsX80)
def wsX8_pays : List Cond := .code yX8_pays cX8_pays 8 (some .boolean) :: ([.fieldLink RX8 13 "AdvanceBookModel" "purse" "[I", .fieldLink RX8 101 "AdvanceBookModel" "papers" "I", .fieldLink RX8 19 "AdvanceBookModel" "creditor" "[I", .fieldLink RX8 69 "AdvanceBookModel" "was" "[I", .fieldLink RX8 16 "AdvanceBookModel" "debtor" "[I", .fieldLink RX8 63 "AdvanceBookModel" "ranks" "[I", .fieldLink RX8 60 "AdvanceBookModel" "owed" "[I", .fieldLink RX8 66 "AdvanceBookModel" "paid" "[I", .fieldLink RX8 72 "AdvanceBookModel" "failed" "[I"] ++ wsX80)
def wsX8_works_r1 : List Cond := [Cond.fieldLink RX8 101 "AdvanceBookModel" "papers" "I", Cond.fieldLink RX8 60 "AdvanceBookModel" "owed" "[I", Cond.fieldLink RX8 37 "AdvanceBookModel" "left" "[I", Cond.fieldLink RX8 63 "AdvanceBookModel" "ranks" "[I", Cond.fieldLink RX8 34 "AdvanceBookModel" "rank" "[I", Cond.fieldLink RX8 66 "AdvanceBookModel" "paid" "[I", Cond.fieldLink RX8 94 "AdvanceBookModel" "men" "I", Cond.fieldLink RX8 72 "AdvanceBookModel" "failed" "[I", Cond.fieldLink RX8 176 "AdvanceBookModel" "rounds" "I", Cond.fieldLink RX8 69 "AdvanceBookModel" "was" "[I", Cond.methodLink RX8 170 yX8_leftBy, Cond.instanceMethod yX8_leftBy, Cond.selects RX8 yX8_leftBy yX8_leftBy, Cond.initialized RX8, Cond.code yX8_leftBy cX8_leftBy 3 (some .int), Cond.fieldLink RX8 47 "AdvanceBookModel" "rule" "[I", Cond.methodLink RX8 167 yX8_isMeant, Cond.instanceMethod yX8_isMeant, Cond.selects RX8 yX8_isMeant yX8_isMeant, Cond.code yX8_isMeant cX8_isMeant 2 (some .boolean), Cond.fieldLink RX8 40 "AdvanceBookModel" "day" "[I", Cond.methodLink RX8 173 yX8_rankBy, Cond.instanceMethod yX8_rankBy, Cond.selects RX8 yX8_rankBy yX8_rankBy]
def wsX8_works_r2 : List Cond := [Cond.code yX8_rankBy cX8_rankBy 2 (some .int), Cond.methodLink RX8 179 yX8_pays, Cond.instanceMethod yX8_pays, Cond.selects RX8 yX8_pays yX8_pays, Cond.code yX8_pays cX8_pays 8 (some .boolean), Cond.fieldLink RX8 13 "AdvanceBookModel" "purse" "[I", Cond.fieldLink RX8 19 "AdvanceBookModel" "creditor" "[I", Cond.fieldLink RX8 16 "AdvanceBookModel" "debtor" "[I"]
def wsX8_works : List Cond := .code yX8_works cX8_works 5 none :: ((wsX8_works_r1 ++ wsX8_works_r2) ++ wsX80)
def wsX8_clear_r1 : List Cond := [Cond.fieldLink RX8 87 "AdvanceBookModel" "thrown" "I", Cond.fieldLink RX8 160 "AdvanceBookModel" "isDecree" "Z", Cond.fieldLink RX8 186 "AdvanceBookModel" "isCleared" "Z", Cond.fieldLink RX8 94 "AdvanceBookModel" "men" "I", Cond.fieldLink RX8 189 "AdvanceBookModel" "cMen" "I", Cond.fieldLink RX8 101 "AdvanceBookModel" "papers" "I", Cond.fieldLink RX8 192 "AdvanceBookModel" "cPapers" "I", Cond.fieldLink RX8 176 "AdvanceBookModel" "rounds" "I", Cond.fieldLink RX8 195 "AdvanceBookModel" "cRounds" "I", Cond.fieldLink RX8 78 "AdvanceBookModel" "cHas" "[I", Cond.fieldLink RX8 13 "AdvanceBookModel" "purse" "[I", Cond.fieldLink RX8 84 "AdvanceBookModel" "cOwes" "[I", Cond.fieldLink RX8 81 "AdvanceBookModel" "cFailed" "[I", Cond.fieldLink RX8 72 "AdvanceBookModel" "failed" "[I", Cond.fieldLink RX8 75 "AdvanceBookModel" "cPaid" "[I", Cond.fieldLink RX8 66 "AdvanceBookModel" "paid" "[I", Cond.fieldLink RX8 19 "AdvanceBookModel" "creditor" "[I", Cond.fieldLink RX8 16 "AdvanceBookModel" "debtor" "[I", Cond.fieldLink RX8 60 "AdvanceBookModel" "owed" "[I", Cond.methodLink RX8 182 yX8_works, Cond.instanceMethod yX8_works, Cond.selects RX8 yX8_works yX8_works, Cond.initialized RX8, Cond.code yX8_works cX8_works 5 none]
def wsX8_clear_r2 : List Cond := [Cond.fieldLink RX8 37 "AdvanceBookModel" "left" "[I", Cond.fieldLink RX8 63 "AdvanceBookModel" "ranks" "[I", Cond.fieldLink RX8 34 "AdvanceBookModel" "rank" "[I", Cond.fieldLink RX8 69 "AdvanceBookModel" "was" "[I", Cond.methodLink RX8 170 yX8_leftBy, Cond.instanceMethod yX8_leftBy, Cond.selects RX8 yX8_leftBy yX8_leftBy, Cond.code yX8_leftBy cX8_leftBy 3 (some .int), Cond.fieldLink RX8 47 "AdvanceBookModel" "rule" "[I", Cond.methodLink RX8 167 yX8_isMeant, Cond.instanceMethod yX8_isMeant, Cond.selects RX8 yX8_isMeant yX8_isMeant, Cond.code yX8_isMeant cX8_isMeant 2 (some .boolean), Cond.fieldLink RX8 40 "AdvanceBookModel" "day" "[I", Cond.methodLink RX8 173 yX8_rankBy, Cond.instanceMethod yX8_rankBy, Cond.selects RX8 yX8_rankBy yX8_rankBy, Cond.code yX8_rankBy cX8_rankBy 2 (some .int), Cond.methodLink RX8 179 yX8_pays, Cond.instanceMethod yX8_pays, Cond.selects RX8 yX8_pays yX8_pays, Cond.code yX8_pays cX8_pays 8 (some .boolean)]
def wsX8_clear : List Cond := .code yX8_clear cX8_clear 4 (some .int) :: ((wsX8_clear_r1 ++ wsX8_clear_r2) ++ wsX80)
def wsX8_cleared : List Cond := .code yX8_cleared cX8_cleared 3 (some .int) :: ([.fieldLink RX8 87 "AdvanceBookModel" "thrown" "I", .fieldLink RX8 186 "AdvanceBookModel" "isCleared" "Z", .fieldLink RX8 192 "AdvanceBookModel" "cPapers" "I", .fieldLink RX8 189 "AdvanceBookModel" "cMen" "I", .fieldLink RX8 75 "AdvanceBookModel" "cPaid" "[I", .fieldLink RX8 78 "AdvanceBookModel" "cHas" "[I", .fieldLink RX8 81 "AdvanceBookModel" "cFailed" "[I", .fieldLink RX8 84 "AdvanceBookModel" "cOwes" "[I"] ++ wsX80)
def wsX8_end_r1 : List Cond := [Cond.fieldLink RX8 87 "AdvanceBookModel" "thrown" "I", Cond.fieldLink RX8 104 "AdvanceBookModel" "today" "I", Cond.fieldLink RX8 101 "AdvanceBookModel" "papers" "I", Cond.fieldLink RX8 13 "AdvanceBookModel" "purse" "[I", Cond.fieldLink RX8 19 "AdvanceBookModel" "creditor" "[I", Cond.fieldLink RX8 66 "AdvanceBookModel" "paid" "[I", Cond.fieldLink RX8 16 "AdvanceBookModel" "debtor" "[I", Cond.fieldLink RX8 37 "AdvanceBookModel" "left" "[I", Cond.methodLink RX8 182 yX8_works, Cond.instanceMethod yX8_works, Cond.selects RX8 yX8_works yX8_works, Cond.initialized RX8, Cond.code yX8_works cX8_works 5 none, Cond.fieldLink RX8 60 "AdvanceBookModel" "owed" "[I", Cond.fieldLink RX8 63 "AdvanceBookModel" "ranks" "[I", Cond.fieldLink RX8 34 "AdvanceBookModel" "rank" "[I", Cond.fieldLink RX8 94 "AdvanceBookModel" "men" "I", Cond.fieldLink RX8 72 "AdvanceBookModel" "failed" "[I", Cond.fieldLink RX8 176 "AdvanceBookModel" "rounds" "I", Cond.fieldLink RX8 69 "AdvanceBookModel" "was" "[I", Cond.methodLink RX8 170 yX8_leftBy, Cond.instanceMethod yX8_leftBy, Cond.selects RX8 yX8_leftBy yX8_leftBy, Cond.code yX8_leftBy cX8_leftBy 3 (some .int)]
def wsX8_end_r2 : List Cond := [Cond.fieldLink RX8 47 "AdvanceBookModel" "rule" "[I", Cond.methodLink RX8 167 yX8_isMeant, Cond.instanceMethod yX8_isMeant, Cond.selects RX8 yX8_isMeant yX8_isMeant, Cond.code yX8_isMeant cX8_isMeant 2 (some .boolean), Cond.fieldLink RX8 40 "AdvanceBookModel" "day" "[I", Cond.methodLink RX8 173 yX8_rankBy, Cond.instanceMethod yX8_rankBy, Cond.selects RX8 yX8_rankBy yX8_rankBy, Cond.code yX8_rankBy cX8_rankBy 2 (some .int), Cond.methodLink RX8 179 yX8_pays, Cond.instanceMethod yX8_pays, Cond.selects RX8 yX8_pays yX8_pays, Cond.code yX8_pays cX8_pays 8 (some .boolean)]
def wsX8_end : List Cond := .code yX8_end cX8_end 3 (some .int) :: ((wsX8_end_r1 ++ wsX8_end_r2) ++ wsX80)
def wsX8_count : List Cond := .code yX8_count cX8_count 4 (some .int) :: ([.fieldLink RX8 87 "AdvanceBookModel" "thrown" "I", .fieldLink RX8 94 "AdvanceBookModel" "men" "I", .fieldLink RX8 101 "AdvanceBookModel" "papers" "I", .fieldLink RX8 104 "AdvanceBookModel" "today" "I", .fieldLink RX8 37 "AdvanceBookModel" "left" "[I", .fieldLink RX8 13 "AdvanceBookModel" "purse" "[I", .fieldLink RX8 186 "AdvanceBookModel" "isCleared" "Z", .fieldLink RX8 195 "AdvanceBookModel" "cRounds" "I", .fieldLink RX8 160 "AdvanceBookModel" "isDecree" "Z", .fieldLink RX8 164 "AdvanceBookModel" "lines" "I"] ++ wsX80)
def wsJ9_min_7cf53 : List Cond := .code yJ9_min_7cf53 cJ9_min_7cf53 2 (some .int) :: ([])
def wsL_look_r1 : List Cond := [Cond.classLink RL 13 "java/lang/IndexOutOfBoundsException", Cond.classLink RL 15 "java/util/NoSuchElementException", Cond.methodLink RL 7 yX7_look, Cond.instanceMethod yX7_look, Cond.selects RX7 yX7_look yX7_look, Cond.initialized RX7, Cond.code yX7_look cX7_look 3 (some .int), Cond.classLink RX7 97 "java/lang/IndexOutOfBoundsException", Cond.initialized "java/lang/IndexOutOfBoundsException", Cond.classLink RX7 104 "java/util/NoSuchElementException", Cond.initialized "java/util/NoSuchElementException", Cond.fieldLink RX7 10 "AdvanceBook" "town" "LAdvanceBook$Town;", Cond.methodLink RX7 94 yX3_holds, Cond.instanceMethod yX3_holds, Cond.selects RX3 yX3_holds yX3_holds, Cond.initialized RX3, Cond.code yX3_holds cX3_holds 2 (some .boolean), Cond.fieldLink RX3 43 "AdvanceBook$Papers" "size" "I", Cond.methodLink RX7 109 yX3_tell, Cond.instanceMethod yX3_tell, Cond.selects RX3 yX3_tell yX3_tell, Cond.code yX3_tell cX3_tell 3 (some .int), Cond.fieldLink RX3 31 "AdvanceBook$Papers" "debtors" "[I", Cond.fieldLink RX3 34 "AdvanceBook$Papers" "creditors" "[I"]
def wsL_look_r2 : List Cond := [Cond.fieldLink RX3 18 "AdvanceBook$Papers" "toldCoins" "[I", Cond.fieldLink RX3 37 "AdvanceBook$Papers" "ranks" "[I", Cond.fieldLink RX3 40 "AdvanceBook$Papers" "lefts" "[I", Cond.fieldLink RX3 24 "AdvanceBook$Papers" "days" "[I", Cond.fieldLink RX3 27 "AdvanceBook$Papers" "copies" "[Z"]
def wsL_look : List Cond := .codeWith yL_look cL_look 5 (some .int) [(0, 10, 13, 13), (0, 10, 17, 15)] :: ((wsL_look_r1 ++ wsL_look_r2) ++ wsX70 ++ wsX60 ++ wsX30 ++ (vx_atS RX7 101 "java/lang/IndexOutOfBoundsException" ["java/lang/RuntimeException", "java/lang/Exception"]).filter goodWord ++ (vx_atS RX7 108 "java/util/NoSuchElementException" ["java/lang/RuntimeException", "java/lang/Exception"]).filter goodWord)
def wsL_law0_r1 : List Cond := [Cond.classLink RL 8 RX7, Cond.instantiable RX7 10, Cond.initialized RX7, Cond.classLink RL 18 RX8, Cond.instantiable RX8 44, Cond.initialized RX8, Cond.arrayClass .long, Cond.methodLink RL 17 yX7_init, Cond.instanceMethod yX7_init, Cond.code yX7_init cX7_init 1 none, Cond.methodLink RX7 1 objectInit, Cond.instanceMethod objectInit, Cond.code objectInit ⟨#[0xb1]⟩ 1 none, Cond.classLink RX7 7 RX6, Cond.instantiable RX6 4, Cond.initialized RX6, Cond.fieldLink RX7 10 "AdvanceBook" "town" "LAdvanceBook$Town;", Cond.classLink RX7 16 RX5, Cond.instantiable RX5 2, Cond.initialized RX5, Cond.fieldLink RX7 19 "AdvanceBook" "tape" "LAdvanceBook$Tape;", Cond.classLink RX7 23 RX4, Cond.instantiable RX4 7, Cond.initialized RX4]
def wsL_law0_r2 : List Cond := [Cond.fieldLink RX7 26 "AdvanceBook" "reader" "LAdvanceBook$Reader;", Cond.classLink RX7 30 RX0, Cond.instantiable RX0 5, Cond.initialized RX0, Cond.fieldLink RX7 33 "AdvanceBook" "balance" "LAdvanceBook$Balance;", Cond.classLink RX7 37 RX2, Cond.instantiable RX2 5, Cond.initialized RX2, Cond.fieldLink RX7 40 "AdvanceBook" "asThingsAre" "LAdvanceBook$Decree;", Cond.classLink RX7 44 RX1, Cond.instantiable RX1 10, Cond.initialized RX1, Cond.fieldLink RX7 47 "AdvanceBook" "clearingAtHand" "LAdvanceBook$Clearing;", Cond.fieldLink RX7 51 "AdvanceBook" "clearingOfEnd" "LAdvanceBook$Clearing;", Cond.fieldLink RX7 54 "AdvanceBook" "decreeAtHand" "LAdvanceBook$Decree;", Cond.fieldLink RX7 57 "AdvanceBook" "draft" "LAdvanceBook$Decree;", Cond.fieldLink RX7 60 "AdvanceBook" "isDecreeAtHand" "Z", Cond.instanceMethod yX6_init, Cond.code yX6_init cX6_init 1 none, Cond.methodLink RX6 3 objectInit, Cond.arrayClass .int, Cond.fieldLink RX6 9 "AdvanceBook$Town" "purses" "[I", Cond.classLink RX6 15 RX3, Cond.instantiable RX3 11]
def wsL_law0_r3 : List Cond := [Cond.initialized RX3, Cond.fieldLink RX6 18 "AdvanceBook$Town" "papers" "LAdvanceBook$Papers;", Cond.fieldLink RX6 22 "AdvanceBook$Town" "men" "I", Cond.fieldLink RX6 26 "AdvanceBook$Town" "today" "I", Cond.instanceMethod yX3_init, Cond.code yX3_init cX3_init 1 none, Cond.methodLink RX3 3 objectInit, Cond.fieldLink RX3 9 "AdvanceBook$Papers" "toldDebtors" "[I", Cond.fieldLink RX3 15 "AdvanceBook$Papers" "toldCreditors" "[I", Cond.fieldLink RX3 18 "AdvanceBook$Papers" "toldCoins" "[I", Cond.fieldLink RX3 21 "AdvanceBook$Papers" "toldRanks" "[I", Cond.fieldLink RX3 24 "AdvanceBook$Papers" "days" "[I", Cond.arrayClass .boolean, Cond.fieldLink RX3 27 "AdvanceBook$Papers" "copies" "[Z", Cond.fieldLink RX3 31 "AdvanceBook$Papers" "debtors" "[I", Cond.fieldLink RX3 34 "AdvanceBook$Papers" "creditors" "[I", Cond.fieldLink RX3 37 "AdvanceBook$Papers" "ranks" "[I", Cond.fieldLink RX3 40 "AdvanceBook$Papers" "lefts" "[I", Cond.fieldLink RX3 43 "AdvanceBook$Papers" "size" "I", Cond.instanceMethod yX5_init, Cond.code yX5_init cX5_init 1 none, Cond.methodLink RX5 3 objectInit, Cond.fieldLink RX5 9 "AdvanceBook$Tape" "bytes" "[I", Cond.fieldLink RX5 15 "AdvanceBook$Tape" "length" "I"]
def wsL_law0_r4 : List Cond := [Cond.instanceMethod yX4_init, Cond.code yX4_init cX4_init 1 none, Cond.methodLink RX4 3 objectInit, Cond.fieldLink RX4 9 "AdvanceBook$Reader" "text" "[I", Cond.fieldLink RX4 15 "AdvanceBook$Reader" "length" "I", Cond.fieldLink RX4 19 "AdvanceBook$Reader" "kind" "I", Cond.fieldLink RX4 22 "AdvanceBook$Reader" "start" "I", Cond.fieldLink RX4 25 "AdvanceBook$Reader" "next" "I", Cond.fieldLink RX4 28 "AdvanceBook$Reader" "fault" "I", Cond.fieldLink RX4 31 "AdvanceBook$Reader" "faultPlace" "I", Cond.instanceMethod yX0_init, Cond.code yX0_init cX0_init 1 none, Cond.methodLink RX0 3 objectInit, Cond.fieldLink RX0 9 "AdvanceBook$Balance" "open" "[I", Cond.fieldLink RX0 15 "AdvanceBook$Balance" "payers" "[I", Cond.fieldLink RX0 18 "AdvanceBook$Balance" "getters" "[I", Cond.fieldLink RX0 21 "AdvanceBook$Balance" "coins" "[I", Cond.fieldLink RX0 24 "AdvanceBook$Balance" "moves" "I", Cond.methodLink RX7 39 yX2_init, Cond.instanceMethod yX2_init, Cond.code yX2_init cX2_init 1 none, Cond.methodLink RX2 3 objectInit, Cond.fieldLink RX2 9 "AdvanceBook$Decree" "cuts" "[I", Cond.fieldLink RX2 15 "AdvanceBook$Decree" "moves" "[I"]
def wsL_law0_r5 : List Cond := [Cond.methodLink RX2 18 yX2_empty, Cond.instanceMethod yX2_empty, Cond.selects RX2 yX2_empty yX2_empty, Cond.code yX2_empty cX2_empty 1 none, Cond.fieldLink RX2 27 "AdvanceBook$Decree" "spare" "I", Cond.fieldLink RX2 31 "AdvanceBook$Decree" "before" "I", Cond.fieldLink RX2 34 "AdvanceBook$Decree" "lines" "I", Cond.methodLink RX2 21 yJ7_fill_53178, Cond.static yJ7_fill_53178, Cond.initialized RJ7, Cond.code yJ7_fill_53178 cJ7_fill_53178 4 none, Cond.instanceMethod yX1_init, Cond.code yX1_init cX1_init 1 none, Cond.methodLink RX1 3 objectInit, Cond.fieldLink RX1 9 "AdvanceBook$Clearing" "paid" "[I", Cond.fieldLink RX1 15 "AdvanceBook$Clearing" "order" "[I", Cond.fieldLink RX1 18 "AdvanceBook$Clearing" "has" "[I", Cond.fieldLink RX1 21 "AdvanceBook$Clearing" "unpaid" "[I", Cond.fieldLink RX1 24 "AdvanceBook$Clearing" "failed" "[I", Cond.fieldLink RX1 27 "AdvanceBook$Clearing" "lost" "[I", Cond.fieldLink RX1 30 "AdvanceBook$Clearing" "lastInOrder" "[I", Cond.fieldLink RX1 33 "AdvanceBook$Clearing" "men" "I", Cond.fieldLink RX1 37 "AdvanceBook$Clearing" "papers" "I", Cond.fieldLink RX1 40 "AdvanceBook$Clearing" "rounds" "I"]
def wsL_law0_r6 : List Cond := [Cond.methodLink RL 20 yX8_init, Cond.instanceMethod yX8_init, Cond.code yX8_init cX8_init 1 none, Cond.methodLink RX8 1 objectInit, Cond.fieldLink RX8 7 "AdvanceBookModel" "tape" "[I", Cond.fieldLink RX8 13 "AdvanceBookModel" "purse" "[I", Cond.fieldLink RX8 16 "AdvanceBookModel" "debtor" "[I", Cond.fieldLink RX8 19 "AdvanceBookModel" "creditor" "[I", Cond.fieldLink RX8 22 "AdvanceBookModel" "toldDebtor" "[I", Cond.fieldLink RX8 25 "AdvanceBookModel" "toldCreditor" "[I", Cond.fieldLink RX8 28 "AdvanceBookModel" "toldRank" "[I", Cond.fieldLink RX8 31 "AdvanceBookModel" "coins" "[I", Cond.fieldLink RX8 34 "AdvanceBookModel" "rank" "[I", Cond.fieldLink RX8 37 "AdvanceBookModel" "left" "[I", Cond.fieldLink RX8 40 "AdvanceBookModel" "day" "[I", Cond.fieldLink RX8 43 "AdvanceBookModel" "isCopy" "[Z", Cond.fieldLink RX8 47 "AdvanceBookModel" "rule" "[I", Cond.fieldLink RX8 50 "AdvanceBookModel" "faultPlace" "I", Cond.fieldLink RX8 54 "AdvanceBookModel" "nets" "[I", Cond.fieldLink RX8 57 "AdvanceBookModel" "words" "[I", Cond.fieldLink RX8 60 "AdvanceBookModel" "owed" "[I", Cond.fieldLink RX8 63 "AdvanceBookModel" "ranks" "[I", Cond.fieldLink RX8 66 "AdvanceBookModel" "paid" "[I", Cond.fieldLink RX8 69 "AdvanceBookModel" "was" "[I"]
def wsL_law0_r7 : List Cond := [Cond.fieldLink RX8 72 "AdvanceBookModel" "failed" "[I", Cond.fieldLink RX8 75 "AdvanceBookModel" "cPaid" "[I", Cond.fieldLink RX8 78 "AdvanceBookModel" "cHas" "[I", Cond.fieldLink RX8 81 "AdvanceBookModel" "cFailed" "[I", Cond.fieldLink RX8 84 "AdvanceBookModel" "cOwes" "[I", Cond.methodLink RL 21 yX7_feed, Cond.instanceMethod yX7_feed, Cond.selects RX7 yX7_feed yX7_feed, Cond.code yX7_feed cX7_feed 6 (some .int), Cond.methodLink RX7 68 yX5_append, Cond.instanceMethod yX5_append, Cond.selects RX5 yX5_append yX5_append, Cond.code yX5_append cX5_append 3 none, Cond.methodLink RL 25 yX8_feed, Cond.instanceMethod yX8_feed, Cond.selects RX8 yX8_feed yX8_feed, Cond.code yX8_feed cX8_feed 8 (some .int), Cond.fieldLink RX8 87 "AdvanceBookModel" "thrown" "I", Cond.fieldLink RX8 90 "AdvanceBookModel" "tapeSize" "I", Cond.methodLink RL 26 yX7_man, Cond.instanceMethod yX7_man, Cond.selects RX7 yX7_man yX7_man, Cond.code yX7_man cX7_man 2 (some .int), Cond.constant RX7 72 (99999)]
def wsL_law0_r8 : List Cond := [Cond.methodLink RX7 73 yX6_settle, Cond.instanceMethod yX6_settle, Cond.selects RX6 yX6_settle yX6_settle, Cond.code yX6_settle cX6_settle 2 (some .int), Cond.methodLink RL 30 yX8_man, Cond.instanceMethod yX8_man, Cond.selects RX8 yX8_man yX8_man, Cond.code yX8_man cX8_man 2 (some .int), Cond.constant RX8 93 (99999), Cond.fieldLink RX8 94 "AdvanceBookModel" "men" "I", Cond.methodLink RL 31 yX7_paper, Cond.instanceMethod yX7_paper, Cond.selects RX7 yX7_paper yX7_paper, Cond.code yX7_paper cX7_paper 5 (some .int), Cond.methodLink RX7 77 yX6_hasMan, Cond.instanceMethod yX6_hasMan, Cond.selects RX6 yX6_hasMan yX6_hasMan, Cond.code yX6_hasMan cX6_hasMan 2 (some .boolean), Cond.methodLink RX7 88 yX3_write, Cond.instanceMethod yX3_write, Cond.selects RX3 yX3_write yX3_write, Cond.code yX3_write cX3_write 8 (some .int), Cond.methodLink RX3 47 yX3_isTold, Cond.instanceMethod yX3_isTold]
def wsL_law0_r9 : List Cond := [Cond.selects RX3 yX3_isTold yX3_isTold, Cond.code yX3_isTold cX3_isTold 7 (some .boolean), Cond.methodLink RL 35 yX8_paper, Cond.instanceMethod yX8_paper, Cond.selects RX8 yX8_paper yX8_paper, Cond.code yX8_paper cX8_paper 7 (some .int), Cond.fieldLink RX8 101 "AdvanceBookModel" "papers" "I", Cond.fieldLink RX8 104 "AdvanceBookModel" "today" "I", Cond.methodLink RX8 97 yX8_isMan, Cond.instanceMethod yX8_isMan, Cond.selects RX8 yX8_isMan yX8_isMan, Cond.code yX8_isMan cX8_isMan 2 (some .boolean), Cond.methodLink RL 36 yL_look, Cond.static yL_look, Cond.initialized RL, Cond.codeWith yL_look cL_look 5 (some .int) [(0, 10, 13, 13), (0, 10, 17, 15)], Cond.classLink RL 13 "java/lang/IndexOutOfBoundsException", Cond.classLink RL 15 "java/util/NoSuchElementException", Cond.methodLink RL 7 yX7_look, Cond.instanceMethod yX7_look, Cond.selects RX7 yX7_look yX7_look, Cond.code yX7_look cX7_look 3 (some .int), Cond.classLink RX7 97 "java/lang/IndexOutOfBoundsException", Cond.initialized "java/lang/IndexOutOfBoundsException"]
def wsL_law0_r10 : List Cond := [Cond.classLink RX7 104 "java/util/NoSuchElementException", Cond.initialized "java/util/NoSuchElementException", Cond.methodLink RX7 94 yX3_holds, Cond.instanceMethod yX3_holds, Cond.selects RX3 yX3_holds yX3_holds, Cond.code yX3_holds cX3_holds 2 (some .boolean), Cond.methodLink RX7 109 yX3_tell, Cond.instanceMethod yX3_tell, Cond.selects RX3 yX3_tell yX3_tell, Cond.code yX3_tell cX3_tell 3 (some .int), Cond.methodLink RL 41 yX8_look, Cond.instanceMethod yX8_look, Cond.selects RX8 yX8_look yX8_look, Cond.code yX8_look cX8_look 3 (some .int), Cond.methodLink RX8 107 yX8_fails, Cond.instanceMethod yX8_fails, Cond.selects RX8 yX8_fails yX8_fails, Cond.code yX8_fails cX8_fails 2 (some .int), Cond.methodLink RL 42 yX8_thrown, Cond.instanceMethod yX8_thrown, Cond.selects RX8 yX8_thrown yX8_thrown, Cond.code yX8_thrown cX8_thrown 1 (some .int), Cond.methodLink RL 46 yX7_pass, Cond.instanceMethod yX7_pass]
def wsL_law0_r11 : List Cond := [Cond.selects RX7 yX7_pass yX7_pass, Cond.code yX7_pass cX7_pass 2 (some .int), Cond.methodLink RL 49 yX8_pass, Cond.instanceMethod yX8_pass, Cond.selects RX8 yX8_pass yX8_pass, Cond.code yX8_pass cX8_pass 2 (some .int), Cond.methodLink RL 50 yX7_purse, Cond.instanceMethod yX7_purse, Cond.selects RX7 yX7_purse yX7_purse, Cond.code yX7_purse cX7_purse 2 (some .int), Cond.methodLink RL 53 yX8_purse, Cond.instanceMethod yX8_purse, Cond.selects RX8 yX8_purse yX8_purse, Cond.code yX8_purse cX8_purse 2 (some .int), Cond.methodLink RL 54 yX7_net, Cond.instanceMethod yX7_net, Cond.selects RX7 yX7_net yX7_net, Cond.code yX7_net cX7_net 2 (some .int), Cond.constant RX7 122 (-2147483648), Cond.methodLink RX7 117 yX3_netOf, Cond.instanceMethod yX3_netOf, Cond.selects RX3 yX3_netOf yX3_netOf, Cond.code yX3_netOf cX3_netOf 4 (some .int), Cond.methodLink RL 57 yX8_net]
def wsL_law0_r12 : List Cond := [Cond.instanceMethod yX8_net, Cond.selects RX8 yX8_net yX8_net, Cond.code yX8_net cX8_net 2 (some .int), Cond.constant RX8 114 (-2147483648), Cond.methodLink RX8 111 yX8_netOf, Cond.instanceMethod yX8_netOf, Cond.selects RX8 yX8_netOf yX8_netOf, Cond.code yX8_netOf cX8_netOf 4 (some .int), Cond.methodLink RL 58 yX7_thread, Cond.instanceMethod yX7_thread, Cond.selects RX7 yX7_thread yX7_thread, Cond.code yX7_thread cX7_thread 1 (some .int), Cond.methodLink RX7 123 yX0_workOut, Cond.instanceMethod yX0_workOut, Cond.selects RX0 yX0_workOut yX0_workOut, Cond.code yX0_workOut cX0_workOut 4 none, Cond.methodLink RX0 37 yX3_netOf, Cond.methodLink RX0 43 yX0_addMove, Cond.instanceMethod yX0_addMove, Cond.selects RX0 yX0_addMove yX0_addMove, Cond.code yX0_addMove cX0_addMove 4 none, Cond.methodLink RX0 47 Lib.Math.min.name, Cond.static Lib.Math.min.name, Cond.initialized "java/lang/Math"]
def wsL_law0_r13 : List Cond := [Cond.code Lib.Math.min.name Lib.Math.min.code 2 (some .int), Cond.methodLink RX7 127 yX0_coinsMoved, Cond.instanceMethod yX0_coinsMoved, Cond.selects RX0 yX0_coinsMoved yX0_coinsMoved, Cond.code yX0_coinsMoved cX0_coinsMoved 3 (some .int), Cond.methodLink RL 61 yX8_thread, Cond.instanceMethod yX8_thread, Cond.selects RX8 yX8_thread yX8_thread, Cond.code yX8_thread cX8_thread 3 (some .int), Cond.methodLink RL 62 yX7_move, Cond.instanceMethod yX7_move, Cond.selects RX7 yX7_move yX7_move, Cond.code yX7_move cX7_move 3 (some .int), Cond.methodLink RX7 131 yX0_tell, Cond.instanceMethod yX0_tell, Cond.selects RX0 yX0_tell yX0_tell, Cond.code yX0_tell cX0_tell 3 (some .int), Cond.methodLink RL 65 yX8_move, Cond.instanceMethod yX8_move, Cond.selects RX8 yX8_move yX8_move, Cond.code yX8_move cX8_move 7 (some .int), Cond.methodLink RL 66 yX7_boat, Cond.instanceMethod yX7_boat, Cond.selects RX7 yX7_boat yX7_boat]
def wsL_law0_r14 : List Cond := [Cond.code yX7_boat cX7_boat 5 (some .int), Cond.methodLink RX7 132 yX6_isCrew, Cond.instanceMethod yX6_isCrew, Cond.selects RX6 yX6_isCrew yX6_isCrew, Cond.code yX6_isCrew cX6_isCrew 3 (some .boolean), Cond.methodLink RX7 136 yX6_shareBoat, Cond.instanceMethod yX6_shareBoat, Cond.selects RX6 yX6_shareBoat yX6_shareBoat, Cond.code yX6_shareBoat cX6_shareBoat 9 (some .int), Cond.methodLink RX6 29 yJ6_bitCount_0f7a4, Cond.static yJ6_bitCount_0f7a4, Cond.initialized RJ6, Cond.code yJ6_bitCount_0f7a4 cJ6_bitCount_0f7a4 1 (some .int), Cond.constant RJ6 265 (1431655765), Cond.constant RJ6 266 (858993459), Cond.constant RJ6 267 (252645135), Cond.methodLink RL 69 yX8_boat, Cond.instanceMethod yX8_boat, Cond.selects RX8 yX8_boat yX8_boat, Cond.code yX8_boat cX8_boat 8 (some .int), Cond.methodLink RL 70 yX7_heir, Cond.instanceMethod yX7_heir, Cond.selects RX7 yX7_heir yX7_heir, Cond.code yX7_heir cX7_heir 3 (some .boolean)]
def wsL_law0_r15 : List Cond := [Cond.methodLink RX7 140 yX6_handOver, Cond.instanceMethod yX6_handOver, Cond.selects RX6 yX6_handOver yX6_handOver, Cond.code yX6_handOver cX6_handOver 3 none, Cond.methodLink RX6 35 yX3_handOver, Cond.instanceMethod yX3_handOver, Cond.selects RX3 yX3_handOver yX3_handOver, Cond.code yX3_handOver cX3_handOver 4 none, Cond.methodLink RL 74 yX8_heir, Cond.instanceMethod yX8_heir, Cond.selects RX8 yX8_heir yX8_heir, Cond.code yX8_heir cX8_heir 5 (some .boolean), Cond.methodLink RL 75 yX7_decree, Cond.instanceMethod yX7_decree, Cond.selects RX7 yX7_decree yX7_decree, Cond.code yX7_decree cX7_decree 3 (some .int), Cond.methodLink RX7 144 yX4_read, Cond.instanceMethod yX4_read, Cond.selects RX4 yX4_read yX4_read, Cond.code yX4_read cX4_read 5 none, Cond.methodLink RX4 37 Lib.Math.min.name, Cond.methodLink RX4 46 yX2_empty, Cond.methodLink RX4 51 yX4_step, Cond.instanceMethod yX4_step]
def wsL_law0_r16 : List Cond := [Cond.selects RX4 yX4_step yX4_step, Cond.code yX4_step cX4_step 1 none, Cond.methodLink RX4 122 yX4_kindOf, Cond.static yX4_kindOf, Cond.code yX4_kindOf cX4_kindOf 1 (some .int), Cond.methodLink RX4 125 yX4_isInARow, Cond.instanceMethod yX4_isInARow, Cond.selects RX4 yX4_isInARow yX4_isInARow, Cond.code yX4_isInARow cX4_isInARow 1 (some .boolean), Cond.methodLink RX4 54 yX4_readLine, Cond.instanceMethod yX4_readLine, Cond.selects RX4 yX4_readLine yX4_readLine, Cond.code yX4_readLine cX4_readLine 2 none, Cond.methodLink RX4 60 yX4_isWord, Cond.instanceMethod yX4_isWord, Cond.selects RX4 yX4_isWord yX4_isWord, Cond.code yX4_isWord cX4_isWord 3 (some .boolean), Cond.methodLink RX4 114 yJ0_length_8abf5, Cond.instanceMethod yJ0_length_8abf5, Cond.selects RJ0 yJ0_length_8abf5 yJ0_length_8abf5, Cond.initialized RJ0, Cond.code yJ0_length_8abf5 cJ0_length_8abf5 1 (some .int), Cond.fieldLink RJ0 9 "java/lang/String" "value" "[B", Cond.methodLink RJ0 335 yJ0_coder_7d493]
def wsL_law0_r17 : List Cond := [Cond.instanceMethod yJ0_coder_7d493, Cond.selects RJ0 yJ0_coder_7d493 yJ0_coder_7d493, Cond.code yJ0_coder_7d493 cJ0_coder_7d493 1 (some .byte), Cond.fieldLink RJ0 38 "java/lang/String" "COMPACT_STRINGS" "Z", Cond.fieldLink RJ0 15 "java/lang/String" "coder" "B", Cond.methodLink RX4 118 yJ0_charAt_5068e, Cond.instanceMethod yJ0_charAt_5068e, Cond.selects RJ0 yJ0_charAt_5068e yJ0_charAt_5068e, Cond.code yJ0_charAt_5068e cJ0_charAt_5068e 2 (some .char), Cond.methodLink RJ0 492 yJ0_isLatin1_aae02, Cond.instanceMethod yJ0_isLatin1_aae02, Cond.selects RJ0 yJ0_isLatin1_aae02 yJ0_isLatin1_aae02, Cond.code yJ0_isLatin1_aae02 cJ0_isLatin1_aae02 1 (some .boolean), Cond.methodLink RJ0 495 yJ1_charAt_3b067, Cond.static yJ1_charAt_3b067, Cond.initialized RJ1, Cond.code yJ1_charAt_3b067 cJ1_charAt_3b067 2 (some .char), Cond.methodLink RJ1 9 yJ0_checkIndex_df160, Cond.static yJ0_checkIndex_df160, Cond.code yJ0_checkIndex_df160 cJ0_checkIndex_df160 2 none, Cond.fieldLink RJ0 1053 "jdk/internal/util/Preconditions" "SIOOBE_FORMATTER" "Ljava/util/function/BiFunction;", Cond.methodLink RJ0 1059 yJ3_checkIndex_8e157, Cond.static yJ3_checkIndex_8e157, Cond.initialized RJ3]
def wsL_law0_r18 : List Cond := [Cond.code yJ3_checkIndex_8e157 cJ3_checkIndex_8e157 3 (some .int), Cond.methodLink RJ0 498 yJ2_charAt_3b067, Cond.static yJ2_charAt_3b067, Cond.initialized RJ2, Cond.code yJ2_charAt_3b067 cJ2_charAt_3b067 2 (some .char), Cond.methodLink RJ2 67 yJ2_checkIndex_2214a, Cond.static yJ2_checkIndex_2214a, Cond.code yJ2_checkIndex_2214a cJ2_checkIndex_2214a 2 none, Cond.methodLink RJ2 48 yJ2_length_9d52b, Cond.static yJ2_length_9d52b, Cond.code yJ2_length_9d52b cJ2_length_9d52b 1 (some .int), Cond.methodLink RJ2 414 yJ0_checkIndex_df160, Cond.methodLink RJ2 71 yJ2_getChar_3b067, Cond.static yJ2_getChar_3b067, Cond.code yJ2_getChar_3b067 cJ2_getChar_3b067 2 (some .char), Cond.fieldLink RJ2 44 "java/lang/StringUTF16" "$assertionsDisabled" "Z", Cond.fieldLink RJ2 59 "java/lang/StringUTF16" "HI_BYTE_SHIFT" "I", Cond.fieldLink RJ2 63 "java/lang/StringUTF16" "LO_BYTE_SHIFT" "I", Cond.methodLink RX4 64 yX4_readCut, Cond.instanceMethod yX4_readCut, Cond.selects RX4 yX4_readCut yX4_readCut, Cond.code yX4_readCut cX4_readCut 3 none, Cond.methodLink RX4 95 yX4_blameRankOf, Cond.instanceMethod yX4_blameRankOf]
def wsL_law0_r19 : List Cond := [Cond.selects RX4 yX4_blameRankOf yX4_blameRankOf, Cond.code yX4_blameRankOf cX4_blameRankOf 3 none, Cond.methodLink RX4 110 yX4_numberAtHand, Cond.instanceMethod yX4_numberAtHand, Cond.selects RX4 yX4_numberAtHand yX4_numberAtHand, Cond.code yX4_numberAtHand cX4_numberAtHand 3 (some .int), Cond.methodLink RX4 82 yX4_blame, Cond.instanceMethod yX4_blame, Cond.selects RX4 yX4_blame yX4_blame, Cond.code yX4_blame cX4_blame 2 none, Cond.methodLink RX4 99 yX4_readNumber, Cond.instanceMethod yX4_readNumber, Cond.selects RX4 yX4_readNumber yX4_readNumber, Cond.code yX4_readNumber cX4_readNumber 3 (some .int), Cond.methodLink RX4 69 yX4_readMove, Cond.instanceMethod yX4_readMove, Cond.selects RX4 yX4_readMove yX4_readMove, Cond.code yX4_readMove cX4_readMove 3 none, Cond.methodLink RX4 74 yX4_readSpare, Cond.instanceMethod yX4_readSpare, Cond.selects RX4 yX4_readSpare yX4_readSpare, Cond.code yX4_readSpare cX4_readSpare 2 none, Cond.methodLink RX4 79 yX4_readBefore, Cond.instanceMethod yX4_readBefore]
def wsL_law0_r20 : List Cond := [Cond.selects RX4 yX4_readBefore yX4_readBefore, Cond.code yX4_readBefore cX4_readBefore 2 none, Cond.methodLink RX4 86 yX4_readSemicolon, Cond.instanceMethod yX4_readSemicolon, Cond.selects RX4 yX4_readSemicolon yX4_readSemicolon, Cond.code yX4_readSemicolon cX4_readSemicolon 1 none, Cond.methodLink RL 78 yX8_decree, Cond.instanceMethod yX8_decree, Cond.selects RX8 yX8_decree yX8_decree, Cond.code yX8_decree cX8_decree 4 (some .int), Cond.fieldLink RX8 118 "AdvanceBookModel" "size" "I", Cond.fieldLink RX8 115 "AdvanceBookModel" "fault" "I", Cond.fieldLink RX8 121 "AdvanceBookModel" "next" "I", Cond.fieldLink RX8 127 "AdvanceBookModel" "kind" "I", Cond.fieldLink RX8 124 "AdvanceBookModel" "place" "I", Cond.fieldLink RX8 160 "AdvanceBookModel" "isDecree" "Z", Cond.fieldLink RX8 164 "AdvanceBookModel" "lines" "I", Cond.methodLink RX8 150 yX8_take, Cond.instanceMethod yX8_take, Cond.selects RX8 yX8_take yX8_take, Cond.code yX8_take cX8_take 1 none, Cond.fieldLink RX8 137 "AdvanceBookModel" "which" "I", Cond.methodLink RX8 130 yX8_isSmall, Cond.instanceMethod yX8_isSmall]
def wsL_law0_r21 : List Cond := [Cond.selects RX8 yX8_isSmall yX8_isSmall, Cond.code yX8_isSmall cX8_isSmall 2 (some .boolean), Cond.methodLink RX8 133 yX8_wordAt, Cond.instanceMethod yX8_wordAt, Cond.selects RX8 yX8_wordAt yX8_wordAt, Cond.code yX8_wordAt cX8_wordAt 8 (some .int), Cond.methodLink RX8 140 yX8_isDigit, Cond.instanceMethod yX8_isDigit, Cond.selects RX8 yX8_isDigit yX8_isDigit, Cond.code yX8_isDigit cX8_isDigit 2 (some .boolean), Cond.methodLink RX8 156 yX8_line, Cond.instanceMethod yX8_line, Cond.selects RX8 yX8_line yX8_line, Cond.code yX8_line cX8_line 4 (some .boolean), Cond.fieldLink RX8 147 "AdvanceBookModel" "read" "I", Cond.methodLink RX8 143 yX8_wrong, Cond.instanceMethod yX8_wrong, Cond.selects RX8 yX8_wrong yX8_wrong, Cond.code yX8_wrong cX8_wrong 3 (some .boolean), Cond.methodLink RX8 153 yX8_number, Cond.instanceMethod yX8_number, Cond.selects RX8 yX8_number yX8_number, Cond.code yX8_number cX8_number 2 (some .boolean), Cond.methodLink RL 79 yX7_fault]
def wsL_law0_r22 : List Cond := [Cond.instanceMethod yX7_fault, Cond.selects RX7 yX7_fault yX7_fault, Cond.code yX7_fault cX7_fault 2 (some .int), Cond.methodLink RL 82 yX8_fault, Cond.instanceMethod yX8_fault, Cond.selects RX8 yX8_fault yX8_fault, Cond.code yX8_fault cX8_fault 2 (some .int), Cond.methodLink RL 83 yX7_clear, Cond.instanceMethod yX7_clear, Cond.selects RX7 yX7_clear yX7_clear, Cond.code yX7_clear cX7_clear 2 (some .int), Cond.methodLink RX7 157 yX1_work, Cond.instanceMethod yX1_work, Cond.selects RX1 yX1_work yX1_work, Cond.code yX1_work cX1_work 5 none, Cond.constant RX1 59 (39961), Cond.methodLink RX1 43 yX1_takeStock, Cond.instanceMethod yX1_takeStock, Cond.selects RX1 yX1_takeStock yX1_takeStock, Cond.code yX1_takeStock cX1_takeStock 3 none, Cond.methodLink RX1 52 yX1_takeAllAsPaid, Cond.instanceMethod yX1_takeAllAsPaid, Cond.selects RX1 yX1_takeAllAsPaid yX1_takeAllAsPaid, Cond.code yX1_takeAllAsPaid cX1_takeAllAsPaid 5 none]
def wsL_law0_r23 : List Cond := [Cond.methodLink RX1 82 yX2_leftOf, Cond.instanceMethod yX2_leftOf, Cond.selects RX2 yX2_leftOf yX2_leftOf, Cond.code yX2_leftOf cX2_leftOf 5 (some .int), Cond.methodLink RX2 37 yX2_reaches, Cond.instanceMethod yX2_reaches, Cond.selects RX2 yX2_reaches yX2_reaches, Cond.code yX2_reaches cX2_reaches 2 (some .boolean), Cond.methodLink RX1 56 yX1_putInOrder, Cond.instanceMethod yX1_putInOrder, Cond.selects RX1 yX1_putInOrder yX1_putInOrder, Cond.code yX1_putInOrder cX1_putInOrder 6 none, Cond.methodLink RX1 94 yX2_rankFor, Cond.instanceMethod yX2_rankFor, Cond.selects RX2 yX2_rankFor yX2_rankFor, Cond.code yX2_rankFor cX2_rankFor 3 (some .int), Cond.methodLink RX1 60 yX1_goRound, Cond.instanceMethod yX1_goRound, Cond.selects RX1 yX1_goRound yX1_goRound, Cond.code yX1_goRound cX1_goRound 5 (some .boolean), Cond.methodLink RX1 98 yX1_payLess, Cond.instanceMethod yX1_payLess, Cond.selects RX1 yX1_payLess yX1_payLess, Cond.code yX1_payLess cX1_payLess 8 none]
def wsL_law0_r24 : List Cond := [Cond.methodLink RX1 105 Lib.Math.min.name, Cond.methodLink RX1 102 yX1_loseWhatIsNotPaid, Cond.instanceMethod yX1_loseWhatIsNotPaid, Cond.selects RX1 yX1_loseWhatIsNotPaid yX1_loseWhatIsNotPaid, Cond.code yX1_loseWhatIsNotPaid cX1_loseWhatIsNotPaid 2 none, Cond.methodLink RX7 161 yX1_menFailed, Cond.instanceMethod yX1_menFailed, Cond.selects RX1 yX1_menFailed yX1_menFailed, Cond.code yX1_menFailed cX1_menFailed 3 (some .int), Cond.methodLink RL 87 yX8_clear, Cond.instanceMethod yX8_clear, Cond.selects RX8 yX8_clear yX8_clear, Cond.code yX8_clear cX8_clear 4 (some .int), Cond.fieldLink RX8 186 "AdvanceBookModel" "isCleared" "Z", Cond.fieldLink RX8 189 "AdvanceBookModel" "cMen" "I", Cond.fieldLink RX8 192 "AdvanceBookModel" "cPapers" "I", Cond.fieldLink RX8 176 "AdvanceBookModel" "rounds" "I", Cond.fieldLink RX8 195 "AdvanceBookModel" "cRounds" "I", Cond.methodLink RX8 182 yX8_works, Cond.instanceMethod yX8_works, Cond.selects RX8 yX8_works yX8_works, Cond.code yX8_works cX8_works 5 none, Cond.methodLink RX8 170 yX8_leftBy, Cond.instanceMethod yX8_leftBy]
def wsL_law0_r25 : List Cond := [Cond.selects RX8 yX8_leftBy yX8_leftBy, Cond.code yX8_leftBy cX8_leftBy 3 (some .int), Cond.methodLink RX8 167 yX8_isMeant, Cond.instanceMethod yX8_isMeant, Cond.selects RX8 yX8_isMeant yX8_isMeant, Cond.code yX8_isMeant cX8_isMeant 2 (some .boolean), Cond.methodLink RX8 173 yX8_rankBy, Cond.instanceMethod yX8_rankBy, Cond.selects RX8 yX8_rankBy yX8_rankBy, Cond.code yX8_rankBy cX8_rankBy 2 (some .int), Cond.methodLink RX8 179 yX8_pays, Cond.instanceMethod yX8_pays, Cond.selects RX8 yX8_pays yX8_pays, Cond.code yX8_pays cX8_pays 8 (some .boolean), Cond.methodLink RL 88 yX7_cleared, Cond.instanceMethod yX7_cleared, Cond.selects RX7 yX7_cleared yX7_cleared, Cond.code yX7_cleared cX7_cleared 3 (some .int), Cond.methodLink RX7 164 yX1_tell, Cond.instanceMethod yX1_tell, Cond.selects RX1 yX1_tell yX1_tell, Cond.code yX1_tell cX1_tell 3 (some .int), Cond.methodLink RL 91 yX8_cleared, Cond.instanceMethod yX8_cleared]
def wsL_law0_r26 : List Cond := [Cond.selects RX8 yX8_cleared yX8_cleared, Cond.code yX8_cleared cX8_cleared 3 (some .int), Cond.methodLink RL 92 yX7_enact, Cond.instanceMethod yX7_enact, Cond.selects RX7 yX7_enact yX7_enact, Cond.code yX7_enact cX7_enact 1 (some .int), Cond.methodLink RX7 165 yX3_obey, Cond.instanceMethod yX3_obey, Cond.selects RX3 yX3_obey yX3_obey, Cond.code yX3_obey cX3_obey 5 (some .int), Cond.methodLink RX3 51 yX2_leftOf, Cond.methodLink RX3 57 yX2_rankFor, Cond.methodLink RL 95 yX8_enact, Cond.instanceMethod yX8_enact, Cond.selects RX8 yX8_enact yX8_enact, Cond.code yX8_enact cX8_enact 5 (some .int), Cond.methodLink RL 96 yX7_end, Cond.instanceMethod yX7_end, Cond.selects RX7 yX7_end yX7_end, Cond.code yX7_end cX7_end 1 (some .int), Cond.methodLink RX7 169 yX6_carryOut, Cond.instanceMethod yX6_carryOut, Cond.selects RX6 yX6_carryOut yX6_carryOut, Cond.code yX6_carryOut cX6_carryOut 3 none]
def wsL_law0_r27 : List Cond := [Cond.methodLink RX7 173 yX1_coinsPaid, Cond.instanceMethod yX1_coinsPaid, Cond.selects RX1 yX1_coinsPaid yX1_coinsPaid, Cond.code yX1_coinsPaid cX1_coinsPaid 3 (some .int), Cond.methodLink RL 99 yX8_end, Cond.instanceMethod yX8_end, Cond.selects RX8 yX8_end yX8_end, Cond.code yX8_end cX8_end 3 (some .int), Cond.methodLink RL 100 yX7_count, Cond.instanceMethod yX7_count, Cond.selects RX7 yX7_count yX7_count, Cond.code yX7_count cX7_count 2 (some .int), Cond.methodLink RX7 182 yX3_leftInAll, Cond.instanceMethod yX3_leftInAll, Cond.selects RX3 yX3_leftInAll yX3_leftInAll, Cond.code yX3_leftInAll cX3_leftInAll 3 (some .int), Cond.methodLink RX7 185 yX6_allPurses, Cond.instanceMethod yX6_allPurses, Cond.selects RX6 yX6_allPurses yX6_allPurses, Cond.code yX6_allPurses cX6_allPurses 3 (some .int), Cond.methodLink RL 103 yX8_count, Cond.instanceMethod yX8_count, Cond.selects RX8 yX8_count yX8_count, Cond.code yX8_count cX8_count 4 (some .int)]
def wsL_law0 : List Cond := (wsL_law0_r1 ++ (wsL_law0_r2 ++ (wsL_law0_r3 ++ (wsL_law0_r4 ++ (wsL_law0_r5 ++ (wsL_law0_r6 ++ (wsL_law0_r7 ++ (wsL_law0_r8 ++ (wsL_law0_r9 ++ (wsL_law0_r10 ++ (wsL_law0_r11 ++ (wsL_law0_r12 ++ (wsL_law0_r13 ++ (wsL_law0_r14 ++ (wsL_law0_r15 ++ (wsL_law0_r16 ++ (wsL_law0_r17 ++ (wsL_law0_r18 ++ (wsL_law0_r19 ++ (wsL_law0_r20 ++ (wsL_law0_r21 ++ (wsL_law0_r22 ++ (wsL_law0_r23 ++ (wsL_law0_r24 ++ (wsL_law0_r25 ++ (wsL_law0_r26 ++ wsL_law0_r27)))))))))))))))))))))))))) ++ wsX70 ++ wsX80 ++ wsX60 ++ wsX50 ++ wsX40 ++ wsX00 ++ wsX20 ++ wsX10 ++ wsX30 ++ ([] : List Cond)
def wsL_law : List Cond := wsL_law0 ++ (vx_atS RX7 101 "java/lang/IndexOutOfBoundsException" ["java/lang/RuntimeException", "java/lang/Exception"]).filter goodWord ++ (vx_atS RX7 108 "java/util/NoSuchElementException" ["java/lang/RuntimeException", "java/lang/Exception"]).filter goodWord
end
section
theorem dX0_init_0 : decode cX0_init 0 = .ok (.aload_n 0, 1) := by decide +kernel
theorem dX0_init_1 : decode cX0_init 1 = .ok (.invokespecial 3, 3) := by decide +kernel
theorem dX0_init_4 : decode cX0_init 4 = .ok (.aload_n 0, 1) := by decide +kernel
theorem dX0_init_5 : decode cX0_init 5 = .ok (.bipush 10, 2) := by decide +kernel
theorem dX0_init_7 : decode cX0_init 7 = .ok (.newarray .int, 2) := by decide +kernel
theorem dX0_init_9 : decode cX0_init 9 = .ok (.putfield 9, 3) := by decide +kernel
theorem dX0_init_12 : decode cX0_init 12 = .ok (.aload_n 0, 1) := by decide +kernel
theorem dX0_init_13 : decode cX0_init 13 = .ok (.bipush 10, 2) := by decide +kernel
theorem dX0_init_15 : decode cX0_init 15 = .ok (.newarray .int, 2) := by decide +kernel
theorem dX0_init_17 : decode cX0_init 17 = .ok (.putfield 15, 3) := by decide +kernel
theorem dX0_init_20 : decode cX0_init 20 = .ok (.aload_n 0, 1) := by decide +kernel
theorem dX0_init_21 : decode cX0_init 21 = .ok (.bipush 10, 2) := by decide +kernel
theorem dX0_init_23 : decode cX0_init 23 = .ok (.newarray .int, 2) := by decide +kernel
theorem dX0_init_25 : decode cX0_init 25 = .ok (.putfield 18, 3) := by decide +kernel
theorem dX0_init_28 : decode cX0_init 28 = .ok (.aload_n 0, 1) := by decide +kernel
theorem dX0_init_29 : decode cX0_init 29 = .ok (.bipush 10, 2) := by decide +kernel
theorem dX0_init_31 : decode cX0_init 31 = .ok (.newarray .int, 2) := by decide +kernel
theorem dX0_init_33 : decode cX0_init 33 = .ok (.putfield 21, 3) := by decide +kernel
theorem dX0_init_36 : decode cX0_init 36 = .ok (.aload_n 0, 1) := by decide +kernel
theorem dX0_init_37 : decode cX0_init 37 = .ok (.iconst 0, 1) := by decide +kernel
theorem dX0_init_38 : decode cX0_init 38 = .ok (.putfield 24, 3) := by decide +kernel
theorem dX0_init_41 : decode cX0_init 41 = .ok (.return_, 1) := by decide +kernel
set_option maxRecDepth 20000 in
theorem ggX0_workOut_X3_netOf : GoodIn wsX0_workOut wsX3_netOf := goodIn_r _ [7, 8, 9, 10, 11, 33, 34, 35, 36, 37, 38, 39, 40, 41, 42, 43] (by decide +kernel) (by decide +kernel)
set_option maxRecDepth 20000 in
theorem gX0_workOut_X3_netOf : GoodIn wsX0_workOut (wsV RX0 37 RX3 yX3_netOf wsX3_netOf) := goodIn_app (goodIn_of _ (by decide +kernel)) ggX0_workOut_X3_netOf
set_option maxRecDepth 20000 in
theorem ggX0_workOut_X0_addMove : GoodIn wsX0_workOut wsX0_addMove := goodIn_r _ [16, 1, 2, 17, 18, 19, 20, 21, 22, 23, 24, 25, 26, 27, 28] (by decide +kernel) (by decide +kernel)
set_option maxRecDepth 20000 in
theorem gX0_workOut_X0_addMove : GoodIn wsX0_workOut (wsV RX0 43 RX0 yX0_addMove wsX0_addMove) := goodIn_app (goodIn_of _ (by decide +kernel)) ggX0_workOut_X0_addMove
theorem dX0_workOut_0 : decode cX0_workOut 0 = .ok (.aload_n 0, 1) := by decide +kernel
theorem dX0_workOut_1 : decode cX0_workOut 1 = .ok (.iconst 0, 1) := by decide +kernel
theorem dX0_workOut_2 : decode cX0_workOut 2 = .ok (.putfield 24, 3) := by decide +kernel
theorem dX0_workOut_5 : decode cX0_workOut 5 = .ok (.iconst 0, 1) := by decide +kernel
theorem dX0_workOut_6 : decode cX0_workOut 6 = .ok (.istore_n 2, 1) := by decide +kernel
theorem dX0_workOut_7 : decode cX0_workOut 7 = .ok (.iload_n 2, 1) := by decide +kernel
theorem dX0_workOut_8 : decode cX0_workOut 8 = .ok (.aload_n 1, 1) := by decide +kernel
theorem dX0_workOut_9 : decode cX0_workOut 9 = .ok (.getfield 28, 3) := by decide +kernel
theorem dX0_workOut_12 : decode cX0_workOut 12 = .ok (.if_icmp .ge 23, 3) := by decide +kernel
theorem dX0_workOut_15 : decode cX0_workOut 15 = .ok (.aload_n 0, 1) := by decide +kernel
theorem dX0_workOut_16 : decode cX0_workOut 16 = .ok (.getfield 9, 3) := by decide +kernel
theorem dX0_workOut_19 : decode cX0_workOut 19 = .ok (.iload_n 2, 1) := by decide +kernel
theorem dX0_workOut_20 : decode cX0_workOut 20 = .ok (.aload_n 1, 1) := by decide +kernel
theorem dX0_workOut_21 : decode cX0_workOut 21 = .ok (.getfield 33, 3) := by decide +kernel
theorem dX0_workOut_24 : decode cX0_workOut 24 = .ok (.iload_n 2, 1) := by decide +kernel
theorem dX0_workOut_25 : decode cX0_workOut 25 = .ok (.invokevirtual 37, 3) := by decide +kernel
theorem dX0_workOut_28 : decode cX0_workOut 28 = .ok (.iastore, 1) := by decide +kernel
theorem dX0_workOut_29 : decode cX0_workOut 29 = .ok (.iinc 2 1, 3) := by decide +kernel
theorem dX0_workOut_32 : decode cX0_workOut 32 = .ok (.goto (-25), 3) := by decide +kernel
theorem dX0_workOut_35 : decode cX0_workOut 35 = .ok (.iconst 0, 1) := by decide +kernel
theorem dX0_workOut_36 : decode cX0_workOut 36 = .ok (.istore_n 2, 1) := by decide +kernel
theorem dX0_workOut_37 : decode cX0_workOut 37 = .ok (.iload_n 2, 1) := by decide +kernel
theorem dX0_workOut_38 : decode cX0_workOut 38 = .ok (.aload_n 1, 1) := by decide +kernel
theorem dX0_workOut_39 : decode cX0_workOut 39 = .ok (.getfield 28, 3) := by decide +kernel
theorem dX0_workOut_42 : decode cX0_workOut 42 = .ok (.if_icmp .ge 49, 3) := by decide +kernel
theorem dX0_workOut_45 : decode cX0_workOut 45 = .ok (.iconst 0, 1) := by decide +kernel
theorem dX0_workOut_46 : decode cX0_workOut 46 = .ok (.istore_n 3, 1) := by decide +kernel
theorem dX0_workOut_47 : decode cX0_workOut 47 = .ok (.iload_n 3, 1) := by decide +kernel
theorem dX0_workOut_48 : decode cX0_workOut 48 = .ok (.aload_n 1, 1) := by decide +kernel
theorem dX0_workOut_49 : decode cX0_workOut 49 = .ok (.getfield 28, 3) := by decide +kernel
theorem dX0_workOut_52 : decode cX0_workOut 52 = .ok (.if_icmp .ge 33, 3) := by decide +kernel
theorem dX0_workOut_55 : decode cX0_workOut 55 = .ok (.aload_n 0, 1) := by decide +kernel
theorem dX0_workOut_56 : decode cX0_workOut 56 = .ok (.getfield 9, 3) := by decide +kernel
theorem dX0_workOut_59 : decode cX0_workOut 59 = .ok (.iload_n 2, 1) := by decide +kernel
theorem dX0_workOut_60 : decode cX0_workOut 60 = .ok (.iaload, 1) := by decide +kernel
theorem dX0_workOut_61 : decode cX0_workOut 61 = .ok (.ifCond .ge 24, 3) := by decide +kernel
theorem dX0_workOut_64 : decode cX0_workOut 64 = .ok (.aload_n 0, 1) := by decide +kernel
theorem dX0_workOut_65 : decode cX0_workOut 65 = .ok (.getfield 9, 3) := by decide +kernel
theorem dX0_workOut_68 : decode cX0_workOut 68 = .ok (.iload_n 3, 1) := by decide +kernel
theorem dX0_workOut_69 : decode cX0_workOut 69 = .ok (.iaload, 1) := by decide +kernel
theorem dX0_workOut_70 : decode cX0_workOut 70 = .ok (.ifCond .le 9, 3) := by decide +kernel
theorem dX0_workOut_73 : decode cX0_workOut 73 = .ok (.aload_n 0, 1) := by decide +kernel
theorem dX0_workOut_74 : decode cX0_workOut 74 = .ok (.iload_n 2, 1) := by decide +kernel
theorem dX0_workOut_75 : decode cX0_workOut 75 = .ok (.iload_n 3, 1) := by decide +kernel
theorem dX0_workOut_76 : decode cX0_workOut 76 = .ok (.invokevirtual 43, 3) := by decide +kernel
theorem dX0_workOut_79 : decode cX0_workOut 79 = .ok (.iinc 3 1, 3) := by decide +kernel
theorem dX0_workOut_82 : decode cX0_workOut 82 = .ok (.goto (-35), 3) := by decide +kernel
theorem dX0_workOut_85 : decode cX0_workOut 85 = .ok (.iinc 2 1, 3) := by decide +kernel
theorem dX0_workOut_88 : decode cX0_workOut 88 = .ok (.goto (-51), 3) := by decide +kernel
theorem dX0_workOut_91 : decode cX0_workOut 91 = .ok (.return_, 1) := by decide +kernel
theorem dX0_addMove_0 : decode cX0_addMove 0 = .ok (.aload_n 0, 1) := by decide +kernel
theorem dX0_addMove_1 : decode cX0_addMove 1 = .ok (.getfield 24, 3) := by decide +kernel
theorem dX0_addMove_4 : decode cX0_addMove 4 = .ok (.bipush 10, 2) := by decide +kernel
theorem dX0_addMove_6 : decode cX0_addMove 6 = .ok (.if_icmp .lt 4, 3) := by decide +kernel
theorem dX0_addMove_9 : decode cX0_addMove 9 = .ok (.return_, 1) := by decide +kernel
theorem dX0_addMove_10 : decode cX0_addMove 10 = .ok (.aload_n 0, 1) := by decide +kernel
theorem dX0_addMove_11 : decode cX0_addMove 11 = .ok (.getfield 9, 3) := by decide +kernel
theorem dX0_addMove_14 : decode cX0_addMove 14 = .ok (.iload_n 1, 1) := by decide +kernel
theorem dX0_addMove_15 : decode cX0_addMove 15 = .ok (.iaload, 1) := by decide +kernel
theorem dX0_addMove_16 : decode cX0_addMove 16 = .ok (.ineg, 1) := by decide +kernel
theorem dX0_addMove_17 : decode cX0_addMove 17 = .ok (.aload_n 0, 1) := by decide +kernel
theorem dX0_addMove_18 : decode cX0_addMove 18 = .ok (.getfield 9, 3) := by decide +kernel
theorem dX0_addMove_21 : decode cX0_addMove 21 = .ok (.iload_n 2, 1) := by decide +kernel
theorem dX0_addMove_22 : decode cX0_addMove 22 = .ok (.iaload, 1) := by decide +kernel
theorem dX0_addMove_23 : decode cX0_addMove 23 = .ok (.invokestatic 47, 3) := by decide +kernel
theorem dX0_addMove_26 : decode cX0_addMove 26 = .ok (.istore_n 3, 1) := by decide +kernel
theorem dX0_addMove_27 : decode cX0_addMove 27 = .ok (.aload_n 0, 1) := by decide +kernel
theorem dX0_addMove_28 : decode cX0_addMove 28 = .ok (.getfield 9, 3) := by decide +kernel
theorem dX0_addMove_31 : decode cX0_addMove 31 = .ok (.iload_n 1, 1) := by decide +kernel
theorem dX0_addMove_32 : decode cX0_addMove 32 = .ok (.dup2, 1) := by decide +kernel
theorem dX0_addMove_33 : decode cX0_addMove 33 = .ok (.iaload, 1) := by decide +kernel
theorem dX0_addMove_34 : decode cX0_addMove 34 = .ok (.iload_n 3, 1) := by decide +kernel
theorem dX0_addMove_35 : decode cX0_addMove 35 = .ok (.iadd, 1) := by decide +kernel
theorem dX0_addMove_36 : decode cX0_addMove 36 = .ok (.iastore, 1) := by decide +kernel
theorem dX0_addMove_37 : decode cX0_addMove 37 = .ok (.aload_n 0, 1) := by decide +kernel
theorem dX0_addMove_38 : decode cX0_addMove 38 = .ok (.getfield 9, 3) := by decide +kernel
theorem dX0_addMove_41 : decode cX0_addMove 41 = .ok (.iload_n 2, 1) := by decide +kernel
theorem dX0_addMove_42 : decode cX0_addMove 42 = .ok (.dup2, 1) := by decide +kernel
theorem dX0_addMove_43 : decode cX0_addMove 43 = .ok (.iaload, 1) := by decide +kernel
theorem dX0_addMove_44 : decode cX0_addMove 44 = .ok (.iload_n 3, 1) := by decide +kernel
theorem dX0_addMove_45 : decode cX0_addMove 45 = .ok (.isub, 1) := by decide +kernel
theorem dX0_addMove_46 : decode cX0_addMove 46 = .ok (.iastore, 1) := by decide +kernel
theorem dX0_addMove_47 : decode cX0_addMove 47 = .ok (.aload_n 0, 1) := by decide +kernel
theorem dX0_addMove_48 : decode cX0_addMove 48 = .ok (.getfield 15, 3) := by decide +kernel
theorem dX0_addMove_51 : decode cX0_addMove 51 = .ok (.aload_n 0, 1) := by decide +kernel
theorem dX0_addMove_52 : decode cX0_addMove 52 = .ok (.getfield 24, 3) := by decide +kernel
theorem dX0_addMove_55 : decode cX0_addMove 55 = .ok (.iload_n 1, 1) := by decide +kernel
theorem dX0_addMove_56 : decode cX0_addMove 56 = .ok (.iastore, 1) := by decide +kernel
theorem dX0_addMove_57 : decode cX0_addMove 57 = .ok (.aload_n 0, 1) := by decide +kernel
theorem dX0_addMove_58 : decode cX0_addMove 58 = .ok (.getfield 18, 3) := by decide +kernel
theorem dX0_addMove_61 : decode cX0_addMove 61 = .ok (.aload_n 0, 1) := by decide +kernel
theorem dX0_addMove_62 : decode cX0_addMove 62 = .ok (.getfield 24, 3) := by decide +kernel
theorem dX0_addMove_65 : decode cX0_addMove 65 = .ok (.iload_n 2, 1) := by decide +kernel
theorem dX0_addMove_66 : decode cX0_addMove 66 = .ok (.iastore, 1) := by decide +kernel
theorem dX0_addMove_67 : decode cX0_addMove 67 = .ok (.aload_n 0, 1) := by decide +kernel
theorem dX0_addMove_68 : decode cX0_addMove 68 = .ok (.getfield 21, 3) := by decide +kernel
theorem dX0_addMove_71 : decode cX0_addMove 71 = .ok (.aload_n 0, 1) := by decide +kernel
theorem dX0_addMove_72 : decode cX0_addMove 72 = .ok (.getfield 24, 3) := by decide +kernel
theorem dX0_addMove_75 : decode cX0_addMove 75 = .ok (.iload_n 3, 1) := by decide +kernel
theorem dX0_addMove_76 : decode cX0_addMove 76 = .ok (.iastore, 1) := by decide +kernel
theorem dX0_addMove_77 : decode cX0_addMove 77 = .ok (.aload_n 0, 1) := by decide +kernel
theorem dX0_addMove_78 : decode cX0_addMove 78 = .ok (.dup, 1) := by decide +kernel
theorem dX0_addMove_79 : decode cX0_addMove 79 = .ok (.getfield 24, 3) := by decide +kernel
theorem dX0_addMove_82 : decode cX0_addMove 82 = .ok (.iconst 1, 1) := by decide +kernel
theorem dX0_addMove_83 : decode cX0_addMove 83 = .ok (.iadd, 1) := by decide +kernel
theorem dX0_addMove_84 : decode cX0_addMove 84 = .ok (.putfield 24, 3) := by decide +kernel
theorem dX0_addMove_87 : decode cX0_addMove 87 = .ok (.return_, 1) := by decide +kernel
theorem dX0_coinsMoved_0 : decode cX0_coinsMoved 0 = .ok (.iconst 0, 1) := by decide +kernel
theorem dX0_coinsMoved_1 : decode cX0_coinsMoved 1 = .ok (.istore_n 1, 1) := by decide +kernel
theorem dX0_coinsMoved_2 : decode cX0_coinsMoved 2 = .ok (.iconst 0, 1) := by decide +kernel
theorem dX0_coinsMoved_3 : decode cX0_coinsMoved 3 = .ok (.istore_n 2, 1) := by decide +kernel
theorem dX0_coinsMoved_4 : decode cX0_coinsMoved 4 = .ok (.iload_n 2, 1) := by decide +kernel
theorem dX0_coinsMoved_5 : decode cX0_coinsMoved 5 = .ok (.aload_n 0, 1) := by decide +kernel
theorem dX0_coinsMoved_6 : decode cX0_coinsMoved 6 = .ok (.getfield 24, 3) := by decide +kernel
theorem dX0_coinsMoved_9 : decode cX0_coinsMoved 9 = .ok (.if_icmp .ge 18, 3) := by decide +kernel
theorem dX0_coinsMoved_12 : decode cX0_coinsMoved 12 = .ok (.iload_n 1, 1) := by decide +kernel
theorem dX0_coinsMoved_13 : decode cX0_coinsMoved 13 = .ok (.aload_n 0, 1) := by decide +kernel
theorem dX0_coinsMoved_14 : decode cX0_coinsMoved 14 = .ok (.getfield 21, 3) := by decide +kernel
theorem dX0_coinsMoved_17 : decode cX0_coinsMoved 17 = .ok (.iload_n 2, 1) := by decide +kernel
theorem dX0_coinsMoved_18 : decode cX0_coinsMoved 18 = .ok (.iaload, 1) := by decide +kernel
theorem dX0_coinsMoved_19 : decode cX0_coinsMoved 19 = .ok (.iadd, 1) := by decide +kernel
theorem dX0_coinsMoved_20 : decode cX0_coinsMoved 20 = .ok (.istore_n 1, 1) := by decide +kernel
theorem dX0_coinsMoved_21 : decode cX0_coinsMoved 21 = .ok (.iinc 2 1, 3) := by decide +kernel
theorem dX0_coinsMoved_24 : decode cX0_coinsMoved 24 = .ok (.goto (-20), 3) := by decide +kernel
theorem dX0_coinsMoved_27 : decode cX0_coinsMoved 27 = .ok (.iload_n 1, 1) := by decide +kernel
theorem dX0_coinsMoved_28 : decode cX0_coinsMoved 28 = .ok (.ireturn, 1) := by decide +kernel
theorem dX0_tell_0 : decode cX0_tell 0 = .ok (.iload_n 1, 1) := by decide +kernel
theorem dX0_tell_1 : decode cX0_tell 1 = .ok (.ifCond .lt 11, 3) := by decide +kernel
theorem dX0_tell_4 : decode cX0_tell 4 = .ok (.iload_n 1, 1) := by decide +kernel
theorem dX0_tell_5 : decode cX0_tell 5 = .ok (.aload_n 0, 1) := by decide +kernel
theorem dX0_tell_6 : decode cX0_tell 6 = .ok (.getfield 24, 3) := by decide +kernel
theorem dX0_tell_9 : decode cX0_tell 9 = .ok (.if_icmp .lt 5, 3) := by decide +kernel
theorem dX0_tell_12 : decode cX0_tell 12 = .ok (.iconst (-1), 1) := by decide +kernel
theorem dX0_tell_13 : decode cX0_tell 13 = .ok (.ireturn, 1) := by decide +kernel
theorem dX0_tell_14 : decode cX0_tell 14 = .ok (.iload_n 2, 1) := by decide +kernel
theorem dX0_tell_15 : decode cX0_tell 15 = .ok (.tableswitch 46 0 2 #[25, 32, 39], 25) := by decide +kernel
theorem dX0_tell_40 : decode cX0_tell 40 = .ok (.aload_n 0, 1) := by decide +kernel
theorem dX0_tell_41 : decode cX0_tell 41 = .ok (.getfield 15, 3) := by decide +kernel
theorem dX0_tell_44 : decode cX0_tell 44 = .ok (.iload_n 1, 1) := by decide +kernel
theorem dX0_tell_45 : decode cX0_tell 45 = .ok (.iaload, 1) := by decide +kernel
theorem dX0_tell_46 : decode cX0_tell 46 = .ok (.ireturn, 1) := by decide +kernel
theorem dX0_tell_47 : decode cX0_tell 47 = .ok (.aload_n 0, 1) := by decide +kernel
theorem dX0_tell_48 : decode cX0_tell 48 = .ok (.getfield 18, 3) := by decide +kernel
theorem dX0_tell_51 : decode cX0_tell 51 = .ok (.iload_n 1, 1) := by decide +kernel
theorem dX0_tell_52 : decode cX0_tell 52 = .ok (.iaload, 1) := by decide +kernel
theorem dX0_tell_53 : decode cX0_tell 53 = .ok (.ireturn, 1) := by decide +kernel
theorem dX0_tell_54 : decode cX0_tell 54 = .ok (.aload_n 0, 1) := by decide +kernel
theorem dX0_tell_55 : decode cX0_tell 55 = .ok (.getfield 21, 3) := by decide +kernel
theorem dX0_tell_58 : decode cX0_tell 58 = .ok (.iload_n 1, 1) := by decide +kernel
theorem dX0_tell_59 : decode cX0_tell 59 = .ok (.iaload, 1) := by decide +kernel
theorem dX0_tell_60 : decode cX0_tell 60 = .ok (.ireturn, 1) := by decide +kernel
theorem dX0_tell_61 : decode cX0_tell 61 = .ok (.iconst (-1), 1) := by decide +kernel
theorem dX0_tell_62 : decode cX0_tell 62 = .ok (.ireturn, 1) := by decide +kernel
theorem dX1_init_0 : decode cX1_init 0 = .ok (.aload_n 0, 1) := by decide +kernel
theorem dX1_init_1 : decode cX1_init 1 = .ok (.invokespecial 3, 3) := by decide +kernel
theorem dX1_init_4 : decode cX1_init 4 = .ok (.aload_n 0, 1) := by decide +kernel
theorem dX1_init_5 : decode cX1_init 5 = .ok (.bipush 40, 2) := by decide +kernel
theorem dX1_init_7 : decode cX1_init 7 = .ok (.newarray .int, 2) := by decide +kernel
theorem dX1_init_9 : decode cX1_init 9 = .ok (.putfield 9, 3) := by decide +kernel
theorem dX1_init_12 : decode cX1_init 12 = .ok (.aload_n 0, 1) := by decide +kernel
theorem dX1_init_13 : decode cX1_init 13 = .ok (.bipush 40, 2) := by decide +kernel
theorem dX1_init_15 : decode cX1_init 15 = .ok (.newarray .int, 2) := by decide +kernel
theorem dX1_init_17 : decode cX1_init 17 = .ok (.putfield 15, 3) := by decide +kernel
theorem dX1_init_20 : decode cX1_init 20 = .ok (.aload_n 0, 1) := by decide +kernel
theorem dX1_init_21 : decode cX1_init 21 = .ok (.bipush 10, 2) := by decide +kernel
theorem dX1_init_23 : decode cX1_init 23 = .ok (.newarray .int, 2) := by decide +kernel
theorem dX1_init_25 : decode cX1_init 25 = .ok (.putfield 18, 3) := by decide +kernel
theorem dX1_init_28 : decode cX1_init 28 = .ok (.aload_n 0, 1) := by decide +kernel
theorem dX1_init_29 : decode cX1_init 29 = .ok (.bipush 10, 2) := by decide +kernel
theorem dX1_init_31 : decode cX1_init 31 = .ok (.newarray .int, 2) := by decide +kernel
theorem dX1_init_33 : decode cX1_init 33 = .ok (.putfield 21, 3) := by decide +kernel
theorem dX1_init_36 : decode cX1_init 36 = .ok (.aload_n 0, 1) := by decide +kernel
theorem dX1_init_37 : decode cX1_init 37 = .ok (.bipush 10, 2) := by decide +kernel
theorem dX1_init_39 : decode cX1_init 39 = .ok (.newarray .int, 2) := by decide +kernel
theorem dX1_init_41 : decode cX1_init 41 = .ok (.putfield 24, 3) := by decide +kernel
theorem dX1_init_44 : decode cX1_init 44 = .ok (.aload_n 0, 1) := by decide +kernel
theorem dX1_init_45 : decode cX1_init 45 = .ok (.bipush 10, 2) := by decide +kernel
theorem dX1_init_47 : decode cX1_init 47 = .ok (.newarray .int, 2) := by decide +kernel
theorem dX1_init_49 : decode cX1_init 49 = .ok (.putfield 27, 3) := by decide +kernel
theorem dX1_init_52 : decode cX1_init 52 = .ok (.aload_n 0, 1) := by decide +kernel
theorem dX1_init_53 : decode cX1_init 53 = .ok (.bipush 10, 2) := by decide +kernel
theorem dX1_init_55 : decode cX1_init 55 = .ok (.newarray .int, 2) := by decide +kernel
theorem dX1_init_57 : decode cX1_init 57 = .ok (.putfield 30, 3) := by decide +kernel
theorem dX1_init_60 : decode cX1_init 60 = .ok (.aload_n 0, 1) := by decide +kernel
theorem dX1_init_61 : decode cX1_init 61 = .ok (.iconst 0, 1) := by decide +kernel
theorem dX1_init_62 : decode cX1_init 62 = .ok (.putfield 33, 3) := by decide +kernel
theorem dX1_init_65 : decode cX1_init 65 = .ok (.aload_n 0, 1) := by decide +kernel
theorem dX1_init_66 : decode cX1_init 66 = .ok (.iconst 0, 1) := by decide +kernel
theorem dX1_init_67 : decode cX1_init 67 = .ok (.putfield 37, 3) := by decide +kernel
theorem dX1_init_70 : decode cX1_init 70 = .ok (.aload_n 0, 1) := by decide +kernel
theorem dX1_init_71 : decode cX1_init 71 = .ok (.iconst (-1), 1) := by decide +kernel
theorem dX1_init_72 : decode cX1_init 72 = .ok (.putfield 40, 3) := by decide +kernel
theorem dX1_init_75 : decode cX1_init 75 = .ok (.return_, 1) := by decide +kernel
set_option maxRecDepth 20000 in
theorem ggX1_work_X1_takeStock : GoodIn wsX1_work wsX1_takeStock := goodIn_r _ [7, 8, 9, 2, 10, 11, 12, 13, 14, 58, 59, 60, 61, 62, 63, 64, 65, 66, 67, 68, 69, 70, 71, 72, 73, 74, 75, 76, 77, 78, 79, 80, 81, 82] (by decide +kernel) (by decide +kernel)
set_option maxRecDepth 20000 in
theorem gX1_work_X1_takeStock : GoodIn wsX1_work (wsV RX1 43 RX1 yX1_takeStock wsX1_takeStock) := goodIn_app (goodIn_of _ (by decide +kernel)) ggX1_work_X1_takeStock
set_option maxRecDepth 20000 in
theorem ggX1_work_X1_takeAllAsPaid : GoodIn wsX1_work wsX1_takeAllAsPaid := goodIn_r _ [18, 9, 19, 10, 20, 21, 22, 23, 24, 25, 26, 27, 28, 29, 30, 31, 62, 63, 64, 65, 66, 67, 68, 69, 70, 71, 72, 73, 74, 75, 76, 77, 78, 79, 80, 81, 82, 83, 84, 85, 86, 87] (by decide +kernel) (by decide +kernel)
set_option maxRecDepth 20000 in
theorem gX1_work_X1_takeAllAsPaid : GoodIn wsX1_work (wsV RX1 52 RX1 yX1_takeAllAsPaid wsX1_takeAllAsPaid) := goodIn_app (goodIn_of _ (by decide +kernel)) ggX1_work_X1_takeAllAsPaid
set_option maxRecDepth 20000 in
theorem ggX1_work_X1_putInOrder : GoodIn wsX1_work wsX1_putInOrder := goodIn_r _ [35, 9, 36, 37, 38, 39, 23, 40, 41, 27, 28, 29, 30, 31, 62, 63, 64, 65, 66, 67, 68, 69, 70, 71, 72, 73, 74, 75, 76, 77, 78, 79, 80, 81, 82, 83, 84, 85, 86, 87] (by decide +kernel) (by decide +kernel)
set_option maxRecDepth 20000 in
theorem gX1_work_X1_putInOrder : GoodIn wsX1_work (wsV RX1 56 RX1 yX1_putInOrder wsX1_putInOrder) := goodIn_app (goodIn_of _ (by decide +kernel)) ggX1_work_X1_putInOrder
set_option maxRecDepth 20000 in
theorem ggX1_work_X1_goRound : GoodIn wsX1_work wsX1_goRound := goodIn_r _ [45, 8, 10, 12, 46, 47, 48, 6, 49, 14, 36, 19, 50, 51, 52, 53, 13, 11, 54, 55, 56, 57, 62, 63, 64, 65, 66, 67, 68, 69, 70, 71, 72, 73, 74, 75, 76, 77, 78, 79, 80, 81, 82] (by decide +kernel) (by decide +kernel)
set_option maxRecDepth 20000 in
theorem gX1_work_X1_goRound : GoodIn wsX1_work (wsV RX1 60 RX1 yX1_goRound wsX1_goRound) := goodIn_app (goodIn_of _ (by decide +kernel)) ggX1_work_X1_goRound
theorem dX1_work_0 : decode cX1_work 0 = .ok (.aload_n 0, 1) := by decide +kernel
theorem dX1_work_1 : decode cX1_work 1 = .ok (.aload_n 1, 1) := by decide +kernel
theorem dX1_work_2 : decode cX1_work 2 = .ok (.invokevirtual 43, 3) := by decide +kernel
theorem dX1_work_5 : decode cX1_work 5 = .ok (.aload_n 0, 1) := by decide +kernel
theorem dX1_work_6 : decode cX1_work 6 = .ok (.aload_n 1, 1) := by decide +kernel
theorem dX1_work_7 : decode cX1_work 7 = .ok (.getfield 47, 3) := by decide +kernel
theorem dX1_work_10 : decode cX1_work 10 = .ok (.aload_n 2, 1) := by decide +kernel
theorem dX1_work_11 : decode cX1_work 11 = .ok (.invokevirtual 52, 3) := by decide +kernel
theorem dX1_work_14 : decode cX1_work 14 = .ok (.aload_n 0, 1) := by decide +kernel
theorem dX1_work_15 : decode cX1_work 15 = .ok (.aload_n 1, 1) := by decide +kernel
theorem dX1_work_16 : decode cX1_work 16 = .ok (.getfield 47, 3) := by decide +kernel
theorem dX1_work_19 : decode cX1_work 19 = .ok (.aload_n 2, 1) := by decide +kernel
theorem dX1_work_20 : decode cX1_work 20 = .ok (.invokevirtual 56, 3) := by decide +kernel
theorem dX1_work_23 : decode cX1_work 23 = .ok (.iconst 1, 1) := by decide +kernel
theorem dX1_work_24 : decode cX1_work 24 = .ok (.istore_n 3, 1) := by decide +kernel
theorem dX1_work_25 : decode cX1_work 25 = .ok (.iconst 1, 1) := by decide +kernel
theorem dX1_work_26 : decode cX1_work 26 = .ok (.istore 4, 2) := by decide +kernel
theorem dX1_work_28 : decode cX1_work 28 = .ok (.iload 4, 2) := by decide +kernel
theorem dX1_work_30 : decode cX1_work 30 = .ok (.ldc 59, 2) := by decide +kernel
theorem dX1_work_32 : decode cX1_work 32 = .ok (.if_icmp .gt 34, 3) := by decide +kernel
theorem dX1_work_35 : decode cX1_work 35 = .ok (.iload_n 3, 1) := by decide +kernel
theorem dX1_work_36 : decode cX1_work 36 = .ok (.ifCond .eq 30, 3) := by decide +kernel
theorem dX1_work_39 : decode cX1_work 39 = .ok (.aload_n 0, 1) := by decide +kernel
theorem dX1_work_40 : decode cX1_work 40 = .ok (.aload_n 1, 1) := by decide +kernel
theorem dX1_work_41 : decode cX1_work 41 = .ok (.getfield 47, 3) := by decide +kernel
theorem dX1_work_44 : decode cX1_work 44 = .ok (.iload 4, 2) := by decide +kernel
theorem dX1_work_46 : decode cX1_work 46 = .ok (.invokevirtual 60, 3) := by decide +kernel
theorem dX1_work_49 : decode cX1_work 49 = .ok (.istore_n 3, 1) := by decide +kernel
theorem dX1_work_50 : decode cX1_work 50 = .ok (.iload_n 3, 1) := by decide +kernel
theorem dX1_work_51 : decode cX1_work 51 = .ok (.ifCond .eq 9, 3) := by decide +kernel
theorem dX1_work_54 : decode cX1_work 54 = .ok (.aload_n 0, 1) := by decide +kernel
theorem dX1_work_55 : decode cX1_work 55 = .ok (.iload 4, 2) := by decide +kernel
theorem dX1_work_57 : decode cX1_work 57 = .ok (.putfield 40, 3) := by decide +kernel
theorem dX1_work_60 : decode cX1_work 60 = .ok (.iinc 4 1, 3) := by decide +kernel
theorem dX1_work_63 : decode cX1_work 63 = .ok (.goto (-35), 3) := by decide +kernel
theorem dX1_work_66 : decode cX1_work 66 = .ok (.return_, 1) := by decide +kernel
theorem dX1_takeStock_0 : decode cX1_takeStock 0 = .ok (.aload_n 0, 1) := by decide +kernel
theorem dX1_takeStock_1 : decode cX1_takeStock 1 = .ok (.aload_n 1, 1) := by decide +kernel
theorem dX1_takeStock_2 : decode cX1_takeStock 2 = .ok (.getfield 64, 3) := by decide +kernel
theorem dX1_takeStock_5 : decode cX1_takeStock 5 = .ok (.putfield 33, 3) := by decide +kernel
theorem dX1_takeStock_8 : decode cX1_takeStock 8 = .ok (.aload_n 0, 1) := by decide +kernel
theorem dX1_takeStock_9 : decode cX1_takeStock 9 = .ok (.aload_n 1, 1) := by decide +kernel
theorem dX1_takeStock_10 : decode cX1_takeStock 10 = .ok (.getfield 47, 3) := by decide +kernel
theorem dX1_takeStock_13 : decode cX1_takeStock 13 = .ok (.getfield 65, 3) := by decide +kernel
theorem dX1_takeStock_16 : decode cX1_takeStock 16 = .ok (.putfield 37, 3) := by decide +kernel
theorem dX1_takeStock_19 : decode cX1_takeStock 19 = .ok (.aload_n 0, 1) := by decide +kernel
theorem dX1_takeStock_20 : decode cX1_takeStock 20 = .ok (.iconst 0, 1) := by decide +kernel
theorem dX1_takeStock_21 : decode cX1_takeStock 21 = .ok (.putfield 40, 3) := by decide +kernel
theorem dX1_takeStock_24 : decode cX1_takeStock 24 = .ok (.iconst 0, 1) := by decide +kernel
theorem dX1_takeStock_25 : decode cX1_takeStock 25 = .ok (.istore_n 2, 1) := by decide +kernel
theorem dX1_takeStock_26 : decode cX1_takeStock 26 = .ok (.iload_n 2, 1) := by decide +kernel
theorem dX1_takeStock_27 : decode cX1_takeStock 27 = .ok (.aload_n 0, 1) := by decide +kernel
theorem dX1_takeStock_28 : decode cX1_takeStock 28 = .ok (.getfield 33, 3) := by decide +kernel
theorem dX1_takeStock_31 : decode cX1_takeStock 31 = .ok (.if_icmp .ge 54, 3) := by decide +kernel
theorem dX1_takeStock_34 : decode cX1_takeStock 34 = .ok (.aload_n 0, 1) := by decide +kernel
theorem dX1_takeStock_35 : decode cX1_takeStock 35 = .ok (.getfield 18, 3) := by decide +kernel
theorem dX1_takeStock_38 : decode cX1_takeStock 38 = .ok (.iload_n 2, 1) := by decide +kernel
theorem dX1_takeStock_39 : decode cX1_takeStock 39 = .ok (.aload_n 1, 1) := by decide +kernel
theorem dX1_takeStock_40 : decode cX1_takeStock 40 = .ok (.getfield 70, 3) := by decide +kernel
theorem dX1_takeStock_43 : decode cX1_takeStock 43 = .ok (.iload_n 2, 1) := by decide +kernel
theorem dX1_takeStock_44 : decode cX1_takeStock 44 = .ok (.iaload, 1) := by decide +kernel
theorem dX1_takeStock_45 : decode cX1_takeStock 45 = .ok (.iastore, 1) := by decide +kernel
theorem dX1_takeStock_46 : decode cX1_takeStock 46 = .ok (.aload_n 0, 1) := by decide +kernel
theorem dX1_takeStock_47 : decode cX1_takeStock 47 = .ok (.getfield 21, 3) := by decide +kernel
theorem dX1_takeStock_50 : decode cX1_takeStock 50 = .ok (.iload_n 2, 1) := by decide +kernel
theorem dX1_takeStock_51 : decode cX1_takeStock 51 = .ok (.iconst 0, 1) := by decide +kernel
theorem dX1_takeStock_52 : decode cX1_takeStock 52 = .ok (.iastore, 1) := by decide +kernel
theorem dX1_takeStock_53 : decode cX1_takeStock 53 = .ok (.aload_n 0, 1) := by decide +kernel
theorem dX1_takeStock_54 : decode cX1_takeStock 54 = .ok (.getfield 24, 3) := by decide +kernel
theorem dX1_takeStock_57 : decode cX1_takeStock 57 = .ok (.iload_n 2, 1) := by decide +kernel
theorem dX1_takeStock_58 : decode cX1_takeStock 58 = .ok (.iconst 0, 1) := by decide +kernel
theorem dX1_takeStock_59 : decode cX1_takeStock 59 = .ok (.iastore, 1) := by decide +kernel
theorem dX1_takeStock_60 : decode cX1_takeStock 60 = .ok (.aload_n 0, 1) := by decide +kernel
theorem dX1_takeStock_61 : decode cX1_takeStock 61 = .ok (.getfield 27, 3) := by decide +kernel
theorem dX1_takeStock_64 : decode cX1_takeStock 64 = .ok (.iload_n 2, 1) := by decide +kernel
theorem dX1_takeStock_65 : decode cX1_takeStock 65 = .ok (.iconst 0, 1) := by decide +kernel
theorem dX1_takeStock_66 : decode cX1_takeStock 66 = .ok (.iastore, 1) := by decide +kernel
theorem dX1_takeStock_67 : decode cX1_takeStock 67 = .ok (.aload_n 0, 1) := by decide +kernel
theorem dX1_takeStock_68 : decode cX1_takeStock 68 = .ok (.getfield 30, 3) := by decide +kernel
theorem dX1_takeStock_71 : decode cX1_takeStock 71 = .ok (.iload_n 2, 1) := by decide +kernel
theorem dX1_takeStock_72 : decode cX1_takeStock 72 = .ok (.aload_n 0, 1) := by decide +kernel
theorem dX1_takeStock_73 : decode cX1_takeStock 73 = .ok (.getfield 37, 3) := by decide +kernel
theorem dX1_takeStock_76 : decode cX1_takeStock 76 = .ok (.iconst 1, 1) := by decide +kernel
theorem dX1_takeStock_77 : decode cX1_takeStock 77 = .ok (.isub, 1) := by decide +kernel
theorem dX1_takeStock_78 : decode cX1_takeStock 78 = .ok (.iastore, 1) := by decide +kernel
theorem dX1_takeStock_79 : decode cX1_takeStock 79 = .ok (.iinc 2 1, 3) := by decide +kernel
theorem dX1_takeStock_82 : decode cX1_takeStock 82 = .ok (.goto (-56), 3) := by decide +kernel
theorem dX1_takeStock_85 : decode cX1_takeStock 85 = .ok (.return_, 1) := by decide +kernel
set_option maxRecDepth 20000 in
theorem ggX1_takeAllAsPaid_X2_leftOf : GoodIn wsX1_takeAllAsPaid wsX2_leftOf := goodIn_r _ [8, 9, 10, 11, 12, 13, 7, 14, 15, 37, 38, 39, 40, 41] (by decide +kernel) (by decide +kernel)
set_option maxRecDepth 20000 in
theorem gX1_takeAllAsPaid_X2_leftOf : GoodIn wsX1_takeAllAsPaid (wsV RX1 82 RX2 yX2_leftOf wsX2_leftOf) := goodIn_app (goodIn_of _ (by decide +kernel)) ggX1_takeAllAsPaid_X2_leftOf
theorem dX1_takeAllAsPaid_0 : decode cX1_takeAllAsPaid 0 = .ok (.iconst 0, 1) := by decide +kernel
theorem dX1_takeAllAsPaid_1 : decode cX1_takeAllAsPaid 1 = .ok (.istore_n 3, 1) := by decide +kernel
theorem dX1_takeAllAsPaid_2 : decode cX1_takeAllAsPaid 2 = .ok (.iload_n 3, 1) := by decide +kernel
theorem dX1_takeAllAsPaid_3 : decode cX1_takeAllAsPaid 3 = .ok (.aload_n 0, 1) := by decide +kernel
theorem dX1_takeAllAsPaid_4 : decode cX1_takeAllAsPaid 4 = .ok (.getfield 37, 3) := by decide +kernel
theorem dX1_takeAllAsPaid_7 : decode cX1_takeAllAsPaid 7 = .ok (.if_icmp .ge 73, 3) := by decide +kernel
theorem dX1_takeAllAsPaid_10 : decode cX1_takeAllAsPaid 10 = .ok (.aload_n 2, 1) := by decide +kernel
theorem dX1_takeAllAsPaid_11 : decode cX1_takeAllAsPaid 11 = .ok (.aload_n 1, 1) := by decide +kernel
theorem dX1_takeAllAsPaid_12 : decode cX1_takeAllAsPaid 12 = .ok (.getfield 73, 3) := by decide +kernel
theorem dX1_takeAllAsPaid_15 : decode cX1_takeAllAsPaid 15 = .ok (.iload_n 3, 1) := by decide +kernel
theorem dX1_takeAllAsPaid_16 : decode cX1_takeAllAsPaid 16 = .ok (.iaload, 1) := by decide +kernel
theorem dX1_takeAllAsPaid_17 : decode cX1_takeAllAsPaid 17 = .ok (.aload_n 1, 1) := by decide +kernel
theorem dX1_takeAllAsPaid_18 : decode cX1_takeAllAsPaid 18 = .ok (.getfield 76, 3) := by decide +kernel
theorem dX1_takeAllAsPaid_21 : decode cX1_takeAllAsPaid 21 = .ok (.iload_n 3, 1) := by decide +kernel
theorem dX1_takeAllAsPaid_22 : decode cX1_takeAllAsPaid 22 = .ok (.iaload, 1) := by decide +kernel
theorem dX1_takeAllAsPaid_23 : decode cX1_takeAllAsPaid 23 = .ok (.aload_n 1, 1) := by decide +kernel
theorem dX1_takeAllAsPaid_24 : decode cX1_takeAllAsPaid 24 = .ok (.getfield 79, 3) := by decide +kernel
theorem dX1_takeAllAsPaid_27 : decode cX1_takeAllAsPaid 27 = .ok (.iload_n 3, 1) := by decide +kernel
theorem dX1_takeAllAsPaid_28 : decode cX1_takeAllAsPaid 28 = .ok (.iaload, 1) := by decide +kernel
theorem dX1_takeAllAsPaid_29 : decode cX1_takeAllAsPaid 29 = .ok (.invokevirtual 82, 3) := by decide +kernel
theorem dX1_takeAllAsPaid_32 : decode cX1_takeAllAsPaid 32 = .ok (.istore 4, 2) := by decide +kernel
theorem dX1_takeAllAsPaid_34 : decode cX1_takeAllAsPaid 34 = .ok (.aload_n 0, 1) := by decide +kernel
theorem dX1_takeAllAsPaid_35 : decode cX1_takeAllAsPaid 35 = .ok (.getfield 9, 3) := by decide +kernel
theorem dX1_takeAllAsPaid_38 : decode cX1_takeAllAsPaid 38 = .ok (.iload_n 3, 1) := by decide +kernel
theorem dX1_takeAllAsPaid_39 : decode cX1_takeAllAsPaid 39 = .ok (.iload 4, 2) := by decide +kernel
theorem dX1_takeAllAsPaid_41 : decode cX1_takeAllAsPaid 41 = .ok (.iastore, 1) := by decide +kernel
theorem dX1_takeAllAsPaid_42 : decode cX1_takeAllAsPaid 42 = .ok (.aload_n 0, 1) := by decide +kernel
theorem dX1_takeAllAsPaid_43 : decode cX1_takeAllAsPaid 43 = .ok (.getfield 18, 3) := by decide +kernel
theorem dX1_takeAllAsPaid_46 : decode cX1_takeAllAsPaid 46 = .ok (.aload_n 1, 1) := by decide +kernel
theorem dX1_takeAllAsPaid_47 : decode cX1_takeAllAsPaid 47 = .ok (.getfield 88, 3) := by decide +kernel
theorem dX1_takeAllAsPaid_50 : decode cX1_takeAllAsPaid 50 = .ok (.iload_n 3, 1) := by decide +kernel
theorem dX1_takeAllAsPaid_51 : decode cX1_takeAllAsPaid 51 = .ok (.iaload, 1) := by decide +kernel
theorem dX1_takeAllAsPaid_52 : decode cX1_takeAllAsPaid 52 = .ok (.dup2, 1) := by decide +kernel
theorem dX1_takeAllAsPaid_53 : decode cX1_takeAllAsPaid 53 = .ok (.iaload, 1) := by decide +kernel
theorem dX1_takeAllAsPaid_54 : decode cX1_takeAllAsPaid 54 = .ok (.iload 4, 2) := by decide +kernel
theorem dX1_takeAllAsPaid_56 : decode cX1_takeAllAsPaid 56 = .ok (.isub, 1) := by decide +kernel
theorem dX1_takeAllAsPaid_57 : decode cX1_takeAllAsPaid 57 = .ok (.iastore, 1) := by decide +kernel
theorem dX1_takeAllAsPaid_58 : decode cX1_takeAllAsPaid 58 = .ok (.aload_n 0, 1) := by decide +kernel
theorem dX1_takeAllAsPaid_59 : decode cX1_takeAllAsPaid 59 = .ok (.getfield 18, 3) := by decide +kernel
theorem dX1_takeAllAsPaid_62 : decode cX1_takeAllAsPaid 62 = .ok (.aload_n 1, 1) := by decide +kernel
theorem dX1_takeAllAsPaid_63 : decode cX1_takeAllAsPaid 63 = .ok (.getfield 91, 3) := by decide +kernel
theorem dX1_takeAllAsPaid_66 : decode cX1_takeAllAsPaid 66 = .ok (.iload_n 3, 1) := by decide +kernel
theorem dX1_takeAllAsPaid_67 : decode cX1_takeAllAsPaid 67 = .ok (.iaload, 1) := by decide +kernel
theorem dX1_takeAllAsPaid_68 : decode cX1_takeAllAsPaid 68 = .ok (.dup2, 1) := by decide +kernel
theorem dX1_takeAllAsPaid_69 : decode cX1_takeAllAsPaid 69 = .ok (.iaload, 1) := by decide +kernel
theorem dX1_takeAllAsPaid_70 : decode cX1_takeAllAsPaid 70 = .ok (.iload 4, 2) := by decide +kernel
theorem dX1_takeAllAsPaid_72 : decode cX1_takeAllAsPaid 72 = .ok (.iadd, 1) := by decide +kernel
theorem dX1_takeAllAsPaid_73 : decode cX1_takeAllAsPaid 73 = .ok (.iastore, 1) := by decide +kernel
theorem dX1_takeAllAsPaid_74 : decode cX1_takeAllAsPaid 74 = .ok (.iinc 3 1, 3) := by decide +kernel
theorem dX1_takeAllAsPaid_77 : decode cX1_takeAllAsPaid 77 = .ok (.goto (-75), 3) := by decide +kernel
theorem dX1_takeAllAsPaid_80 : decode cX1_takeAllAsPaid 80 = .ok (.return_, 1) := by decide +kernel
set_option maxRecDepth 20000 in
theorem ggX1_putInOrder_X2_rankFor : GoodIn wsX1_putInOrder wsX2_rankFor := goodIn_r _ [7, 8, 9, 10, 11, 6, 12, 13, 35, 36, 37, 38, 39] (by decide +kernel) (by decide +kernel)
set_option maxRecDepth 20000 in
theorem gX1_putInOrder_X2_rankFor : GoodIn wsX1_putInOrder (wsV RX1 94 RX2 yX2_rankFor wsX2_rankFor) := goodIn_app (goodIn_of _ (by decide +kernel)) ggX1_putInOrder_X2_rankFor
theorem dX1_putInOrder_0 : decode cX1_putInOrder 0 = .ok (.iconst 0, 1) := by decide +kernel
theorem dX1_putInOrder_1 : decode cX1_putInOrder 1 = .ok (.istore_n 3, 1) := by decide +kernel
theorem dX1_putInOrder_2 : decode cX1_putInOrder 2 = .ok (.iconst 0, 1) := by decide +kernel
theorem dX1_putInOrder_3 : decode cX1_putInOrder 3 = .ok (.istore 4, 2) := by decide +kernel
theorem dX1_putInOrder_5 : decode cX1_putInOrder 5 = .ok (.iload 4, 2) := by decide +kernel
theorem dX1_putInOrder_7 : decode cX1_putInOrder 7 = .ok (.iconst 4, 1) := by decide +kernel
theorem dX1_putInOrder_8 : decode cX1_putInOrder 8 = .ok (.if_icmp .ge 67, 3) := by decide +kernel
theorem dX1_putInOrder_11 : decode cX1_putInOrder 11 = .ok (.iconst 0, 1) := by decide +kernel
theorem dX1_putInOrder_12 : decode cX1_putInOrder 12 = .ok (.istore 5, 2) := by decide +kernel
theorem dX1_putInOrder_14 : decode cX1_putInOrder 14 = .ok (.iload 5, 2) := by decide +kernel
theorem dX1_putInOrder_16 : decode cX1_putInOrder 16 = .ok (.aload_n 0, 1) := by decide +kernel
theorem dX1_putInOrder_17 : decode cX1_putInOrder 17 = .ok (.getfield 37, 3) := by decide +kernel
theorem dX1_putInOrder_20 : decode cX1_putInOrder 20 = .ok (.if_icmp .ge 49, 3) := by decide +kernel
theorem dX1_putInOrder_23 : decode cX1_putInOrder 23 = .ok (.iload_n 3, 1) := by decide +kernel
theorem dX1_putInOrder_24 : decode cX1_putInOrder 24 = .ok (.bipush 40, 2) := by decide +kernel
theorem dX1_putInOrder_26 : decode cX1_putInOrder 26 = .ok (.if_icmp .ge 43, 3) := by decide +kernel
theorem dX1_putInOrder_29 : decode cX1_putInOrder 29 = .ok (.aload_n 2, 1) := by decide +kernel
theorem dX1_putInOrder_30 : decode cX1_putInOrder 30 = .ok (.aload_n 1, 1) := by decide +kernel
theorem dX1_putInOrder_31 : decode cX1_putInOrder 31 = .ok (.getfield 76, 3) := by decide +kernel
theorem dX1_putInOrder_34 : decode cX1_putInOrder 34 = .ok (.iload 5, 2) := by decide +kernel
theorem dX1_putInOrder_36 : decode cX1_putInOrder 36 = .ok (.iaload, 1) := by decide +kernel
theorem dX1_putInOrder_37 : decode cX1_putInOrder 37 = .ok (.aload_n 1, 1) := by decide +kernel
theorem dX1_putInOrder_38 : decode cX1_putInOrder 38 = .ok (.getfield 79, 3) := by decide +kernel
theorem dX1_putInOrder_41 : decode cX1_putInOrder 41 = .ok (.iload 5, 2) := by decide +kernel
theorem dX1_putInOrder_43 : decode cX1_putInOrder 43 = .ok (.iaload, 1) := by decide +kernel
theorem dX1_putInOrder_44 : decode cX1_putInOrder 44 = .ok (.invokevirtual 94, 3) := by decide +kernel
theorem dX1_putInOrder_47 : decode cX1_putInOrder 47 = .ok (.iload 4, 2) := by decide +kernel
theorem dX1_putInOrder_49 : decode cX1_putInOrder 49 = .ok (.if_icmp .ne 14, 3) := by decide +kernel
theorem dX1_putInOrder_52 : decode cX1_putInOrder 52 = .ok (.aload_n 0, 1) := by decide +kernel
theorem dX1_putInOrder_53 : decode cX1_putInOrder 53 = .ok (.getfield 15, 3) := by decide +kernel
theorem dX1_putInOrder_56 : decode cX1_putInOrder 56 = .ok (.iload_n 3, 1) := by decide +kernel
theorem dX1_putInOrder_57 : decode cX1_putInOrder 57 = .ok (.iload 5, 2) := by decide +kernel
theorem dX1_putInOrder_59 : decode cX1_putInOrder 59 = .ok (.iastore, 1) := by decide +kernel
theorem dX1_putInOrder_60 : decode cX1_putInOrder 60 = .ok (.iinc 3 1, 3) := by decide +kernel
theorem dX1_putInOrder_63 : decode cX1_putInOrder 63 = .ok (.iinc 5 1, 3) := by decide +kernel
theorem dX1_putInOrder_66 : decode cX1_putInOrder 66 = .ok (.goto (-52), 3) := by decide +kernel
theorem dX1_putInOrder_69 : decode cX1_putInOrder 69 = .ok (.iinc 4 1, 3) := by decide +kernel
theorem dX1_putInOrder_72 : decode cX1_putInOrder 72 = .ok (.goto (-67), 3) := by decide +kernel
theorem dX1_putInOrder_75 : decode cX1_putInOrder 75 = .ok (.return_, 1) := by decide +kernel
set_option maxRecDepth 20000 in
theorem ggX1_goRound_X1_payLess : GoodIn wsX1_goRound wsX1_payLess := goodIn_r _ [8, 9, 10, 11, 12, 13, 14, 15, 16, 2, 17, 22, 23, 24, 25, 26, 27, 28, 29, 30, 31, 32, 33, 34, 35, 36, 37, 38, 39, 40, 41, 42] (by decide +kernel) (by decide +kernel)
set_option maxRecDepth 20000 in
theorem gX1_goRound_X1_payLess : GoodIn wsX1_goRound (wsV RX1 98 RX1 yX1_payLess wsX1_payLess) := goodIn_app (goodIn_of _ (by decide +kernel)) ggX1_goRound_X1_payLess
set_option maxRecDepth 20000 in
theorem ggX1_goRound_X1_loseWhatIsNotPaid : GoodIn wsX1_goRound wsX1_loseWhatIsNotPaid := goodIn_r _ [21, 1, 2, 16, 22, 23, 24, 25, 26, 27, 28, 29, 30, 31] (by decide +kernel) (by decide +kernel)
set_option maxRecDepth 20000 in
theorem gX1_goRound_X1_loseWhatIsNotPaid : GoodIn wsX1_goRound (wsV RX1 102 RX1 yX1_loseWhatIsNotPaid wsX1_loseWhatIsNotPaid) := goodIn_app (goodIn_of _ (by decide +kernel)) ggX1_goRound_X1_loseWhatIsNotPaid
theorem dX1_goRound_0 : decode cX1_goRound 0 = .ok (.iconst 0, 1) := by decide +kernel
theorem dX1_goRound_1 : decode cX1_goRound 1 = .ok (.istore_n 3, 1) := by decide +kernel
theorem dX1_goRound_2 : decode cX1_goRound 2 = .ok (.iconst 0, 1) := by decide +kernel
theorem dX1_goRound_3 : decode cX1_goRound 3 = .ok (.istore 4, 2) := by decide +kernel
theorem dX1_goRound_5 : decode cX1_goRound 5 = .ok (.iload 4, 2) := by decide +kernel
theorem dX1_goRound_7 : decode cX1_goRound 7 = .ok (.aload_n 0, 1) := by decide +kernel
theorem dX1_goRound_8 : decode cX1_goRound 8 = .ok (.getfield 33, 3) := by decide +kernel
theorem dX1_goRound_11 : decode cX1_goRound 11 = .ok (.if_icmp .ge 64, 3) := by decide +kernel
theorem dX1_goRound_14 : decode cX1_goRound 14 = .ok (.aload_n 0, 1) := by decide +kernel
theorem dX1_goRound_15 : decode cX1_goRound 15 = .ok (.getfield 18, 3) := by decide +kernel
theorem dX1_goRound_18 : decode cX1_goRound 18 = .ok (.iload 4, 2) := by decide +kernel
theorem dX1_goRound_20 : decode cX1_goRound 20 = .ok (.iaload, 1) := by decide +kernel
theorem dX1_goRound_21 : decode cX1_goRound 21 = .ok (.ifCond .ge 48, 3) := by decide +kernel
theorem dX1_goRound_24 : decode cX1_goRound 24 = .ok (.aload_n 0, 1) := by decide +kernel
theorem dX1_goRound_25 : decode cX1_goRound 25 = .ok (.aload_n 1, 1) := by decide +kernel
theorem dX1_goRound_26 : decode cX1_goRound 26 = .ok (.iload 4, 2) := by decide +kernel
theorem dX1_goRound_28 : decode cX1_goRound 28 = .ok (.aload_n 0, 1) := by decide +kernel
theorem dX1_goRound_29 : decode cX1_goRound 29 = .ok (.getfield 18, 3) := by decide +kernel
theorem dX1_goRound_32 : decode cX1_goRound 32 = .ok (.iload 4, 2) := by decide +kernel
theorem dX1_goRound_34 : decode cX1_goRound 34 = .ok (.iaload, 1) := by decide +kernel
theorem dX1_goRound_35 : decode cX1_goRound 35 = .ok (.ineg, 1) := by decide +kernel
theorem dX1_goRound_36 : decode cX1_goRound 36 = .ok (.invokevirtual 98, 3) := by decide +kernel
theorem dX1_goRound_39 : decode cX1_goRound 39 = .ok (.aload_n 0, 1) := by decide +kernel
theorem dX1_goRound_40 : decode cX1_goRound 40 = .ok (.getfield 24, 3) := by decide +kernel
theorem dX1_goRound_43 : decode cX1_goRound 43 = .ok (.iload 4, 2) := by decide +kernel
theorem dX1_goRound_45 : decode cX1_goRound 45 = .ok (.aload_n 0, 1) := by decide +kernel
theorem dX1_goRound_46 : decode cX1_goRound 46 = .ok (.getfield 24, 3) := by decide +kernel
theorem dX1_goRound_49 : decode cX1_goRound 49 = .ok (.iload 4, 2) := by decide +kernel
theorem dX1_goRound_51 : decode cX1_goRound 51 = .ok (.iaload, 1) := by decide +kernel
theorem dX1_goRound_52 : decode cX1_goRound 52 = .ok (.ifCond .ne 7, 3) := by decide +kernel
theorem dX1_goRound_55 : decode cX1_goRound 55 = .ok (.iload_n 2, 1) := by decide +kernel
theorem dX1_goRound_56 : decode cX1_goRound 56 = .ok (.goto 10, 3) := by decide +kernel
theorem dX1_goRound_59 : decode cX1_goRound 59 = .ok (.aload_n 0, 1) := by decide +kernel
theorem dX1_goRound_60 : decode cX1_goRound 60 = .ok (.getfield 24, 3) := by decide +kernel
theorem dX1_goRound_63 : decode cX1_goRound 63 = .ok (.iload 4, 2) := by decide +kernel
theorem dX1_goRound_65 : decode cX1_goRound 65 = .ok (.iaload, 1) := by decide +kernel
theorem dX1_goRound_66 : decode cX1_goRound 66 = .ok (.iastore, 1) := by decide +kernel
end
section
theorem dX1_goRound_67 : decode cX1_goRound 67 = .ok (.iconst 1, 1) := by decide +kernel
theorem dX1_goRound_68 : decode cX1_goRound 68 = .ok (.istore_n 3, 1) := by decide +kernel
theorem dX1_goRound_69 : decode cX1_goRound 69 = .ok (.iinc 4 1, 3) := by decide +kernel
theorem dX1_goRound_72 : decode cX1_goRound 72 = .ok (.goto (-67), 3) := by decide +kernel
theorem dX1_goRound_75 : decode cX1_goRound 75 = .ok (.aload_n 0, 1) := by decide +kernel
theorem dX1_goRound_76 : decode cX1_goRound 76 = .ok (.invokevirtual 102, 3) := by decide +kernel
theorem dX1_goRound_79 : decode cX1_goRound 79 = .ok (.iload_n 3, 1) := by decide +kernel
theorem dX1_goRound_80 : decode cX1_goRound 80 = .ok (.ireturn, 1) := by decide +kernel
theorem dX1_payLess_0 : decode cX1_payLess 0 = .ok (.iload_n 3, 1) := by decide +kernel
theorem dX1_payLess_1 : decode cX1_payLess 1 = .ok (.istore 4, 2) := by decide +kernel
theorem dX1_payLess_3 : decode cX1_payLess 3 = .ok (.aload_n 0, 1) := by decide +kernel
theorem dX1_payLess_4 : decode cX1_payLess 4 = .ok (.getfield 30, 3) := by decide +kernel
theorem dX1_payLess_7 : decode cX1_payLess 7 = .ok (.iload_n 2, 1) := by decide +kernel
theorem dX1_payLess_8 : decode cX1_payLess 8 = .ok (.iaload, 1) := by decide +kernel
theorem dX1_payLess_9 : decode cX1_payLess 9 = .ok (.istore 5, 2) := by decide +kernel
theorem dX1_payLess_11 : decode cX1_payLess 11 = .ok (.iload 5, 2) := by decide +kernel
theorem dX1_payLess_13 : decode cX1_payLess 13 = .ok (.ifCond .lt 92, 3) := by decide +kernel
theorem dX1_payLess_16 : decode cX1_payLess 16 = .ok (.iload 4, 2) := by decide +kernel
theorem dX1_payLess_18 : decode cX1_payLess 18 = .ok (.ifCond .le 87, 3) := by decide +kernel
theorem dX1_payLess_21 : decode cX1_payLess 21 = .ok (.aload_n 0, 1) := by decide +kernel
theorem dX1_payLess_22 : decode cX1_payLess 22 = .ok (.getfield 15, 3) := by decide +kernel
theorem dX1_payLess_25 : decode cX1_payLess 25 = .ok (.iload 5, 2) := by decide +kernel
theorem dX1_payLess_27 : decode cX1_payLess 27 = .ok (.iaload, 1) := by decide +kernel
theorem dX1_payLess_28 : decode cX1_payLess 28 = .ok (.istore 6, 2) := by decide +kernel
theorem dX1_payLess_30 : decode cX1_payLess 30 = .ok (.aload_n 1, 1) := by decide +kernel
theorem dX1_payLess_31 : decode cX1_payLess 31 = .ok (.getfield 88, 3) := by decide +kernel
theorem dX1_payLess_34 : decode cX1_payLess 34 = .ok (.iload 6, 2) := by decide +kernel
theorem dX1_payLess_36 : decode cX1_payLess 36 = .ok (.iaload, 1) := by decide +kernel
theorem dX1_payLess_37 : decode cX1_payLess 37 = .ok (.iload_n 2, 1) := by decide +kernel
theorem dX1_payLess_38 : decode cX1_payLess 38 = .ok (.if_icmp .ne 53, 3) := by decide +kernel
theorem dX1_payLess_41 : decode cX1_payLess 41 = .ok (.iload 4, 2) := by decide +kernel
theorem dX1_payLess_43 : decode cX1_payLess 43 = .ok (.aload_n 0, 1) := by decide +kernel
theorem dX1_payLess_44 : decode cX1_payLess 44 = .ok (.getfield 9, 3) := by decide +kernel
theorem dX1_payLess_47 : decode cX1_payLess 47 = .ok (.iload 6, 2) := by decide +kernel
theorem dX1_payLess_49 : decode cX1_payLess 49 = .ok (.iaload, 1) := by decide +kernel
theorem dX1_payLess_50 : decode cX1_payLess 50 = .ok (.invokestatic 105, 3) := by decide +kernel
theorem dX1_payLess_53 : decode cX1_payLess 53 = .ok (.istore 7, 2) := by decide +kernel
theorem dX1_payLess_55 : decode cX1_payLess 55 = .ok (.aload_n 0, 1) := by decide +kernel
theorem dX1_payLess_56 : decode cX1_payLess 56 = .ok (.getfield 9, 3) := by decide +kernel
theorem dX1_payLess_59 : decode cX1_payLess 59 = .ok (.iload 6, 2) := by decide +kernel
theorem dX1_payLess_61 : decode cX1_payLess 61 = .ok (.dup2, 1) := by decide +kernel
theorem dX1_payLess_62 : decode cX1_payLess 62 = .ok (.iaload, 1) := by decide +kernel
theorem dX1_payLess_63 : decode cX1_payLess 63 = .ok (.iload 7, 2) := by decide +kernel
theorem dX1_payLess_65 : decode cX1_payLess 65 = .ok (.isub, 1) := by decide +kernel
theorem dX1_payLess_66 : decode cX1_payLess 66 = .ok (.iastore, 1) := by decide +kernel
theorem dX1_payLess_67 : decode cX1_payLess 67 = .ok (.aload_n 0, 1) := by decide +kernel
theorem dX1_payLess_68 : decode cX1_payLess 68 = .ok (.getfield 27, 3) := by decide +kernel
theorem dX1_payLess_71 : decode cX1_payLess 71 = .ok (.aload_n 1, 1) := by decide +kernel
theorem dX1_payLess_72 : decode cX1_payLess 72 = .ok (.getfield 91, 3) := by decide +kernel
theorem dX1_payLess_75 : decode cX1_payLess 75 = .ok (.iload 6, 2) := by decide +kernel
theorem dX1_payLess_77 : decode cX1_payLess 77 = .ok (.iaload, 1) := by decide +kernel
theorem dX1_payLess_78 : decode cX1_payLess 78 = .ok (.dup2, 1) := by decide +kernel
theorem dX1_payLess_79 : decode cX1_payLess 79 = .ok (.iaload, 1) := by decide +kernel
theorem dX1_payLess_80 : decode cX1_payLess 80 = .ok (.iload 7, 2) := by decide +kernel
theorem dX1_payLess_82 : decode cX1_payLess 82 = .ok (.iadd, 1) := by decide +kernel
theorem dX1_payLess_83 : decode cX1_payLess 83 = .ok (.iastore, 1) := by decide +kernel
theorem dX1_payLess_84 : decode cX1_payLess 84 = .ok (.iload 4, 2) := by decide +kernel
theorem dX1_payLess_86 : decode cX1_payLess 86 = .ok (.iload 7, 2) := by decide +kernel
theorem dX1_payLess_88 : decode cX1_payLess 88 = .ok (.isub, 1) := by decide +kernel
theorem dX1_payLess_89 : decode cX1_payLess 89 = .ok (.istore 4, 2) := by decide +kernel
theorem dX1_payLess_91 : decode cX1_payLess 91 = .ok (.aload_n 0, 1) := by decide +kernel
theorem dX1_payLess_92 : decode cX1_payLess 92 = .ok (.getfield 30, 3) := by decide +kernel
theorem dX1_payLess_95 : decode cX1_payLess 95 = .ok (.iload_n 2, 1) := by decide +kernel
theorem dX1_payLess_96 : decode cX1_payLess 96 = .ok (.iload 5, 2) := by decide +kernel
theorem dX1_payLess_98 : decode cX1_payLess 98 = .ok (.iastore, 1) := by decide +kernel
theorem dX1_payLess_99 : decode cX1_payLess 99 = .ok (.iinc 5 (-1), 3) := by decide +kernel
theorem dX1_payLess_102 : decode cX1_payLess 102 = .ok (.goto (-91), 3) := by decide +kernel
theorem dX1_payLess_105 : decode cX1_payLess 105 = .ok (.aload_n 0, 1) := by decide +kernel
theorem dX1_payLess_106 : decode cX1_payLess 106 = .ok (.getfield 18, 3) := by decide +kernel
theorem dX1_payLess_109 : decode cX1_payLess 109 = .ok (.iload_n 2, 1) := by decide +kernel
theorem dX1_payLess_110 : decode cX1_payLess 110 = .ok (.dup2, 1) := by decide +kernel
theorem dX1_payLess_111 : decode cX1_payLess 111 = .ok (.iaload, 1) := by decide +kernel
theorem dX1_payLess_112 : decode cX1_payLess 112 = .ok (.iload_n 3, 1) := by decide +kernel
theorem dX1_payLess_113 : decode cX1_payLess 113 = .ok (.iadd, 1) := by decide +kernel
theorem dX1_payLess_114 : decode cX1_payLess 114 = .ok (.iastore, 1) := by decide +kernel
theorem dX1_payLess_115 : decode cX1_payLess 115 = .ok (.aload_n 0, 1) := by decide +kernel
theorem dX1_payLess_116 : decode cX1_payLess 116 = .ok (.getfield 21, 3) := by decide +kernel
theorem dX1_payLess_119 : decode cX1_payLess 119 = .ok (.iload_n 2, 1) := by decide +kernel
theorem dX1_payLess_120 : decode cX1_payLess 120 = .ok (.dup2, 1) := by decide +kernel
theorem dX1_payLess_121 : decode cX1_payLess 121 = .ok (.iaload, 1) := by decide +kernel
theorem dX1_payLess_122 : decode cX1_payLess 122 = .ok (.iload_n 3, 1) := by decide +kernel
theorem dX1_payLess_123 : decode cX1_payLess 123 = .ok (.iadd, 1) := by decide +kernel
theorem dX1_payLess_124 : decode cX1_payLess 124 = .ok (.iastore, 1) := by decide +kernel
theorem dX1_payLess_125 : decode cX1_payLess 125 = .ok (.return_, 1) := by decide +kernel
theorem dX1_loseWhatIsNotPaid_0 : decode cX1_loseWhatIsNotPaid 0 = .ok (.iconst 0, 1) := by decide +kernel
theorem dX1_loseWhatIsNotPaid_1 : decode cX1_loseWhatIsNotPaid 1 = .ok (.istore_n 1, 1) := by decide +kernel
theorem dX1_loseWhatIsNotPaid_2 : decode cX1_loseWhatIsNotPaid 2 = .ok (.iload_n 1, 1) := by decide +kernel
theorem dX1_loseWhatIsNotPaid_3 : decode cX1_loseWhatIsNotPaid 3 = .ok (.aload_n 0, 1) := by decide +kernel
theorem dX1_loseWhatIsNotPaid_4 : decode cX1_loseWhatIsNotPaid 4 = .ok (.getfield 33, 3) := by decide +kernel
theorem dX1_loseWhatIsNotPaid_7 : decode cX1_loseWhatIsNotPaid 7 = .ok (.if_icmp .ge 31, 3) := by decide +kernel
theorem dX1_loseWhatIsNotPaid_10 : decode cX1_loseWhatIsNotPaid 10 = .ok (.aload_n 0, 1) := by decide +kernel
theorem dX1_loseWhatIsNotPaid_11 : decode cX1_loseWhatIsNotPaid 11 = .ok (.getfield 18, 3) := by decide +kernel
theorem dX1_loseWhatIsNotPaid_14 : decode cX1_loseWhatIsNotPaid 14 = .ok (.iload_n 1, 1) := by decide +kernel
theorem dX1_loseWhatIsNotPaid_15 : decode cX1_loseWhatIsNotPaid 15 = .ok (.dup2, 1) := by decide +kernel
theorem dX1_loseWhatIsNotPaid_16 : decode cX1_loseWhatIsNotPaid 16 = .ok (.iaload, 1) := by decide +kernel
theorem dX1_loseWhatIsNotPaid_17 : decode cX1_loseWhatIsNotPaid 17 = .ok (.aload_n 0, 1) := by decide +kernel
theorem dX1_loseWhatIsNotPaid_18 : decode cX1_loseWhatIsNotPaid 18 = .ok (.getfield 27, 3) := by decide +kernel
theorem dX1_loseWhatIsNotPaid_21 : decode cX1_loseWhatIsNotPaid 21 = .ok (.iload_n 1, 1) := by decide +kernel
theorem dX1_loseWhatIsNotPaid_22 : decode cX1_loseWhatIsNotPaid 22 = .ok (.iaload, 1) := by decide +kernel
theorem dX1_loseWhatIsNotPaid_23 : decode cX1_loseWhatIsNotPaid 23 = .ok (.isub, 1) := by decide +kernel
theorem dX1_loseWhatIsNotPaid_24 : decode cX1_loseWhatIsNotPaid 24 = .ok (.iastore, 1) := by decide +kernel
theorem dX1_loseWhatIsNotPaid_25 : decode cX1_loseWhatIsNotPaid 25 = .ok (.aload_n 0, 1) := by decide +kernel
theorem dX1_loseWhatIsNotPaid_26 : decode cX1_loseWhatIsNotPaid 26 = .ok (.getfield 27, 3) := by decide +kernel
theorem dX1_loseWhatIsNotPaid_29 : decode cX1_loseWhatIsNotPaid 29 = .ok (.iload_n 1, 1) := by decide +kernel
theorem dX1_loseWhatIsNotPaid_30 : decode cX1_loseWhatIsNotPaid 30 = .ok (.iconst 0, 1) := by decide +kernel
theorem dX1_loseWhatIsNotPaid_31 : decode cX1_loseWhatIsNotPaid 31 = .ok (.iastore, 1) := by decide +kernel
theorem dX1_loseWhatIsNotPaid_32 : decode cX1_loseWhatIsNotPaid 32 = .ok (.iinc 1 1, 3) := by decide +kernel
theorem dX1_loseWhatIsNotPaid_35 : decode cX1_loseWhatIsNotPaid 35 = .ok (.goto (-33), 3) := by decide +kernel
theorem dX1_loseWhatIsNotPaid_38 : decode cX1_loseWhatIsNotPaid 38 = .ok (.return_, 1) := by decide +kernel
theorem dX1_menFailed_0 : decode cX1_menFailed 0 = .ok (.iconst 0, 1) := by decide +kernel
theorem dX1_menFailed_1 : decode cX1_menFailed 1 = .ok (.istore_n 1, 1) := by decide +kernel
theorem dX1_menFailed_2 : decode cX1_menFailed 2 = .ok (.iconst 0, 1) := by decide +kernel
theorem dX1_menFailed_3 : decode cX1_menFailed 3 = .ok (.istore_n 2, 1) := by decide +kernel
theorem dX1_menFailed_4 : decode cX1_menFailed 4 = .ok (.iload_n 2, 1) := by decide +kernel
theorem dX1_menFailed_5 : decode cX1_menFailed 5 = .ok (.aload_n 0, 1) := by decide +kernel
theorem dX1_menFailed_6 : decode cX1_menFailed 6 = .ok (.getfield 33, 3) := by decide +kernel
theorem dX1_menFailed_9 : decode cX1_menFailed 9 = .ok (.if_icmp .ge 26, 3) := by decide +kernel
theorem dX1_menFailed_12 : decode cX1_menFailed 12 = .ok (.iload_n 1, 1) := by decide +kernel
theorem dX1_menFailed_13 : decode cX1_menFailed 13 = .ok (.aload_n 0, 1) := by decide +kernel
theorem dX1_menFailed_14 : decode cX1_menFailed 14 = .ok (.getfield 24, 3) := by decide +kernel
theorem dX1_menFailed_17 : decode cX1_menFailed 17 = .ok (.iload_n 2, 1) := by decide +kernel
theorem dX1_menFailed_18 : decode cX1_menFailed 18 = .ok (.iaload, 1) := by decide +kernel
theorem dX1_menFailed_19 : decode cX1_menFailed 19 = .ok (.ifCond .ne 7, 3) := by decide +kernel
theorem dX1_menFailed_22 : decode cX1_menFailed 22 = .ok (.iconst 0, 1) := by decide +kernel
theorem dX1_menFailed_23 : decode cX1_menFailed 23 = .ok (.goto 4, 3) := by decide +kernel
theorem dX1_menFailed_26 : decode cX1_menFailed 26 = .ok (.iconst 1, 1) := by decide +kernel
theorem dX1_menFailed_27 : decode cX1_menFailed 27 = .ok (.iadd, 1) := by decide +kernel
theorem dX1_menFailed_28 : decode cX1_menFailed 28 = .ok (.istore_n 1, 1) := by decide +kernel
theorem dX1_menFailed_29 : decode cX1_menFailed 29 = .ok (.iinc 2 1, 3) := by decide +kernel
theorem dX1_menFailed_32 : decode cX1_menFailed 32 = .ok (.goto (-28), 3) := by decide +kernel
theorem dX1_menFailed_35 : decode cX1_menFailed 35 = .ok (.iload_n 1, 1) := by decide +kernel
theorem dX1_menFailed_36 : decode cX1_menFailed 36 = .ok (.ireturn, 1) := by decide +kernel
theorem dX1_coinsPaid_0 : decode cX1_coinsPaid 0 = .ok (.iconst 0, 1) := by decide +kernel
theorem dX1_coinsPaid_1 : decode cX1_coinsPaid 1 = .ok (.istore_n 1, 1) := by decide +kernel
theorem dX1_coinsPaid_2 : decode cX1_coinsPaid 2 = .ok (.iconst 0, 1) := by decide +kernel
theorem dX1_coinsPaid_3 : decode cX1_coinsPaid 3 = .ok (.istore_n 2, 1) := by decide +kernel
theorem dX1_coinsPaid_4 : decode cX1_coinsPaid 4 = .ok (.iload_n 2, 1) := by decide +kernel
theorem dX1_coinsPaid_5 : decode cX1_coinsPaid 5 = .ok (.aload_n 0, 1) := by decide +kernel
theorem dX1_coinsPaid_6 : decode cX1_coinsPaid 6 = .ok (.getfield 37, 3) := by decide +kernel
theorem dX1_coinsPaid_9 : decode cX1_coinsPaid 9 = .ok (.if_icmp .ge 18, 3) := by decide +kernel
theorem dX1_coinsPaid_12 : decode cX1_coinsPaid 12 = .ok (.iload_n 1, 1) := by decide +kernel
theorem dX1_coinsPaid_13 : decode cX1_coinsPaid 13 = .ok (.aload_n 0, 1) := by decide +kernel
theorem dX1_coinsPaid_14 : decode cX1_coinsPaid 14 = .ok (.getfield 9, 3) := by decide +kernel
theorem dX1_coinsPaid_17 : decode cX1_coinsPaid 17 = .ok (.iload_n 2, 1) := by decide +kernel
theorem dX1_coinsPaid_18 : decode cX1_coinsPaid 18 = .ok (.iaload, 1) := by decide +kernel
theorem dX1_coinsPaid_19 : decode cX1_coinsPaid 19 = .ok (.iadd, 1) := by decide +kernel
theorem dX1_coinsPaid_20 : decode cX1_coinsPaid 20 = .ok (.istore_n 1, 1) := by decide +kernel
theorem dX1_coinsPaid_21 : decode cX1_coinsPaid 21 = .ok (.iinc 2 1, 3) := by decide +kernel
theorem dX1_coinsPaid_24 : decode cX1_coinsPaid 24 = .ok (.goto (-20), 3) := by decide +kernel
theorem dX1_coinsPaid_27 : decode cX1_coinsPaid 27 = .ok (.iload_n 1, 1) := by decide +kernel
theorem dX1_coinsPaid_28 : decode cX1_coinsPaid 28 = .ok (.ireturn, 1) := by decide +kernel
theorem dX1_tell_0 : decode cX1_tell 0 = .ok (.iload_n 2, 1) := by decide +kernel
theorem dX1_tell_1 : decode cX1_tell 1 = .ok (.ifCond .lt 22, 3) := by decide +kernel
theorem dX1_tell_4 : decode cX1_tell 4 = .ok (.iload_n 2, 1) := by decide +kernel
theorem dX1_tell_5 : decode cX1_tell 5 = .ok (.iload_n 1, 1) := by decide +kernel
theorem dX1_tell_6 : decode cX1_tell 6 = .ok (.ifCond .ne 10, 3) := by decide +kernel
theorem dX1_tell_9 : decode cX1_tell 9 = .ok (.aload_n 0, 1) := by decide +kernel
theorem dX1_tell_10 : decode cX1_tell 10 = .ok (.getfield 37, 3) := by decide +kernel
theorem dX1_tell_13 : decode cX1_tell 13 = .ok (.goto 7, 3) := by decide +kernel
theorem dX1_tell_16 : decode cX1_tell 16 = .ok (.aload_n 0, 1) := by decide +kernel
theorem dX1_tell_17 : decode cX1_tell 17 = .ok (.getfield 33, 3) := by decide +kernel
theorem dX1_tell_20 : decode cX1_tell 20 = .ok (.if_icmp .lt 5, 3) := by decide +kernel
theorem dX1_tell_23 : decode cX1_tell 23 = .ok (.iconst (-1), 1) := by decide +kernel
theorem dX1_tell_24 : decode cX1_tell 24 = .ok (.ireturn, 1) := by decide +kernel
theorem dX1_tell_25 : decode cX1_tell 25 = .ok (.iload_n 1, 1) := by decide +kernel
theorem dX1_tell_26 : decode cX1_tell 26 = .ok (.tableswitch 58 0 3 #[30, 37, 44, 51], 30) := by decide +kernel
theorem dX1_tell_56 : decode cX1_tell 56 = .ok (.aload_n 0, 1) := by decide +kernel
theorem dX1_tell_57 : decode cX1_tell 57 = .ok (.getfield 9, 3) := by decide +kernel
theorem dX1_tell_60 : decode cX1_tell 60 = .ok (.iload_n 2, 1) := by decide +kernel
theorem dX1_tell_61 : decode cX1_tell 61 = .ok (.iaload, 1) := by decide +kernel
theorem dX1_tell_62 : decode cX1_tell 62 = .ok (.ireturn, 1) := by decide +kernel
theorem dX1_tell_63 : decode cX1_tell 63 = .ok (.aload_n 0, 1) := by decide +kernel
theorem dX1_tell_64 : decode cX1_tell 64 = .ok (.getfield 18, 3) := by decide +kernel
theorem dX1_tell_67 : decode cX1_tell 67 = .ok (.iload_n 2, 1) := by decide +kernel
theorem dX1_tell_68 : decode cX1_tell 68 = .ok (.iaload, 1) := by decide +kernel
theorem dX1_tell_69 : decode cX1_tell 69 = .ok (.ireturn, 1) := by decide +kernel
theorem dX1_tell_70 : decode cX1_tell 70 = .ok (.aload_n 0, 1) := by decide +kernel
theorem dX1_tell_71 : decode cX1_tell 71 = .ok (.getfield 24, 3) := by decide +kernel
theorem dX1_tell_74 : decode cX1_tell 74 = .ok (.iload_n 2, 1) := by decide +kernel
theorem dX1_tell_75 : decode cX1_tell 75 = .ok (.iaload, 1) := by decide +kernel
theorem dX1_tell_76 : decode cX1_tell 76 = .ok (.ireturn, 1) := by decide +kernel
theorem dX1_tell_77 : decode cX1_tell 77 = .ok (.aload_n 0, 1) := by decide +kernel
theorem dX1_tell_78 : decode cX1_tell 78 = .ok (.getfield 21, 3) := by decide +kernel
theorem dX1_tell_81 : decode cX1_tell 81 = .ok (.iload_n 2, 1) := by decide +kernel
theorem dX1_tell_82 : decode cX1_tell 82 = .ok (.iaload, 1) := by decide +kernel
theorem dX1_tell_83 : decode cX1_tell 83 = .ok (.ireturn, 1) := by decide +kernel
theorem dX1_tell_84 : decode cX1_tell 84 = .ok (.iconst (-1), 1) := by decide +kernel
theorem dX1_tell_85 : decode cX1_tell 85 = .ok (.ireturn, 1) := by decide +kernel
set_option maxRecDepth 20000 in
theorem ggX2_init_X2_empty : GoodIn wsX2_init wsX2_empty := goodIn_r _ [11, 5, 6, 12, 13, 14, 15, 16, 17, 18, 19, 20, 21, 22, 23] (by decide +kernel) (by decide +kernel)
set_option maxRecDepth 20000 in
theorem gX2_init_X2_empty : GoodIn wsX2_init (wsV RX2 18 RX2 yX2_empty wsX2_empty) := goodIn_app (goodIn_of _ (by decide +kernel)) ggX2_init_X2_empty
theorem dX2_init_0 : decode cX2_init 0 = .ok (.aload_n 0, 1) := by decide +kernel
theorem dX2_init_1 : decode cX2_init 1 = .ok (.invokespecial 3, 3) := by decide +kernel
theorem dX2_init_4 : decode cX2_init 4 = .ok (.aload_n 0, 1) := by decide +kernel
theorem dX2_init_5 : decode cX2_init 5 = .ok (.iconst 4, 1) := by decide +kernel
theorem dX2_init_6 : decode cX2_init 6 = .ok (.newarray .int, 2) := by decide +kernel
theorem dX2_init_8 : decode cX2_init 8 = .ok (.putfield 9, 3) := by decide +kernel
theorem dX2_init_11 : decode cX2_init 11 = .ok (.aload_n 0, 1) := by decide +kernel
theorem dX2_init_12 : decode cX2_init 12 = .ok (.iconst 4, 1) := by decide +kernel
theorem dX2_init_13 : decode cX2_init 13 = .ok (.newarray .int, 2) := by decide +kernel
theorem dX2_init_15 : decode cX2_init 15 = .ok (.putfield 15, 3) := by decide +kernel
theorem dX2_init_18 : decode cX2_init 18 = .ok (.aload_n 0, 1) := by decide +kernel
theorem dX2_init_19 : decode cX2_init 19 = .ok (.invokevirtual 18, 3) := by decide +kernel
theorem dX2_init_22 : decode cX2_init 22 = .ok (.return_, 1) := by decide +kernel
set_option maxRecDepth 20000 in
theorem ggX2_empty_J7_fill_53178 : GoodIn wsX2_empty wsJ7_fill_53178 := goodIn_r _ [9] (by decide +kernel) (by decide +kernel)
set_option maxRecDepth 20000 in
theorem gX2_empty_J7_fill_53178 : GoodIn wsX2_empty (va_wsS RX2 21 yJ7_fill_53178 wsJ7_fill_53178) := goodIn_app (goodIn_of _ (by decide +kernel)) ggX2_empty_J7_fill_53178
theorem dX2_empty_0 : decode cX2_empty 0 = .ok (.aload_n 0, 1) := by decide +kernel
theorem dX2_empty_1 : decode cX2_empty 1 = .ok (.getfield 9, 3) := by decide +kernel
theorem dX2_empty_4 : decode cX2_empty 4 = .ok (.iconst (-1), 1) := by decide +kernel
theorem dX2_empty_5 : decode cX2_empty 5 = .ok (.invokestatic 21, 3) := by decide +kernel
theorem dX2_empty_8 : decode cX2_empty 8 = .ok (.aload_n 0, 1) := by decide +kernel
theorem dX2_empty_9 : decode cX2_empty 9 = .ok (.getfield 15, 3) := by decide +kernel
theorem dX2_empty_12 : decode cX2_empty 12 = .ok (.iconst (-1), 1) := by decide +kernel
theorem dX2_empty_13 : decode cX2_empty 13 = .ok (.invokestatic 21, 3) := by decide +kernel
theorem dX2_empty_16 : decode cX2_empty 16 = .ok (.aload_n 0, 1) := by decide +kernel
theorem dX2_empty_17 : decode cX2_empty 17 = .ok (.iconst (-1), 1) := by decide +kernel
theorem dX2_empty_18 : decode cX2_empty 18 = .ok (.putfield 27, 3) := by decide +kernel
theorem dX2_empty_21 : decode cX2_empty 21 = .ok (.aload_n 0, 1) := by decide +kernel
theorem dX2_empty_22 : decode cX2_empty 22 = .ok (.iconst (-1), 1) := by decide +kernel
theorem dX2_empty_23 : decode cX2_empty 23 = .ok (.putfield 31, 3) := by decide +kernel
theorem dX2_empty_26 : decode cX2_empty 26 = .ok (.aload_n 0, 1) := by decide +kernel
theorem dX2_empty_27 : decode cX2_empty 27 = .ok (.iconst 0, 1) := by decide +kernel
theorem dX2_empty_28 : decode cX2_empty 28 = .ok (.putfield 34, 3) := by decide +kernel
theorem dX2_empty_31 : decode cX2_empty 31 = .ok (.return_, 1) := by decide +kernel
theorem dX2_reaches_0 : decode cX2_reaches 0 = .ok (.aload_n 0, 1) := by decide +kernel
theorem dX2_reaches_1 : decode cX2_reaches 1 = .ok (.getfield 31, 3) := by decide +kernel
theorem dX2_reaches_4 : decode cX2_reaches 4 = .ok (.iconst (-1), 1) := by decide +kernel
theorem dX2_reaches_5 : decode cX2_reaches 5 = .ok (.if_icmp .eq 11, 3) := by decide +kernel
theorem dX2_reaches_8 : decode cX2_reaches 8 = .ok (.iload_n 1, 1) := by decide +kernel
theorem dX2_reaches_9 : decode cX2_reaches 9 = .ok (.aload_n 0, 1) := by decide +kernel
theorem dX2_reaches_10 : decode cX2_reaches 10 = .ok (.getfield 31, 3) := by decide +kernel
theorem dX2_reaches_13 : decode cX2_reaches 13 = .ok (.if_icmp .ge 7, 3) := by decide +kernel
theorem dX2_reaches_16 : decode cX2_reaches 16 = .ok (.iconst 1, 1) := by decide +kernel
theorem dX2_reaches_17 : decode cX2_reaches 17 = .ok (.goto 4, 3) := by decide +kernel
theorem dX2_reaches_20 : decode cX2_reaches 20 = .ok (.iconst 0, 1) := by decide +kernel
theorem dX2_reaches_21 : decode cX2_reaches 21 = .ok (.ireturn, 1) := by decide +kernel
set_option maxRecDepth 20000 in
theorem ggX2_leftOf_X2_reaches : GoodIn wsX2_leftOf wsX2_reaches := goodIn_r _ [7, 8, 9, 10, 11, 12, 13] (by decide +kernel) (by decide +kernel)
set_option maxRecDepth 20000 in
theorem gX2_leftOf_X2_reaches : GoodIn wsX2_leftOf (wsV RX2 37 RX2 yX2_reaches wsX2_reaches) := goodIn_app (goodIn_of _ (by decide +kernel)) ggX2_leftOf_X2_reaches
theorem dX2_leftOf_0 : decode cX2_leftOf 0 = .ok (.aload_n 0, 1) := by decide +kernel
theorem dX2_leftOf_1 : decode cX2_leftOf 1 = .ok (.getfield 27, 3) := by decide +kernel
theorem dX2_leftOf_4 : decode cX2_leftOf 4 = .ok (.iconst (-1), 1) := by decide +kernel
theorem dX2_leftOf_5 : decode cX2_leftOf 5 = .ok (.if_icmp .ne 7, 3) := by decide +kernel
theorem dX2_leftOf_8 : decode cX2_leftOf 8 = .ok (.iload_n 1, 1) := by decide +kernel
theorem dX2_leftOf_9 : decode cX2_leftOf 9 = .ok (.goto 9, 3) := by decide +kernel
theorem dX2_leftOf_12 : decode cX2_leftOf 12 = .ok (.iload_n 1, 1) := by decide +kernel
theorem dX2_leftOf_13 : decode cX2_leftOf 13 = .ok (.aload_n 0, 1) := by decide +kernel
theorem dX2_leftOf_14 : decode cX2_leftOf 14 = .ok (.getfield 27, 3) := by decide +kernel
theorem dX2_leftOf_17 : decode cX2_leftOf 17 = .ok (.isub, 1) := by decide +kernel
theorem dX2_leftOf_18 : decode cX2_leftOf 18 = .ok (.istore 4, 2) := by decide +kernel
theorem dX2_leftOf_20 : decode cX2_leftOf 20 = .ok (.aload_n 0, 1) := by decide +kernel
theorem dX2_leftOf_21 : decode cX2_leftOf 21 = .ok (.iload_n 3, 1) := by decide +kernel
theorem dX2_leftOf_22 : decode cX2_leftOf 22 = .ok (.invokevirtual 37, 3) := by decide +kernel
theorem dX2_leftOf_25 : decode cX2_leftOf 25 = .ok (.ifCond .eq 18, 3) := by decide +kernel
theorem dX2_leftOf_28 : decode cX2_leftOf 28 = .ok (.aload_n 0, 1) := by decide +kernel
theorem dX2_leftOf_29 : decode cX2_leftOf 29 = .ok (.getfield 9, 3) := by decide +kernel
theorem dX2_leftOf_32 : decode cX2_leftOf 32 = .ok (.iload_n 2, 1) := by decide +kernel
theorem dX2_leftOf_33 : decode cX2_leftOf 33 = .ok (.iaload, 1) := by decide +kernel
theorem dX2_leftOf_34 : decode cX2_leftOf 34 = .ok (.iconst (-1), 1) := by decide +kernel
theorem dX2_leftOf_35 : decode cX2_leftOf 35 = .ok (.if_icmp .eq 8, 3) := by decide +kernel
theorem dX2_leftOf_38 : decode cX2_leftOf 38 = .ok (.iload 4, 2) := by decide +kernel
theorem dX2_leftOf_40 : decode cX2_leftOf 40 = .ok (.ifCond .gt 5, 3) := by decide +kernel
theorem dX2_leftOf_43 : decode cX2_leftOf 43 = .ok (.iload_n 1, 1) := by decide +kernel
theorem dX2_leftOf_44 : decode cX2_leftOf 44 = .ok (.ireturn, 1) := by decide +kernel
theorem dX2_leftOf_45 : decode cX2_leftOf 45 = .ok (.iload_n 1, 1) := by decide +kernel
theorem dX2_leftOf_46 : decode cX2_leftOf 46 = .ok (.iload 4, 2) := by decide +kernel
theorem dX2_leftOf_48 : decode cX2_leftOf 48 = .ok (.aload_n 0, 1) := by decide +kernel
theorem dX2_leftOf_49 : decode cX2_leftOf 49 = .ok (.getfield 9, 3) := by decide +kernel
theorem dX2_leftOf_52 : decode cX2_leftOf 52 = .ok (.iload_n 2, 1) := by decide +kernel
theorem dX2_leftOf_53 : decode cX2_leftOf 53 = .ok (.iaload, 1) := by decide +kernel
theorem dX2_leftOf_54 : decode cX2_leftOf 54 = .ok (.imul, 1) := by decide +kernel
theorem dX2_leftOf_55 : decode cX2_leftOf 55 = .ok (.bipush 100, 2) := by decide +kernel
theorem dX2_leftOf_57 : decode cX2_leftOf 57 = .ok (.idiv, 1) := by decide +kernel
theorem dX2_leftOf_58 : decode cX2_leftOf 58 = .ok (.isub, 1) := by decide +kernel
theorem dX2_leftOf_59 : decode cX2_leftOf 59 = .ok (.ireturn, 1) := by decide +kernel
set_option maxRecDepth 20000 in
theorem ggX2_rankFor_X2_reaches : GoodIn wsX2_rankFor wsX2_reaches := goodIn_r _ [6, 7, 8, 9, 10, 11, 12] (by decide +kernel) (by decide +kernel)
set_option maxRecDepth 20000 in
theorem gX2_rankFor_X2_reaches : GoodIn wsX2_rankFor (wsV RX2 37 RX2 yX2_reaches wsX2_reaches) := goodIn_app (goodIn_of _ (by decide +kernel)) ggX2_rankFor_X2_reaches
theorem dX2_rankFor_0 : decode cX2_rankFor 0 = .ok (.aload_n 0, 1) := by decide +kernel
theorem dX2_rankFor_1 : decode cX2_rankFor 1 = .ok (.iload_n 2, 1) := by decide +kernel
theorem dX2_rankFor_2 : decode cX2_rankFor 2 = .ok (.invokevirtual 37, 3) := by decide +kernel
theorem dX2_rankFor_5 : decode cX2_rankFor 5 = .ok (.ifCond .eq 22, 3) := by decide +kernel
theorem dX2_rankFor_8 : decode cX2_rankFor 8 = .ok (.aload_n 0, 1) := by decide +kernel
theorem dX2_rankFor_9 : decode cX2_rankFor 9 = .ok (.getfield 15, 3) := by decide +kernel
theorem dX2_rankFor_12 : decode cX2_rankFor 12 = .ok (.iload_n 1, 1) := by decide +kernel
theorem dX2_rankFor_13 : decode cX2_rankFor 13 = .ok (.iaload, 1) := by decide +kernel
theorem dX2_rankFor_14 : decode cX2_rankFor 14 = .ok (.iconst (-1), 1) := by decide +kernel
theorem dX2_rankFor_15 : decode cX2_rankFor 15 = .ok (.if_icmp .eq 12, 3) := by decide +kernel
theorem dX2_rankFor_18 : decode cX2_rankFor 18 = .ok (.aload_n 0, 1) := by decide +kernel
theorem dX2_rankFor_19 : decode cX2_rankFor 19 = .ok (.getfield 15, 3) := by decide +kernel
theorem dX2_rankFor_22 : decode cX2_rankFor 22 = .ok (.iload_n 1, 1) := by decide +kernel
theorem dX2_rankFor_23 : decode cX2_rankFor 23 = .ok (.iaload, 1) := by decide +kernel
theorem dX2_rankFor_24 : decode cX2_rankFor 24 = .ok (.goto 4, 3) := by decide +kernel
theorem dX2_rankFor_27 : decode cX2_rankFor 27 = .ok (.iload_n 1, 1) := by decide +kernel
theorem dX2_rankFor_28 : decode cX2_rankFor 28 = .ok (.ireturn, 1) := by decide +kernel
theorem dX3_init_0 : decode cX3_init 0 = .ok (.aload_n 0, 1) := by decide +kernel
theorem dX3_init_1 : decode cX3_init 1 = .ok (.invokespecial 3, 3) := by decide +kernel
theorem dX3_init_4 : decode cX3_init 4 = .ok (.aload_n 0, 1) := by decide +kernel
theorem dX3_init_5 : decode cX3_init 5 = .ok (.bipush 40, 2) := by decide +kernel
theorem dX3_init_7 : decode cX3_init 7 = .ok (.newarray .int, 2) := by decide +kernel
theorem dX3_init_9 : decode cX3_init 9 = .ok (.putfield 9, 3) := by decide +kernel
theorem dX3_init_12 : decode cX3_init 12 = .ok (.aload_n 0, 1) := by decide +kernel
theorem dX3_init_13 : decode cX3_init 13 = .ok (.bipush 40, 2) := by decide +kernel
theorem dX3_init_15 : decode cX3_init 15 = .ok (.newarray .int, 2) := by decide +kernel
theorem dX3_init_17 : decode cX3_init 17 = .ok (.putfield 15, 3) := by decide +kernel
theorem dX3_init_20 : decode cX3_init 20 = .ok (.aload_n 0, 1) := by decide +kernel
theorem dX3_init_21 : decode cX3_init 21 = .ok (.bipush 40, 2) := by decide +kernel
theorem dX3_init_23 : decode cX3_init 23 = .ok (.newarray .int, 2) := by decide +kernel
theorem dX3_init_25 : decode cX3_init 25 = .ok (.putfield 18, 3) := by decide +kernel
theorem dX3_init_28 : decode cX3_init 28 = .ok (.aload_n 0, 1) := by decide +kernel
theorem dX3_init_29 : decode cX3_init 29 = .ok (.bipush 40, 2) := by decide +kernel
theorem dX3_init_31 : decode cX3_init 31 = .ok (.newarray .int, 2) := by decide +kernel
theorem dX3_init_33 : decode cX3_init 33 = .ok (.putfield 21, 3) := by decide +kernel
theorem dX3_init_36 : decode cX3_init 36 = .ok (.aload_n 0, 1) := by decide +kernel
theorem dX3_init_37 : decode cX3_init 37 = .ok (.bipush 40, 2) := by decide +kernel
theorem dX3_init_39 : decode cX3_init 39 = .ok (.newarray .int, 2) := by decide +kernel
theorem dX3_init_41 : decode cX3_init 41 = .ok (.putfield 24, 3) := by decide +kernel
theorem dX3_init_44 : decode cX3_init 44 = .ok (.aload_n 0, 1) := by decide +kernel
theorem dX3_init_45 : decode cX3_init 45 = .ok (.bipush 40, 2) := by decide +kernel
theorem dX3_init_47 : decode cX3_init 47 = .ok (.newarray .boolean, 2) := by decide +kernel
theorem dX3_init_49 : decode cX3_init 49 = .ok (.putfield 27, 3) := by decide +kernel
theorem dX3_init_52 : decode cX3_init 52 = .ok (.aload_n 0, 1) := by decide +kernel
theorem dX3_init_53 : decode cX3_init 53 = .ok (.bipush 40, 2) := by decide +kernel
theorem dX3_init_55 : decode cX3_init 55 = .ok (.newarray .int, 2) := by decide +kernel
theorem dX3_init_57 : decode cX3_init 57 = .ok (.putfield 31, 3) := by decide +kernel
theorem dX3_init_60 : decode cX3_init 60 = .ok (.aload_n 0, 1) := by decide +kernel
theorem dX3_init_61 : decode cX3_init 61 = .ok (.bipush 40, 2) := by decide +kernel
theorem dX3_init_63 : decode cX3_init 63 = .ok (.newarray .int, 2) := by decide +kernel
theorem dX3_init_65 : decode cX3_init 65 = .ok (.putfield 34, 3) := by decide +kernel
theorem dX3_init_68 : decode cX3_init 68 = .ok (.aload_n 0, 1) := by decide +kernel
theorem dX3_init_69 : decode cX3_init 69 = .ok (.bipush 40, 2) := by decide +kernel
theorem dX3_init_71 : decode cX3_init 71 = .ok (.newarray .int, 2) := by decide +kernel
theorem dX3_init_73 : decode cX3_init 73 = .ok (.putfield 37, 3) := by decide +kernel
theorem dX3_init_76 : decode cX3_init 76 = .ok (.aload_n 0, 1) := by decide +kernel
theorem dX3_init_77 : decode cX3_init 77 = .ok (.bipush 40, 2) := by decide +kernel
theorem dX3_init_79 : decode cX3_init 79 = .ok (.newarray .int, 2) := by decide +kernel
theorem dX3_init_81 : decode cX3_init 81 = .ok (.putfield 40, 3) := by decide +kernel
theorem dX3_init_84 : decode cX3_init 84 = .ok (.aload_n 0, 1) := by decide +kernel
theorem dX3_init_85 : decode cX3_init 85 = .ok (.iconst 0, 1) := by decide +kernel
theorem dX3_init_86 : decode cX3_init 86 = .ok (.putfield 43, 3) := by decide +kernel
theorem dX3_init_89 : decode cX3_init 89 = .ok (.return_, 1) := by decide +kernel
theorem dX3_holds_0 : decode cX3_holds 0 = .ok (.iload_n 1, 1) := by decide +kernel
theorem dX3_holds_1 : decode cX3_holds 1 = .ok (.ifCond .lt 15, 3) := by decide +kernel
theorem dX3_holds_4 : decode cX3_holds 4 = .ok (.iload_n 1, 1) := by decide +kernel
theorem dX3_holds_5 : decode cX3_holds 5 = .ok (.aload_n 0, 1) := by decide +kernel
theorem dX3_holds_6 : decode cX3_holds 6 = .ok (.getfield 43, 3) := by decide +kernel
theorem dX3_holds_9 : decode cX3_holds 9 = .ok (.if_icmp .ge 7, 3) := by decide +kernel
theorem dX3_holds_12 : decode cX3_holds 12 = .ok (.iconst 1, 1) := by decide +kernel
theorem dX3_holds_13 : decode cX3_holds 13 = .ok (.goto 4, 3) := by decide +kernel
theorem dX3_holds_16 : decode cX3_holds 16 = .ok (.iconst 0, 1) := by decide +kernel
theorem dX3_holds_17 : decode cX3_holds 17 = .ok (.ireturn, 1) := by decide +kernel
set_option maxRecDepth 20000 in
theorem ggX3_write_X3_isTold : GoodIn wsX3_write wsX3_isTold := goodIn_r _ [16, 1, 2, 3, 4, 5, 6, 17, 18, 19, 20, 21, 22, 23, 24, 25, 26, 27] (by decide +kernel) (by decide +kernel)
set_option maxRecDepth 20000 in
theorem gX3_write_X3_isTold : GoodIn wsX3_write (wsV RX3 47 RX3 yX3_isTold wsX3_isTold) := goodIn_app (goodIn_of _ (by decide +kernel)) ggX3_write_X3_isTold
theorem dX3_write_0 : decode cX3_write 0 = .ok (.aload_n 0, 1) := by decide +kernel
theorem dX3_write_1 : decode cX3_write 1 = .ok (.getfield 43, 3) := by decide +kernel
theorem dX3_write_4 : decode cX3_write 4 = .ok (.istore 6, 2) := by decide +kernel
theorem dX3_write_6 : decode cX3_write 6 = .ok (.iload 6, 2) := by decide +kernel
theorem dX3_write_8 : decode cX3_write 8 = .ok (.bipush 40, 2) := by decide +kernel
theorem dX3_write_10 : decode cX3_write 10 = .ok (.if_icmp .lt 5, 3) := by decide +kernel
theorem dX3_write_13 : decode cX3_write 13 = .ok (.iconst (-1), 1) := by decide +kernel
theorem dX3_write_14 : decode cX3_write 14 = .ok (.ireturn, 1) := by decide +kernel
theorem dX3_write_15 : decode cX3_write 15 = .ok (.aload_n 0, 1) := by decide +kernel
theorem dX3_write_16 : decode cX3_write 16 = .ok (.iload_n 1, 1) := by decide +kernel
theorem dX3_write_17 : decode cX3_write 17 = .ok (.iload_n 2, 1) := by decide +kernel
theorem dX3_write_18 : decode cX3_write 18 = .ok (.iload_n 3, 1) := by decide +kernel
theorem dX3_write_19 : decode cX3_write 19 = .ok (.iload 4, 2) := by decide +kernel
theorem dX3_write_21 : decode cX3_write 21 = .ok (.iload 5, 2) := by decide +kernel
theorem dX3_write_23 : decode cX3_write 23 = .ok (.invokevirtual 47, 3) := by decide +kernel
theorem dX3_write_26 : decode cX3_write 26 = .ok (.istore 7, 2) := by decide +kernel
theorem dX3_write_28 : decode cX3_write 28 = .ok (.aload_n 0, 1) := by decide +kernel
theorem dX3_write_29 : decode cX3_write 29 = .ok (.getfield 9, 3) := by decide +kernel
theorem dX3_write_32 : decode cX3_write 32 = .ok (.iload 6, 2) := by decide +kernel
theorem dX3_write_34 : decode cX3_write 34 = .ok (.iload_n 1, 1) := by decide +kernel
theorem dX3_write_35 : decode cX3_write 35 = .ok (.iastore, 1) := by decide +kernel
theorem dX3_write_36 : decode cX3_write 36 = .ok (.aload_n 0, 1) := by decide +kernel
theorem dX3_write_37 : decode cX3_write 37 = .ok (.getfield 15, 3) := by decide +kernel
theorem dX3_write_40 : decode cX3_write 40 = .ok (.iload 6, 2) := by decide +kernel
theorem dX3_write_42 : decode cX3_write 42 = .ok (.iload_n 2, 1) := by decide +kernel
theorem dX3_write_43 : decode cX3_write 43 = .ok (.iastore, 1) := by decide +kernel
theorem dX3_write_44 : decode cX3_write 44 = .ok (.aload_n 0, 1) := by decide +kernel
theorem dX3_write_45 : decode cX3_write 45 = .ok (.getfield 18, 3) := by decide +kernel
theorem dX3_write_48 : decode cX3_write 48 = .ok (.iload 6, 2) := by decide +kernel
theorem dX3_write_50 : decode cX3_write 50 = .ok (.iload_n 3, 1) := by decide +kernel
theorem dX3_write_51 : decode cX3_write 51 = .ok (.iastore, 1) := by decide +kernel
theorem dX3_write_52 : decode cX3_write 52 = .ok (.aload_n 0, 1) := by decide +kernel
theorem dX3_write_53 : decode cX3_write 53 = .ok (.getfield 21, 3) := by decide +kernel
theorem dX3_write_56 : decode cX3_write 56 = .ok (.iload 6, 2) := by decide +kernel
theorem dX3_write_58 : decode cX3_write 58 = .ok (.iload 4, 2) := by decide +kernel
theorem dX3_write_60 : decode cX3_write 60 = .ok (.iastore, 1) := by decide +kernel
theorem dX3_write_61 : decode cX3_write 61 = .ok (.aload_n 0, 1) := by decide +kernel
theorem dX3_write_62 : decode cX3_write 62 = .ok (.getfield 24, 3) := by decide +kernel
theorem dX3_write_65 : decode cX3_write 65 = .ok (.iload 6, 2) := by decide +kernel
theorem dX3_write_67 : decode cX3_write 67 = .ok (.iload 5, 2) := by decide +kernel
theorem dX3_write_69 : decode cX3_write 69 = .ok (.iastore, 1) := by decide +kernel
theorem dX3_write_70 : decode cX3_write 70 = .ok (.aload_n 0, 1) := by decide +kernel
theorem dX3_write_71 : decode cX3_write 71 = .ok (.getfield 27, 3) := by decide +kernel
theorem dX3_write_74 : decode cX3_write 74 = .ok (.iload 6, 2) := by decide +kernel
theorem dX3_write_76 : decode cX3_write 76 = .ok (.iload 7, 2) := by decide +kernel
theorem dX3_write_78 : decode cX3_write 78 = .ok (.bastore, 1) := by decide +kernel
theorem dX3_write_79 : decode cX3_write 79 = .ok (.aload_n 0, 1) := by decide +kernel
theorem dX3_write_80 : decode cX3_write 80 = .ok (.getfield 31, 3) := by decide +kernel
theorem dX3_write_83 : decode cX3_write 83 = .ok (.iload 6, 2) := by decide +kernel
theorem dX3_write_85 : decode cX3_write 85 = .ok (.iload_n 1, 1) := by decide +kernel
theorem dX3_write_86 : decode cX3_write 86 = .ok (.iastore, 1) := by decide +kernel
theorem dX3_write_87 : decode cX3_write 87 = .ok (.aload_n 0, 1) := by decide +kernel
theorem dX3_write_88 : decode cX3_write 88 = .ok (.getfield 34, 3) := by decide +kernel
theorem dX3_write_91 : decode cX3_write 91 = .ok (.iload 6, 2) := by decide +kernel
theorem dX3_write_93 : decode cX3_write 93 = .ok (.iload_n 2, 1) := by decide +kernel
theorem dX3_write_94 : decode cX3_write 94 = .ok (.iastore, 1) := by decide +kernel
theorem dX3_write_95 : decode cX3_write 95 = .ok (.aload_n 0, 1) := by decide +kernel
theorem dX3_write_96 : decode cX3_write 96 = .ok (.getfield 37, 3) := by decide +kernel
theorem dX3_write_99 : decode cX3_write 99 = .ok (.iload 6, 2) := by decide +kernel
theorem dX3_write_101 : decode cX3_write 101 = .ok (.iload 4, 2) := by decide +kernel
theorem dX3_write_103 : decode cX3_write 103 = .ok (.iastore, 1) := by decide +kernel
theorem dX3_write_104 : decode cX3_write 104 = .ok (.aload_n 0, 1) := by decide +kernel
theorem dX3_write_105 : decode cX3_write 105 = .ok (.getfield 40, 3) := by decide +kernel
theorem dX3_write_108 : decode cX3_write 108 = .ok (.iload 6, 2) := by decide +kernel
theorem dX3_write_110 : decode cX3_write 110 = .ok (.iload 7, 2) := by decide +kernel
theorem dX3_write_112 : decode cX3_write 112 = .ok (.ifCond .eq 7, 3) := by decide +kernel
theorem dX3_write_115 : decode cX3_write 115 = .ok (.iconst 0, 1) := by decide +kernel
theorem dX3_write_116 : decode cX3_write 116 = .ok (.goto 4, 3) := by decide +kernel
theorem dX3_write_119 : decode cX3_write 119 = .ok (.iload_n 3, 1) := by decide +kernel
theorem dX3_write_120 : decode cX3_write 120 = .ok (.iastore, 1) := by decide +kernel
theorem dX3_write_121 : decode cX3_write 121 = .ok (.aload_n 0, 1) := by decide +kernel
theorem dX3_write_122 : decode cX3_write 122 = .ok (.dup, 1) := by decide +kernel
theorem dX3_write_123 : decode cX3_write 123 = .ok (.getfield 43, 3) := by decide +kernel
theorem dX3_write_126 : decode cX3_write 126 = .ok (.iconst 1, 1) := by decide +kernel
theorem dX3_write_127 : decode cX3_write 127 = .ok (.iadd, 1) := by decide +kernel
theorem dX3_write_128 : decode cX3_write 128 = .ok (.putfield 43, 3) := by decide +kernel
theorem dX3_write_131 : decode cX3_write 131 = .ok (.iload 6, 2) := by decide +kernel
theorem dX3_write_133 : decode cX3_write 133 = .ok (.ireturn, 1) := by decide +kernel
theorem dX3_isTold_0 : decode cX3_isTold 0 = .ok (.iconst 0, 1) := by decide +kernel
theorem dX3_isTold_1 : decode cX3_isTold 1 = .ok (.istore 6, 2) := by decide +kernel
theorem dX3_isTold_3 : decode cX3_isTold 3 = .ok (.iload 6, 2) := by decide +kernel
theorem dX3_isTold_5 : decode cX3_isTold 5 = .ok (.aload_n 0, 1) := by decide +kernel
theorem dX3_isTold_6 : decode cX3_isTold 6 = .ok (.getfield 43, 3) := by decide +kernel
theorem dX3_isTold_9 : decode cX3_isTold 9 = .ok (.if_icmp .ge 68, 3) := by decide +kernel
theorem dX3_isTold_12 : decode cX3_isTold 12 = .ok (.aload_n 0, 1) := by decide +kernel
theorem dX3_isTold_13 : decode cX3_isTold 13 = .ok (.getfield 9, 3) := by decide +kernel
theorem dX3_isTold_16 : decode cX3_isTold 16 = .ok (.iload 6, 2) := by decide +kernel
theorem dX3_isTold_18 : decode cX3_isTold 18 = .ok (.iaload, 1) := by decide +kernel
theorem dX3_isTold_19 : decode cX3_isTold 19 = .ok (.iload_n 1, 1) := by decide +kernel
theorem dX3_isTold_20 : decode cX3_isTold 20 = .ok (.if_icmp .ne 51, 3) := by decide +kernel
theorem dX3_isTold_23 : decode cX3_isTold 23 = .ok (.aload_n 0, 1) := by decide +kernel
theorem dX3_isTold_24 : decode cX3_isTold 24 = .ok (.getfield 15, 3) := by decide +kernel
theorem dX3_isTold_27 : decode cX3_isTold 27 = .ok (.iload 6, 2) := by decide +kernel
theorem dX3_isTold_29 : decode cX3_isTold 29 = .ok (.iaload, 1) := by decide +kernel
theorem dX3_isTold_30 : decode cX3_isTold 30 = .ok (.iload_n 2, 1) := by decide +kernel
theorem dX3_isTold_31 : decode cX3_isTold 31 = .ok (.if_icmp .ne 40, 3) := by decide +kernel
theorem dX3_isTold_34 : decode cX3_isTold 34 = .ok (.aload_n 0, 1) := by decide +kernel
theorem dX3_isTold_35 : decode cX3_isTold 35 = .ok (.getfield 18, 3) := by decide +kernel
theorem dX3_isTold_38 : decode cX3_isTold 38 = .ok (.iload 6, 2) := by decide +kernel
theorem dX3_isTold_40 : decode cX3_isTold 40 = .ok (.iaload, 1) := by decide +kernel
end
section
theorem dX3_isTold_41 : decode cX3_isTold 41 = .ok (.iload_n 3, 1) := by decide +kernel
theorem dX3_isTold_42 : decode cX3_isTold 42 = .ok (.if_icmp .ne 29, 3) := by decide +kernel
theorem dX3_isTold_45 : decode cX3_isTold 45 = .ok (.aload_n 0, 1) := by decide +kernel
theorem dX3_isTold_46 : decode cX3_isTold 46 = .ok (.getfield 21, 3) := by decide +kernel
theorem dX3_isTold_49 : decode cX3_isTold 49 = .ok (.iload 6, 2) := by decide +kernel
theorem dX3_isTold_51 : decode cX3_isTold 51 = .ok (.iaload, 1) := by decide +kernel
theorem dX3_isTold_52 : decode cX3_isTold 52 = .ok (.iload 4, 2) := by decide +kernel
theorem dX3_isTold_54 : decode cX3_isTold 54 = .ok (.if_icmp .ne 17, 3) := by decide +kernel
theorem dX3_isTold_57 : decode cX3_isTold 57 = .ok (.aload_n 0, 1) := by decide +kernel
theorem dX3_isTold_58 : decode cX3_isTold 58 = .ok (.getfield 24, 3) := by decide +kernel
theorem dX3_isTold_61 : decode cX3_isTold 61 = .ok (.iload 6, 2) := by decide +kernel
theorem dX3_isTold_63 : decode cX3_isTold 63 = .ok (.iaload, 1) := by decide +kernel
theorem dX3_isTold_64 : decode cX3_isTold 64 = .ok (.iload 5, 2) := by decide +kernel
theorem dX3_isTold_66 : decode cX3_isTold 66 = .ok (.if_icmp .ne 5, 3) := by decide +kernel
theorem dX3_isTold_69 : decode cX3_isTold 69 = .ok (.iconst 1, 1) := by decide +kernel
theorem dX3_isTold_70 : decode cX3_isTold 70 = .ok (.ireturn, 1) := by decide +kernel
theorem dX3_isTold_71 : decode cX3_isTold 71 = .ok (.iinc 6 1, 3) := by decide +kernel
theorem dX3_isTold_74 : decode cX3_isTold 74 = .ok (.goto (-71), 3) := by decide +kernel
theorem dX3_isTold_77 : decode cX3_isTold 77 = .ok (.iconst 0, 1) := by decide +kernel
theorem dX3_isTold_78 : decode cX3_isTold 78 = .ok (.ireturn, 1) := by decide +kernel
theorem dX3_tell_0 : decode cX3_tell 0 = .ok (.iload_n 2, 1) := by decide +kernel
theorem dX3_tell_1 : decode cX3_tell 1 = .ok (.tableswitch 81 0 5 #[39, 46, 53, 60, 67, 74], 39) := by decide +kernel
theorem dX3_tell_40 : decode cX3_tell 40 = .ok (.aload_n 0, 1) := by decide +kernel
theorem dX3_tell_41 : decode cX3_tell 41 = .ok (.getfield 31, 3) := by decide +kernel
theorem dX3_tell_44 : decode cX3_tell 44 = .ok (.iload_n 1, 1) := by decide +kernel
theorem dX3_tell_45 : decode cX3_tell 45 = .ok (.iaload, 1) := by decide +kernel
theorem dX3_tell_46 : decode cX3_tell 46 = .ok (.ireturn, 1) := by decide +kernel
theorem dX3_tell_47 : decode cX3_tell 47 = .ok (.aload_n 0, 1) := by decide +kernel
theorem dX3_tell_48 : decode cX3_tell 48 = .ok (.getfield 34, 3) := by decide +kernel
theorem dX3_tell_51 : decode cX3_tell 51 = .ok (.iload_n 1, 1) := by decide +kernel
theorem dX3_tell_52 : decode cX3_tell 52 = .ok (.iaload, 1) := by decide +kernel
theorem dX3_tell_53 : decode cX3_tell 53 = .ok (.ireturn, 1) := by decide +kernel
theorem dX3_tell_54 : decode cX3_tell 54 = .ok (.aload_n 0, 1) := by decide +kernel
theorem dX3_tell_55 : decode cX3_tell 55 = .ok (.getfield 18, 3) := by decide +kernel
theorem dX3_tell_58 : decode cX3_tell 58 = .ok (.iload_n 1, 1) := by decide +kernel
theorem dX3_tell_59 : decode cX3_tell 59 = .ok (.iaload, 1) := by decide +kernel
theorem dX3_tell_60 : decode cX3_tell 60 = .ok (.ireturn, 1) := by decide +kernel
theorem dX3_tell_61 : decode cX3_tell 61 = .ok (.aload_n 0, 1) := by decide +kernel
theorem dX3_tell_62 : decode cX3_tell 62 = .ok (.getfield 37, 3) := by decide +kernel
theorem dX3_tell_65 : decode cX3_tell 65 = .ok (.iload_n 1, 1) := by decide +kernel
theorem dX3_tell_66 : decode cX3_tell 66 = .ok (.iaload, 1) := by decide +kernel
theorem dX3_tell_67 : decode cX3_tell 67 = .ok (.ireturn, 1) := by decide +kernel
theorem dX3_tell_68 : decode cX3_tell 68 = .ok (.aload_n 0, 1) := by decide +kernel
theorem dX3_tell_69 : decode cX3_tell 69 = .ok (.getfield 40, 3) := by decide +kernel
theorem dX3_tell_72 : decode cX3_tell 72 = .ok (.iload_n 1, 1) := by decide +kernel
theorem dX3_tell_73 : decode cX3_tell 73 = .ok (.iaload, 1) := by decide +kernel
theorem dX3_tell_74 : decode cX3_tell 74 = .ok (.ireturn, 1) := by decide +kernel
theorem dX3_tell_75 : decode cX3_tell 75 = .ok (.aload_n 0, 1) := by decide +kernel
theorem dX3_tell_76 : decode cX3_tell 76 = .ok (.getfield 24, 3) := by decide +kernel
theorem dX3_tell_79 : decode cX3_tell 79 = .ok (.iload_n 1, 1) := by decide +kernel
theorem dX3_tell_80 : decode cX3_tell 80 = .ok (.iaload, 1) := by decide +kernel
theorem dX3_tell_81 : decode cX3_tell 81 = .ok (.ireturn, 1) := by decide +kernel
theorem dX3_tell_82 : decode cX3_tell 82 = .ok (.aload_n 0, 1) := by decide +kernel
theorem dX3_tell_83 : decode cX3_tell 83 = .ok (.getfield 27, 3) := by decide +kernel
theorem dX3_tell_86 : decode cX3_tell 86 = .ok (.iload_n 1, 1) := by decide +kernel
theorem dX3_tell_87 : decode cX3_tell 87 = .ok (.baload, 1) := by decide +kernel
theorem dX3_tell_88 : decode cX3_tell 88 = .ok (.ifCond .eq 7, 3) := by decide +kernel
theorem dX3_tell_91 : decode cX3_tell 91 = .ok (.iconst 1, 1) := by decide +kernel
theorem dX3_tell_92 : decode cX3_tell 92 = .ok (.goto 4, 3) := by decide +kernel
theorem dX3_tell_95 : decode cX3_tell 95 = .ok (.iconst 0, 1) := by decide +kernel
theorem dX3_tell_96 : decode cX3_tell 96 = .ok (.ireturn, 1) := by decide +kernel
theorem dX3_netOf_0 : decode cX3_netOf 0 = .ok (.iconst 0, 1) := by decide +kernel
theorem dX3_netOf_1 : decode cX3_netOf 1 = .ok (.istore_n 2, 1) := by decide +kernel
theorem dX3_netOf_2 : decode cX3_netOf 2 = .ok (.iconst 0, 1) := by decide +kernel
theorem dX3_netOf_3 : decode cX3_netOf 3 = .ok (.istore_n 3, 1) := by decide +kernel
theorem dX3_netOf_4 : decode cX3_netOf 4 = .ok (.iload_n 3, 1) := by decide +kernel
theorem dX3_netOf_5 : decode cX3_netOf 5 = .ok (.aload_n 0, 1) := by decide +kernel
theorem dX3_netOf_6 : decode cX3_netOf 6 = .ok (.getfield 43, 3) := by decide +kernel
theorem dX3_netOf_9 : decode cX3_netOf 9 = .ok (.if_icmp .ge 47, 3) := by decide +kernel
theorem dX3_netOf_12 : decode cX3_netOf 12 = .ok (.aload_n 0, 1) := by decide +kernel
theorem dX3_netOf_13 : decode cX3_netOf 13 = .ok (.getfield 34, 3) := by decide +kernel
theorem dX3_netOf_16 : decode cX3_netOf 16 = .ok (.iload_n 3, 1) := by decide +kernel
theorem dX3_netOf_17 : decode cX3_netOf 17 = .ok (.iaload, 1) := by decide +kernel
theorem dX3_netOf_18 : decode cX3_netOf 18 = .ok (.iload_n 1, 1) := by decide +kernel
theorem dX3_netOf_19 : decode cX3_netOf 19 = .ok (.if_icmp .ne 12, 3) := by decide +kernel
theorem dX3_netOf_22 : decode cX3_netOf 22 = .ok (.iload_n 2, 1) := by decide +kernel
theorem dX3_netOf_23 : decode cX3_netOf 23 = .ok (.aload_n 0, 1) := by decide +kernel
theorem dX3_netOf_24 : decode cX3_netOf 24 = .ok (.getfield 40, 3) := by decide +kernel
theorem dX3_netOf_27 : decode cX3_netOf 27 = .ok (.iload_n 3, 1) := by decide +kernel
theorem dX3_netOf_28 : decode cX3_netOf 28 = .ok (.iaload, 1) := by decide +kernel
theorem dX3_netOf_29 : decode cX3_netOf 29 = .ok (.iadd, 1) := by decide +kernel
theorem dX3_netOf_30 : decode cX3_netOf 30 = .ok (.istore_n 2, 1) := by decide +kernel
theorem dX3_netOf_31 : decode cX3_netOf 31 = .ok (.aload_n 0, 1) := by decide +kernel
theorem dX3_netOf_32 : decode cX3_netOf 32 = .ok (.getfield 31, 3) := by decide +kernel
theorem dX3_netOf_35 : decode cX3_netOf 35 = .ok (.iload_n 3, 1) := by decide +kernel
theorem dX3_netOf_36 : decode cX3_netOf 36 = .ok (.iaload, 1) := by decide +kernel
theorem dX3_netOf_37 : decode cX3_netOf 37 = .ok (.iload_n 1, 1) := by decide +kernel
theorem dX3_netOf_38 : decode cX3_netOf 38 = .ok (.if_icmp .ne 12, 3) := by decide +kernel
theorem dX3_netOf_41 : decode cX3_netOf 41 = .ok (.iload_n 2, 1) := by decide +kernel
theorem dX3_netOf_42 : decode cX3_netOf 42 = .ok (.aload_n 0, 1) := by decide +kernel
theorem dX3_netOf_43 : decode cX3_netOf 43 = .ok (.getfield 40, 3) := by decide +kernel
theorem dX3_netOf_46 : decode cX3_netOf 46 = .ok (.iload_n 3, 1) := by decide +kernel
theorem dX3_netOf_47 : decode cX3_netOf 47 = .ok (.iaload, 1) := by decide +kernel
theorem dX3_netOf_48 : decode cX3_netOf 48 = .ok (.isub, 1) := by decide +kernel
theorem dX3_netOf_49 : decode cX3_netOf 49 = .ok (.istore_n 2, 1) := by decide +kernel
theorem dX3_netOf_50 : decode cX3_netOf 50 = .ok (.iinc 3 1, 3) := by decide +kernel
theorem dX3_netOf_53 : decode cX3_netOf 53 = .ok (.goto (-49), 3) := by decide +kernel
theorem dX3_netOf_56 : decode cX3_netOf 56 = .ok (.iload_n 2, 1) := by decide +kernel
theorem dX3_netOf_57 : decode cX3_netOf 57 = .ok (.ireturn, 1) := by decide +kernel
theorem dX3_handOver_0 : decode cX3_handOver 0 = .ok (.iconst 0, 1) := by decide +kernel
theorem dX3_handOver_1 : decode cX3_handOver 1 = .ok (.istore_n 3, 1) := by decide +kernel
theorem dX3_handOver_2 : decode cX3_handOver 2 = .ok (.iload_n 3, 1) := by decide +kernel
theorem dX3_handOver_3 : decode cX3_handOver 3 = .ok (.aload_n 0, 1) := by decide +kernel
theorem dX3_handOver_4 : decode cX3_handOver 4 = .ok (.getfield 43, 3) := by decide +kernel
theorem dX3_handOver_7 : decode cX3_handOver 7 = .ok (.if_icmp .ge 65, 3) := by decide +kernel
theorem dX3_handOver_10 : decode cX3_handOver 10 = .ok (.aload_n 0, 1) := by decide +kernel
theorem dX3_handOver_11 : decode cX3_handOver 11 = .ok (.getfield 31, 3) := by decide +kernel
theorem dX3_handOver_14 : decode cX3_handOver 14 = .ok (.iload_n 3, 1) := by decide +kernel
theorem dX3_handOver_15 : decode cX3_handOver 15 = .ok (.iaload, 1) := by decide +kernel
theorem dX3_handOver_16 : decode cX3_handOver 16 = .ok (.iload_n 1, 1) := by decide +kernel
theorem dX3_handOver_17 : decode cX3_handOver 17 = .ok (.if_icmp .ne 10, 3) := by decide +kernel
theorem dX3_handOver_20 : decode cX3_handOver 20 = .ok (.aload_n 0, 1) := by decide +kernel
theorem dX3_handOver_21 : decode cX3_handOver 21 = .ok (.getfield 31, 3) := by decide +kernel
theorem dX3_handOver_24 : decode cX3_handOver 24 = .ok (.iload_n 3, 1) := by decide +kernel
theorem dX3_handOver_25 : decode cX3_handOver 25 = .ok (.iload_n 2, 1) := by decide +kernel
theorem dX3_handOver_26 : decode cX3_handOver 26 = .ok (.iastore, 1) := by decide +kernel
theorem dX3_handOver_27 : decode cX3_handOver 27 = .ok (.aload_n 0, 1) := by decide +kernel
theorem dX3_handOver_28 : decode cX3_handOver 28 = .ok (.getfield 34, 3) := by decide +kernel
theorem dX3_handOver_31 : decode cX3_handOver 31 = .ok (.iload_n 3, 1) := by decide +kernel
theorem dX3_handOver_32 : decode cX3_handOver 32 = .ok (.iaload, 1) := by decide +kernel
theorem dX3_handOver_33 : decode cX3_handOver 33 = .ok (.iload_n 1, 1) := by decide +kernel
theorem dX3_handOver_34 : decode cX3_handOver 34 = .ok (.if_icmp .ne 10, 3) := by decide +kernel
theorem dX3_handOver_37 : decode cX3_handOver 37 = .ok (.aload_n 0, 1) := by decide +kernel
theorem dX3_handOver_38 : decode cX3_handOver 38 = .ok (.getfield 34, 3) := by decide +kernel
theorem dX3_handOver_41 : decode cX3_handOver 41 = .ok (.iload_n 3, 1) := by decide +kernel
theorem dX3_handOver_42 : decode cX3_handOver 42 = .ok (.iload_n 2, 1) := by decide +kernel
theorem dX3_handOver_43 : decode cX3_handOver 43 = .ok (.iastore, 1) := by decide +kernel
theorem dX3_handOver_44 : decode cX3_handOver 44 = .ok (.aload_n 0, 1) := by decide +kernel
theorem dX3_handOver_45 : decode cX3_handOver 45 = .ok (.getfield 31, 3) := by decide +kernel
theorem dX3_handOver_48 : decode cX3_handOver 48 = .ok (.iload_n 3, 1) := by decide +kernel
theorem dX3_handOver_49 : decode cX3_handOver 49 = .ok (.iaload, 1) := by decide +kernel
theorem dX3_handOver_50 : decode cX3_handOver 50 = .ok (.aload_n 0, 1) := by decide +kernel
theorem dX3_handOver_51 : decode cX3_handOver 51 = .ok (.getfield 34, 3) := by decide +kernel
theorem dX3_handOver_54 : decode cX3_handOver 54 = .ok (.iload_n 3, 1) := by decide +kernel
theorem dX3_handOver_55 : decode cX3_handOver 55 = .ok (.iaload, 1) := by decide +kernel
theorem dX3_handOver_56 : decode cX3_handOver 56 = .ok (.if_icmp .ne 10, 3) := by decide +kernel
theorem dX3_handOver_59 : decode cX3_handOver 59 = .ok (.aload_n 0, 1) := by decide +kernel
theorem dX3_handOver_60 : decode cX3_handOver 60 = .ok (.getfield 40, 3) := by decide +kernel
theorem dX3_handOver_63 : decode cX3_handOver 63 = .ok (.iload_n 3, 1) := by decide +kernel
theorem dX3_handOver_64 : decode cX3_handOver 64 = .ok (.iconst 0, 1) := by decide +kernel
theorem dX3_handOver_65 : decode cX3_handOver 65 = .ok (.iastore, 1) := by decide +kernel
theorem dX3_handOver_66 : decode cX3_handOver 66 = .ok (.iinc 3 1, 3) := by decide +kernel
theorem dX3_handOver_69 : decode cX3_handOver 69 = .ok (.goto (-67), 3) := by decide +kernel
theorem dX3_handOver_72 : decode cX3_handOver 72 = .ok (.return_, 1) := by decide +kernel
set_option maxRecDepth 20000 in
theorem ggX3_obey_X2_leftOf : GoodIn wsX3_obey wsX2_leftOf := goodIn_r _ [9, 10, 11, 12, 13, 14, 8, 15, 16, 33, 34, 35, 36, 37] (by decide +kernel) (by decide +kernel)
set_option maxRecDepth 20000 in
theorem gX3_obey_X2_leftOf : GoodIn wsX3_obey (wsV RX3 51 RX2 yX2_leftOf wsX2_leftOf) := goodIn_app (goodIn_of _ (by decide +kernel)) ggX3_obey_X2_leftOf
set_option maxRecDepth 20000 in
theorem ggX3_obey_X2_rankFor : GoodIn wsX3_obey wsX2_rankFor := goodIn_r _ [20, 21, 12, 13, 14, 8, 15, 16, 33, 34, 35, 36, 37] (by decide +kernel) (by decide +kernel)
set_option maxRecDepth 20000 in
theorem gX3_obey_X2_rankFor : GoodIn wsX3_obey (wsV RX3 57 RX2 yX2_rankFor wsX2_rankFor) := goodIn_app (goodIn_of _ (by decide +kernel)) ggX3_obey_X2_rankFor
theorem dX3_obey_0 : decode cX3_obey 0 = .ok (.iconst 0, 1) := by decide +kernel
theorem dX3_obey_1 : decode cX3_obey 1 = .ok (.istore_n 2, 1) := by decide +kernel
theorem dX3_obey_2 : decode cX3_obey 2 = .ok (.iconst 0, 1) := by decide +kernel
theorem dX3_obey_3 : decode cX3_obey 3 = .ok (.istore_n 3, 1) := by decide +kernel
theorem dX3_obey_4 : decode cX3_obey 4 = .ok (.iload_n 3, 1) := by decide +kernel
theorem dX3_obey_5 : decode cX3_obey 5 = .ok (.aload_n 0, 1) := by decide +kernel
theorem dX3_obey_6 : decode cX3_obey 6 = .ok (.getfield 43, 3) := by decide +kernel
theorem dX3_obey_9 : decode cX3_obey 9 = .ok (.if_icmp .ge 75, 3) := by decide +kernel
theorem dX3_obey_12 : decode cX3_obey 12 = .ok (.aload_n 1, 1) := by decide +kernel
theorem dX3_obey_13 : decode cX3_obey 13 = .ok (.aload_n 0, 1) := by decide +kernel
theorem dX3_obey_14 : decode cX3_obey 14 = .ok (.getfield 40, 3) := by decide +kernel
theorem dX3_obey_17 : decode cX3_obey 17 = .ok (.iload_n 3, 1) := by decide +kernel
theorem dX3_obey_18 : decode cX3_obey 18 = .ok (.iaload, 1) := by decide +kernel
theorem dX3_obey_19 : decode cX3_obey 19 = .ok (.aload_n 0, 1) := by decide +kernel
theorem dX3_obey_20 : decode cX3_obey 20 = .ok (.getfield 37, 3) := by decide +kernel
theorem dX3_obey_23 : decode cX3_obey 23 = .ok (.iload_n 3, 1) := by decide +kernel
theorem dX3_obey_24 : decode cX3_obey 24 = .ok (.iaload, 1) := by decide +kernel
theorem dX3_obey_25 : decode cX3_obey 25 = .ok (.aload_n 0, 1) := by decide +kernel
theorem dX3_obey_26 : decode cX3_obey 26 = .ok (.getfield 24, 3) := by decide +kernel
theorem dX3_obey_29 : decode cX3_obey 29 = .ok (.iload_n 3, 1) := by decide +kernel
theorem dX3_obey_30 : decode cX3_obey 30 = .ok (.iaload, 1) := by decide +kernel
theorem dX3_obey_31 : decode cX3_obey 31 = .ok (.invokevirtual 51, 3) := by decide +kernel
theorem dX3_obey_34 : decode cX3_obey 34 = .ok (.istore 4, 2) := by decide +kernel
theorem dX3_obey_36 : decode cX3_obey 36 = .ok (.iload_n 2, 1) := by decide +kernel
theorem dX3_obey_37 : decode cX3_obey 37 = .ok (.aload_n 0, 1) := by decide +kernel
theorem dX3_obey_38 : decode cX3_obey 38 = .ok (.getfield 40, 3) := by decide +kernel
theorem dX3_obey_41 : decode cX3_obey 41 = .ok (.iload_n 3, 1) := by decide +kernel
theorem dX3_obey_42 : decode cX3_obey 42 = .ok (.iaload, 1) := by decide +kernel
theorem dX3_obey_43 : decode cX3_obey 43 = .ok (.iload 4, 2) := by decide +kernel
theorem dX3_obey_45 : decode cX3_obey 45 = .ok (.isub, 1) := by decide +kernel
theorem dX3_obey_46 : decode cX3_obey 46 = .ok (.iadd, 1) := by decide +kernel
theorem dX3_obey_47 : decode cX3_obey 47 = .ok (.istore_n 2, 1) := by decide +kernel
theorem dX3_obey_48 : decode cX3_obey 48 = .ok (.aload_n 0, 1) := by decide +kernel
theorem dX3_obey_49 : decode cX3_obey 49 = .ok (.getfield 40, 3) := by decide +kernel
theorem dX3_obey_52 : decode cX3_obey 52 = .ok (.iload_n 3, 1) := by decide +kernel
theorem dX3_obey_53 : decode cX3_obey 53 = .ok (.iload 4, 2) := by decide +kernel
theorem dX3_obey_55 : decode cX3_obey 55 = .ok (.iastore, 1) := by decide +kernel
theorem dX3_obey_56 : decode cX3_obey 56 = .ok (.aload_n 0, 1) := by decide +kernel
theorem dX3_obey_57 : decode cX3_obey 57 = .ok (.getfield 37, 3) := by decide +kernel
theorem dX3_obey_60 : decode cX3_obey 60 = .ok (.iload_n 3, 1) := by decide +kernel
theorem dX3_obey_61 : decode cX3_obey 61 = .ok (.aload_n 1, 1) := by decide +kernel
theorem dX3_obey_62 : decode cX3_obey 62 = .ok (.aload_n 0, 1) := by decide +kernel
theorem dX3_obey_63 : decode cX3_obey 63 = .ok (.getfield 37, 3) := by decide +kernel
theorem dX3_obey_66 : decode cX3_obey 66 = .ok (.iload_n 3, 1) := by decide +kernel
theorem dX3_obey_67 : decode cX3_obey 67 = .ok (.iaload, 1) := by decide +kernel
theorem dX3_obey_68 : decode cX3_obey 68 = .ok (.aload_n 0, 1) := by decide +kernel
theorem dX3_obey_69 : decode cX3_obey 69 = .ok (.getfield 24, 3) := by decide +kernel
theorem dX3_obey_72 : decode cX3_obey 72 = .ok (.iload_n 3, 1) := by decide +kernel
theorem dX3_obey_73 : decode cX3_obey 73 = .ok (.iaload, 1) := by decide +kernel
theorem dX3_obey_74 : decode cX3_obey 74 = .ok (.invokevirtual 57, 3) := by decide +kernel
theorem dX3_obey_77 : decode cX3_obey 77 = .ok (.iastore, 1) := by decide +kernel
theorem dX3_obey_78 : decode cX3_obey 78 = .ok (.iinc 3 1, 3) := by decide +kernel
theorem dX3_obey_81 : decode cX3_obey 81 = .ok (.goto (-77), 3) := by decide +kernel
theorem dX3_obey_84 : decode cX3_obey 84 = .ok (.iload_n 2, 1) := by decide +kernel
theorem dX3_obey_85 : decode cX3_obey 85 = .ok (.ireturn, 1) := by decide +kernel
theorem dX3_leftInAll_0 : decode cX3_leftInAll 0 = .ok (.iconst 0, 1) := by decide +kernel
theorem dX3_leftInAll_1 : decode cX3_leftInAll 1 = .ok (.istore_n 1, 1) := by decide +kernel
theorem dX3_leftInAll_2 : decode cX3_leftInAll 2 = .ok (.iconst 0, 1) := by decide +kernel
theorem dX3_leftInAll_3 : decode cX3_leftInAll 3 = .ok (.istore_n 2, 1) := by decide +kernel
theorem dX3_leftInAll_4 : decode cX3_leftInAll 4 = .ok (.iload_n 2, 1) := by decide +kernel
theorem dX3_leftInAll_5 : decode cX3_leftInAll 5 = .ok (.aload_n 0, 1) := by decide +kernel
theorem dX3_leftInAll_6 : decode cX3_leftInAll 6 = .ok (.getfield 43, 3) := by decide +kernel
theorem dX3_leftInAll_9 : decode cX3_leftInAll 9 = .ok (.if_icmp .ge 18, 3) := by decide +kernel
theorem dX3_leftInAll_12 : decode cX3_leftInAll 12 = .ok (.iload_n 1, 1) := by decide +kernel
theorem dX3_leftInAll_13 : decode cX3_leftInAll 13 = .ok (.aload_n 0, 1) := by decide +kernel
theorem dX3_leftInAll_14 : decode cX3_leftInAll 14 = .ok (.getfield 40, 3) := by decide +kernel
theorem dX3_leftInAll_17 : decode cX3_leftInAll 17 = .ok (.iload_n 2, 1) := by decide +kernel
theorem dX3_leftInAll_18 : decode cX3_leftInAll 18 = .ok (.iaload, 1) := by decide +kernel
theorem dX3_leftInAll_19 : decode cX3_leftInAll 19 = .ok (.iadd, 1) := by decide +kernel
theorem dX3_leftInAll_20 : decode cX3_leftInAll 20 = .ok (.istore_n 1, 1) := by decide +kernel
theorem dX3_leftInAll_21 : decode cX3_leftInAll 21 = .ok (.iinc 2 1, 3) := by decide +kernel
theorem dX3_leftInAll_24 : decode cX3_leftInAll 24 = .ok (.goto (-20), 3) := by decide +kernel
theorem dX3_leftInAll_27 : decode cX3_leftInAll 27 = .ok (.iload_n 1, 1) := by decide +kernel
theorem dX3_leftInAll_28 : decode cX3_leftInAll 28 = .ok (.ireturn, 1) := by decide +kernel
theorem dX4_init_0 : decode cX4_init 0 = .ok (.aload_n 0, 1) := by decide +kernel
theorem dX4_init_1 : decode cX4_init 1 = .ok (.invokespecial 3, 3) := by decide +kernel
theorem dX4_init_4 : decode cX4_init 4 = .ok (.aload_n 0, 1) := by decide +kernel
theorem dX4_init_5 : decode cX4_init 5 = .ok (.sipush 300, 3) := by decide +kernel
theorem dX4_init_8 : decode cX4_init 8 = .ok (.newarray .int, 2) := by decide +kernel
theorem dX4_init_10 : decode cX4_init 10 = .ok (.putfield 9, 3) := by decide +kernel
theorem dX4_init_13 : decode cX4_init 13 = .ok (.aload_n 0, 1) := by decide +kernel
theorem dX4_init_14 : decode cX4_init 14 = .ok (.iconst 0, 1) := by decide +kernel
theorem dX4_init_15 : decode cX4_init 15 = .ok (.putfield 15, 3) := by decide +kernel
theorem dX4_init_18 : decode cX4_init 18 = .ok (.aload_n 0, 1) := by decide +kernel
theorem dX4_init_19 : decode cX4_init 19 = .ok (.iconst 5, 1) := by decide +kernel
theorem dX4_init_20 : decode cX4_init 20 = .ok (.putfield 19, 3) := by decide +kernel
theorem dX4_init_23 : decode cX4_init 23 = .ok (.aload_n 0, 1) := by decide +kernel
theorem dX4_init_24 : decode cX4_init 24 = .ok (.iconst 0, 1) := by decide +kernel
theorem dX4_init_25 : decode cX4_init 25 = .ok (.putfield 22, 3) := by decide +kernel
theorem dX4_init_28 : decode cX4_init 28 = .ok (.aload_n 0, 1) := by decide +kernel
theorem dX4_init_29 : decode cX4_init 29 = .ok (.iconst 0, 1) := by decide +kernel
theorem dX4_init_30 : decode cX4_init 30 = .ok (.putfield 25, 3) := by decide +kernel
theorem dX4_init_33 : decode cX4_init 33 = .ok (.aload_n 0, 1) := by decide +kernel
theorem dX4_init_34 : decode cX4_init 34 = .ok (.iconst 0, 1) := by decide +kernel
theorem dX4_init_35 : decode cX4_init 35 = .ok (.putfield 28, 3) := by decide +kernel
theorem dX4_init_38 : decode cX4_init 38 = .ok (.aload_n 0, 1) := by decide +kernel
theorem dX4_init_39 : decode cX4_init 39 = .ok (.iconst (-1), 1) := by decide +kernel
theorem dX4_init_40 : decode cX4_init 40 = .ok (.putfield 31, 3) := by decide +kernel
theorem dX4_init_43 : decode cX4_init 43 = .ok (.return_, 1) := by decide +kernel
set_option maxRecDepth 20000 in
theorem ggX4_read_X2_empty : GoodIn wsX4_read wsX2_empty := goodIn_r _ [15, 16, 17, 18, 19, 20, 21, 22, 23, 24, 140, 141, 142, 143, 144] (by decide +kernel) (by decide +kernel)
set_option maxRecDepth 20000 in
theorem gX4_read_X2_empty : GoodIn wsX4_read (wsV RX4 46 RX2 yX2_empty wsX2_empty) := goodIn_app (goodIn_of _ (by decide +kernel)) ggX4_read_X2_empty
set_option maxRecDepth 20000 in
theorem ggX4_read_X4_step : GoodIn wsX4_read wsX4_step := goodIn_r _ [29, 7, 5, 6, 30, 10, 31, 32, 28, 33, 34, 35, 36, 37, 133, 134, 135, 136, 137, 138, 139] (by decide +kernel) (by decide +kernel)
set_option maxRecDepth 20000 in
theorem gX4_read_X4_step : GoodIn wsX4_read (wsV RX4 51 RX4 yX4_step wsX4_step) := goodIn_app (goodIn_of _ (by decide +kernel)) ggX4_read_X4_step
set_option maxRecDepth 20000 in
theorem ggX4_read_X4_readLine : GoodIn wsX4_read wsX4_readLine := goodIn_r _ [41, 42, 43, 44, 28, 45, 10, 7, 30, 6, 46, 47, 48, 49, 50, 51, 52, 53, 54, 55, 56, 57, 58, 59, 60, 61, 62, 63, 64, 65, 66, 67, 68, 69, 70, 71, 72, 73, 74, 75, 76, 77, 78, 79, 80, 81, 82, 83, 84, 85, 86, 87, 88, 89, 90, 91, 92, 93, 94, 95, 96, 97, 98, 25, 26, 27, 29, 5, 31, 32, 33, 34, 35, 36, 37, 99, 100, 101, 102, 103, 104, 105, 106, 107, 108, 109, 110, 8, 9, 111, 112, 113, 114, 115, 116, 117, 118, 119, 120, 121, 122, 123, 124, 125, 126, 127, 128, 129, 130, 140, 141, 142, 143, 144, 133, 134, 135, 136, 137, 138, 139] (by decide +kernel) (by decide +kernel)
set_option maxRecDepth 20000 in
theorem gX4_read_X4_readLine : GoodIn wsX4_read (wsV RX4 54 RX4 yX4_readLine wsX4_readLine) := goodIn_app (goodIn_of _ (by decide +kernel)) ggX4_read_X4_readLine
theorem dX4_read_0 : decode cX4_read 0 = .ok (.aload_n 0, 1) := by decide +kernel
theorem dX4_read_1 : decode cX4_read 1 = .ok (.iload_n 2, 1) := by decide +kernel
theorem dX4_read_2 : decode cX4_read 2 = .ok (.aload_n 1, 1) := by decide +kernel
theorem dX4_read_3 : decode cX4_read 3 = .ok (.getfield 34, 3) := by decide +kernel
theorem dX4_read_6 : decode cX4_read 6 = .ok (.invokestatic 37, 3) := by decide +kernel
theorem dX4_read_9 : decode cX4_read 9 = .ok (.putfield 15, 3) := by decide +kernel
theorem dX4_read_12 : decode cX4_read 12 = .ok (.iconst 0, 1) := by decide +kernel
theorem dX4_read_13 : decode cX4_read 13 = .ok (.istore 4, 2) := by decide +kernel
theorem dX4_read_15 : decode cX4_read 15 = .ok (.iload 4, 2) := by decide +kernel
theorem dX4_read_17 : decode cX4_read 17 = .ok (.aload_n 0, 1) := by decide +kernel
theorem dX4_read_18 : decode cX4_read 18 = .ok (.getfield 15, 3) := by decide +kernel
theorem dX4_read_21 : decode cX4_read 21 = .ok (.if_icmp .ge 23, 3) := by decide +kernel
theorem dX4_read_24 : decode cX4_read 24 = .ok (.aload_n 0, 1) := by decide +kernel
theorem dX4_read_25 : decode cX4_read 25 = .ok (.getfield 9, 3) := by decide +kernel
theorem dX4_read_28 : decode cX4_read 28 = .ok (.iload 4, 2) := by decide +kernel
theorem dX4_read_30 : decode cX4_read 30 = .ok (.aload_n 1, 1) := by decide +kernel
theorem dX4_read_31 : decode cX4_read 31 = .ok (.getfield 43, 3) := by decide +kernel
theorem dX4_read_34 : decode cX4_read 34 = .ok (.iload 4, 2) := by decide +kernel
theorem dX4_read_36 : decode cX4_read 36 = .ok (.iaload, 1) := by decide +kernel
theorem dX4_read_37 : decode cX4_read 37 = .ok (.iastore, 1) := by decide +kernel
theorem dX4_read_38 : decode cX4_read 38 = .ok (.iinc 4 1, 3) := by decide +kernel
theorem dX4_read_41 : decode cX4_read 41 = .ok (.goto (-26), 3) := by decide +kernel
theorem dX4_read_44 : decode cX4_read 44 = .ok (.aload_n 0, 1) := by decide +kernel
theorem dX4_read_45 : decode cX4_read 45 = .ok (.iconst 0, 1) := by decide +kernel
theorem dX4_read_46 : decode cX4_read 46 = .ok (.putfield 25, 3) := by decide +kernel
theorem dX4_read_49 : decode cX4_read 49 = .ok (.aload_n 0, 1) := by decide +kernel
theorem dX4_read_50 : decode cX4_read 50 = .ok (.iconst 0, 1) := by decide +kernel
theorem dX4_read_51 : decode cX4_read 51 = .ok (.putfield 28, 3) := by decide +kernel
theorem dX4_read_54 : decode cX4_read 54 = .ok (.aload_n 0, 1) := by decide +kernel
theorem dX4_read_55 : decode cX4_read 55 = .ok (.iconst (-1), 1) := by decide +kernel
theorem dX4_read_56 : decode cX4_read 56 = .ok (.putfield 31, 3) := by decide +kernel
theorem dX4_read_59 : decode cX4_read 59 = .ok (.aload_n 3, 1) := by decide +kernel
theorem dX4_read_60 : decode cX4_read 60 = .ok (.invokevirtual 46, 3) := by decide +kernel
theorem dX4_read_63 : decode cX4_read 63 = .ok (.aload_n 0, 1) := by decide +kernel
theorem dX4_read_64 : decode cX4_read 64 = .ok (.invokevirtual 51, 3) := by decide +kernel
theorem dX4_read_67 : decode cX4_read 67 = .ok (.iconst 0, 1) := by decide +kernel
theorem dX4_read_68 : decode cX4_read 68 = .ok (.istore 4, 2) := by decide +kernel
theorem dX4_read_70 : decode cX4_read 70 = .ok (.iload 4, 2) := by decide +kernel
theorem dX4_read_72 : decode cX4_read 72 = .ok (.aload_n 0, 1) := by decide +kernel
theorem dX4_read_73 : decode cX4_read 73 = .ok (.getfield 15, 3) := by decide +kernel
theorem dX4_read_76 : decode cX4_read 76 = .ok (.if_icmp .ge 29, 3) := by decide +kernel
theorem dX4_read_79 : decode cX4_read 79 = .ok (.aload_n 0, 1) := by decide +kernel
theorem dX4_read_80 : decode cX4_read 80 = .ok (.getfield 19, 3) := by decide +kernel
theorem dX4_read_83 : decode cX4_read 83 = .ok (.iconst 5, 1) := by decide +kernel
theorem dX4_read_84 : decode cX4_read 84 = .ok (.if_icmp .eq 21, 3) := by decide +kernel
theorem dX4_read_87 : decode cX4_read 87 = .ok (.aload_n 0, 1) := by decide +kernel
theorem dX4_read_88 : decode cX4_read 88 = .ok (.getfield 28, 3) := by decide +kernel
theorem dX4_read_91 : decode cX4_read 91 = .ok (.ifCond .ne 14, 3) := by decide +kernel
theorem dX4_read_94 : decode cX4_read 94 = .ok (.aload_n 0, 1) := by decide +kernel
theorem dX4_read_95 : decode cX4_read 95 = .ok (.aload_n 3, 1) := by decide +kernel
theorem dX4_read_96 : decode cX4_read 96 = .ok (.invokevirtual 54, 3) := by decide +kernel
theorem dX4_read_99 : decode cX4_read 99 = .ok (.iinc 4 1, 3) := by decide +kernel
theorem dX4_read_102 : decode cX4_read 102 = .ok (.goto (-32), 3) := by decide +kernel
theorem dX4_read_105 : decode cX4_read 105 = .ok (.return_, 1) := by decide +kernel
set_option maxRecDepth 20000 in
theorem ggX4_readLine_X4_isWord : GoodIn wsX4_readLine wsX4_isWord := goodIn_r _ [5, 6, 7, 8, 9, 10, 11, 12, 13, 14, 15, 16, 17, 18, 19, 20, 21, 22, 23, 24, 25, 26, 27, 28, 29, 30, 31, 32, 33, 34, 35, 36, 37, 38, 39, 40, 41, 42, 43, 44, 45, 46, 47, 48, 49, 50, 51, 52, 53, 54, 55, 56, 57, 58, 114, 115, 116, 117, 118, 119, 120] (by decide +kernel) (by decide +kernel)
set_option maxRecDepth 20000 in
theorem gX4_readLine_X4_isWord : GoodIn wsX4_readLine (wsV RX4 60 RX4 yX4_isWord wsX4_isWord) := goodIn_app (goodIn_of _ (by decide +kernel)) ggX4_readLine_X4_isWord
set_option maxRecDepth 20000 in
theorem ggX4_readLine_X4_readCut : GoodIn wsX4_readLine wsX4_readCut := goodIn_r _ [62, 63, 64, 65, 4, 66, 7, 67, 9, 8, 6, 68, 69, 70, 71, 72, 73, 74, 75, 76, 77, 78, 79, 80, 81, 82, 83, 84, 85, 86, 87, 88, 89, 90, 91, 92, 109, 110, 111, 112, 113, 114, 115, 116, 117, 118, 119, 120] (by decide +kernel) (by decide +kernel)
set_option maxRecDepth 20000 in
theorem gX4_readLine_X4_readCut : GoodIn wsX4_readLine (wsV RX4 64 RX4 yX4_readCut wsX4_readCut) := goodIn_app (goodIn_of _ (by decide +kernel)) ggX4_readLine_X4_readCut
set_option maxRecDepth 20000 in
theorem ggX4_readLine_X4_readMove : GoodIn wsX4_readLine wsX4_readMove := goodIn_r _ [96, 63, 64, 65, 4, 66, 7, 67, 9, 8, 6, 68, 69, 70, 71, 72, 73, 74, 75, 76, 77, 78, 79, 80, 81, 82, 83, 84, 85, 86, 87, 88, 89, 90, 91, 92, 109, 110, 111, 112, 113, 114, 115, 116, 117, 118, 119, 120] (by decide +kernel) (by decide +kernel)
set_option maxRecDepth 20000 in
theorem gX4_readLine_X4_readMove : GoodIn wsX4_readLine (wsV RX4 69 RX4 yX4_readMove wsX4_readMove) := goodIn_app (goodIn_of _ (by decide +kernel)) ggX4_readLine_X4_readMove
set_option maxRecDepth 20000 in
theorem ggX4_readLine_X4_readSpare : GoodIn wsX4_readLine wsX4_readSpare := goodIn_r _ [100, 83, 84, 85, 4, 86, 87, 8, 88, 63, 64, 65, 66, 7, 67, 9, 6, 68, 69, 70, 71, 72, 73, 74, 89, 90, 91, 92, 79, 80, 81, 82, 109, 110, 111, 112, 113, 114, 115, 116, 117, 118, 119, 120] (by decide +kernel) (by decide +kernel)
set_option maxRecDepth 20000 in
theorem gX4_readLine_X4_readSpare : GoodIn wsX4_readLine (wsV RX4 74 RX4 yX4_readSpare wsX4_readSpare) := goodIn_app (goodIn_of _ (by decide +kernel)) ggX4_readLine_X4_readSpare
set_option maxRecDepth 20000 in
theorem ggX4_readLine_X4_readBefore : GoodIn wsX4_readLine wsX4_readBefore := goodIn_r _ [104, 83, 84, 85, 4, 86, 87, 8, 88, 63, 64, 65, 66, 7, 67, 9, 6, 68, 69, 70, 71, 72, 73, 74, 89, 90, 91, 92, 79, 80, 81, 82, 109, 110, 111, 112, 113, 114, 115, 116, 117, 118, 119, 120] (by decide +kernel) (by decide +kernel)
set_option maxRecDepth 20000 in
theorem gX4_readLine_X4_readBefore : GoodIn wsX4_readLine (wsV RX4 79 RX4 yX4_readBefore wsX4_readBefore) := goodIn_app (goodIn_of _ (by decide +kernel)) ggX4_readLine_X4_readBefore
set_option maxRecDepth 20000 in
theorem ggX4_readLine_X4_blame : GoodIn wsX4_readLine wsX4_blame := goodIn_r _ [86, 87, 8, 88, 114, 115, 116, 117, 118, 119, 120] (by decide +kernel) (by decide +kernel)
set_option maxRecDepth 20000 in
theorem gX4_readLine_X4_blame : GoodIn wsX4_readLine (wsV RX4 82 RX4 yX4_blame wsX4_blame) := goodIn_app (goodIn_of _ (by decide +kernel)) ggX4_readLine_X4_blame
set_option maxRecDepth 20000 in
theorem ggX4_readLine_X4_readSemicolon : GoodIn wsX4_readLine wsX4_readSemicolon := goodIn_r _ [108, 6, 83, 84, 85, 4, 86, 87, 8, 88, 63, 64, 65, 66, 7, 67, 9, 68, 69, 70, 71, 72, 73, 74, 114, 115, 116, 117, 118, 119, 120] (by decide +kernel) (by decide +kernel)
set_option maxRecDepth 20000 in
theorem gX4_readLine_X4_readSemicolon : GoodIn wsX4_readLine (wsV RX4 86 RX4 yX4_readSemicolon wsX4_readSemicolon) := goodIn_app (goodIn_of _ (by decide +kernel)) ggX4_readLine_X4_readSemicolon
theorem dX4_readLine_0 : decode cX4_readLine 0 = .ok (.aload_n 0, 1) := by decide +kernel
theorem dX4_readLine_1 : decode cX4_readLine 1 = .ok (.ldc 58, 2) := by decide +kernel
theorem dX4_readLine_3 : decode cX4_readLine 3 = .ok (.invokevirtual 60, 3) := by decide +kernel
theorem dX4_readLine_6 : decode cX4_readLine 6 = .ok (.ifCond .eq 11, 3) := by decide +kernel
theorem dX4_readLine_9 : decode cX4_readLine 9 = .ok (.aload_n 0, 1) := by decide +kernel
theorem dX4_readLine_10 : decode cX4_readLine 10 = .ok (.aload_n 1, 1) := by decide +kernel
theorem dX4_readLine_11 : decode cX4_readLine 11 = .ok (.invokevirtual 64, 3) := by decide +kernel
theorem dX4_readLine_14 : decode cX4_readLine 14 = .ok (.goto 59, 3) := by decide +kernel
theorem dX4_readLine_17 : decode cX4_readLine 17 = .ok (.aload_n 0, 1) := by decide +kernel
theorem dX4_readLine_18 : decode cX4_readLine 18 = .ok (.ldc 67, 2) := by decide +kernel
theorem dX4_readLine_20 : decode cX4_readLine 20 = .ok (.invokevirtual 60, 3) := by decide +kernel
theorem dX4_readLine_23 : decode cX4_readLine 23 = .ok (.ifCond .eq 11, 3) := by decide +kernel
theorem dX4_readLine_26 : decode cX4_readLine 26 = .ok (.aload_n 0, 1) := by decide +kernel
theorem dX4_readLine_27 : decode cX4_readLine 27 = .ok (.aload_n 1, 1) := by decide +kernel
theorem dX4_readLine_28 : decode cX4_readLine 28 = .ok (.invokevirtual 69, 3) := by decide +kernel
theorem dX4_readLine_31 : decode cX4_readLine 31 = .ok (.goto 42, 3) := by decide +kernel
theorem dX4_readLine_34 : decode cX4_readLine 34 = .ok (.aload_n 0, 1) := by decide +kernel
theorem dX4_readLine_35 : decode cX4_readLine 35 = .ok (.ldc 72, 2) := by decide +kernel
theorem dX4_readLine_37 : decode cX4_readLine 37 = .ok (.invokevirtual 60, 3) := by decide +kernel
theorem dX4_readLine_40 : decode cX4_readLine 40 = .ok (.ifCond .eq 11, 3) := by decide +kernel
theorem dX4_readLine_43 : decode cX4_readLine 43 = .ok (.aload_n 0, 1) := by decide +kernel
theorem dX4_readLine_44 : decode cX4_readLine 44 = .ok (.aload_n 1, 1) := by decide +kernel
theorem dX4_readLine_45 : decode cX4_readLine 45 = .ok (.invokevirtual 74, 3) := by decide +kernel
theorem dX4_readLine_48 : decode cX4_readLine 48 = .ok (.goto 25, 3) := by decide +kernel
theorem dX4_readLine_51 : decode cX4_readLine 51 = .ok (.aload_n 0, 1) := by decide +kernel
theorem dX4_readLine_52 : decode cX4_readLine 52 = .ok (.ldc 77, 2) := by decide +kernel
theorem dX4_readLine_54 : decode cX4_readLine 54 = .ok (.invokevirtual 60, 3) := by decide +kernel
theorem dX4_readLine_57 : decode cX4_readLine 57 = .ok (.ifCond .eq 11, 3) := by decide +kernel
theorem dX4_readLine_60 : decode cX4_readLine 60 = .ok (.aload_n 0, 1) := by decide +kernel
theorem dX4_readLine_61 : decode cX4_readLine 61 = .ok (.aload_n 1, 1) := by decide +kernel
theorem dX4_readLine_62 : decode cX4_readLine 62 = .ok (.invokevirtual 79, 3) := by decide +kernel
theorem dX4_readLine_65 : decode cX4_readLine 65 = .ok (.goto 8, 3) := by decide +kernel
theorem dX4_readLine_68 : decode cX4_readLine 68 = .ok (.aload_n 0, 1) := by decide +kernel
theorem dX4_readLine_69 : decode cX4_readLine 69 = .ok (.iconst 1, 1) := by decide +kernel
theorem dX4_readLine_70 : decode cX4_readLine 70 = .ok (.invokevirtual 82, 3) := by decide +kernel
theorem dX4_readLine_73 : decode cX4_readLine 73 = .ok (.aload_n 0, 1) := by decide +kernel
theorem dX4_readLine_74 : decode cX4_readLine 74 = .ok (.invokevirtual 86, 3) := by decide +kernel
theorem dX4_readLine_77 : decode cX4_readLine 77 = .ok (.aload_n 1, 1) := by decide +kernel
theorem dX4_readLine_78 : decode cX4_readLine 78 = .ok (.dup, 1) := by decide +kernel
theorem dX4_readLine_79 : decode cX4_readLine 79 = .ok (.getfield 89, 3) := by decide +kernel
theorem dX4_readLine_82 : decode cX4_readLine 82 = .ok (.iconst 1, 1) := by decide +kernel
theorem dX4_readLine_83 : decode cX4_readLine 83 = .ok (.iadd, 1) := by decide +kernel
theorem dX4_readLine_84 : decode cX4_readLine 84 = .ok (.putfield 89, 3) := by decide +kernel
theorem dX4_readLine_87 : decode cX4_readLine 87 = .ok (.return_, 1) := by decide +kernel
set_option maxRecDepth 20000 in
theorem ggX4_readCut_X4_step : GoodIn wsX4_readCut wsX4_step := goodIn_r _ [5, 6, 7, 8, 9, 10, 11, 12, 4, 13, 14, 15, 16, 17, 41, 42, 43, 44, 45, 46, 47] (by decide +kernel) (by decide +kernel)
set_option maxRecDepth 20000 in
theorem gX4_readCut_X4_step : GoodIn wsX4_readCut (wsV RX4 51 RX4 yX4_step wsX4_step) := goodIn_app (goodIn_of _ (by decide +kernel)) ggX4_readCut_X4_step
set_option maxRecDepth 20000 in
theorem ggX4_readCut_X4_blameRankOf : GoodIn wsX4_readCut wsX4_blameRankOf := goodIn_r _ [21, 10, 22, 23, 24, 4, 25, 9, 6, 8, 26, 27, 28, 29, 30, 31, 41, 42, 43, 44, 45, 46, 47] (by decide +kernel) (by decide +kernel)
set_option maxRecDepth 20000 in
theorem gX4_readCut_X4_blameRankOf : GoodIn wsX4_readCut (wsV RX4 95 RX4 yX4_blameRankOf wsX4_blameRankOf) := goodIn_app (goodIn_of _ (by decide +kernel)) ggX4_readCut_X4_blameRankOf
set_option maxRecDepth 20000 in
theorem ggX4_readCut_X4_readNumber : GoodIn wsX4_readCut wsX4_readNumber := goodIn_r _ [35, 10, 22, 23, 24, 4, 25, 9, 6, 8, 26, 27, 28, 29, 30, 31, 1, 2, 3, 5, 7, 11, 12, 13, 14, 15, 16, 17, 41, 42, 43, 44, 45, 46, 47] (by decide +kernel) (by decide +kernel)
set_option maxRecDepth 20000 in
theorem gX4_readCut_X4_readNumber : GoodIn wsX4_readCut (wsV RX4 99 RX4 yX4_readNumber wsX4_readNumber) := goodIn_app (goodIn_of _ (by decide +kernel)) ggX4_readCut_X4_readNumber
theorem dX4_readCut_0 : decode cX4_readCut 0 = .ok (.aload_n 0, 1) := by decide +kernel
theorem dX4_readCut_1 : decode cX4_readCut 1 = .ok (.invokevirtual 51, 3) := by decide +kernel
theorem dX4_readCut_4 : decode cX4_readCut 4 = .ok (.aload_n 0, 1) := by decide +kernel
theorem dX4_readCut_5 : decode cX4_readCut 5 = .ok (.aload_n 1, 1) := by decide +kernel
theorem dX4_readCut_6 : decode cX4_readCut 6 = .ok (.getfield 92, 3) := by decide +kernel
theorem dX4_readCut_9 : decode cX4_readCut 9 = .ok (.invokevirtual 95, 3) := by decide +kernel
theorem dX4_readCut_12 : decode cX4_readCut 12 = .ok (.aload_n 0, 1) := by decide +kernel
theorem dX4_readCut_13 : decode cX4_readCut 13 = .ok (.iconst 3, 1) := by decide +kernel
theorem dX4_readCut_14 : decode cX4_readCut 14 = .ok (.invokevirtual 99, 3) := by decide +kernel
theorem dX4_readCut_17 : decode cX4_readCut 17 = .ok (.istore_n 2, 1) := by decide +kernel
theorem dX4_readCut_18 : decode cX4_readCut 18 = .ok (.aload_n 1, 1) := by decide +kernel
theorem dX4_readCut_19 : decode cX4_readCut 19 = .ok (.getfield 92, 3) := by decide +kernel
theorem dX4_readCut_22 : decode cX4_readCut 22 = .ok (.iload_n 2, 1) := by decide +kernel
theorem dX4_readCut_23 : decode cX4_readCut 23 = .ok (.aload_n 0, 1) := by decide +kernel
theorem dX4_readCut_24 : decode cX4_readCut 24 = .ok (.bipush 100, 2) := by decide +kernel
theorem dX4_readCut_26 : decode cX4_readCut 26 = .ok (.invokevirtual 99, 3) := by decide +kernel
theorem dX4_readCut_29 : decode cX4_readCut 29 = .ok (.iastore, 1) := by decide +kernel
theorem dX4_readCut_30 : decode cX4_readCut 30 = .ok (.return_, 1) := by decide +kernel
set_option maxRecDepth 20000 in
theorem ggX4_readMove_X4_step : GoodIn wsX4_readMove wsX4_step := goodIn_r _ [5, 6, 7, 8, 9, 10, 11, 12, 4, 13, 14, 15, 16, 17, 41, 42, 43, 44, 45, 46, 47] (by decide +kernel) (by decide +kernel)
set_option maxRecDepth 20000 in
theorem gX4_readMove_X4_step : GoodIn wsX4_readMove (wsV RX4 51 RX4 yX4_step wsX4_step) := goodIn_app (goodIn_of _ (by decide +kernel)) ggX4_readMove_X4_step
set_option maxRecDepth 20000 in
theorem ggX4_readMove_X4_blameRankOf : GoodIn wsX4_readMove wsX4_blameRankOf := goodIn_r _ [21, 10, 22, 23, 24, 4, 25, 9, 6, 8, 26, 27, 28, 29, 30, 31, 41, 42, 43, 44, 45, 46, 47] (by decide +kernel) (by decide +kernel)
set_option maxRecDepth 20000 in
theorem gX4_readMove_X4_blameRankOf : GoodIn wsX4_readMove (wsV RX4 95 RX4 yX4_blameRankOf wsX4_blameRankOf) := goodIn_app (goodIn_of _ (by decide +kernel)) ggX4_readMove_X4_blameRankOf
set_option maxRecDepth 20000 in
theorem ggX4_readMove_X4_readNumber : GoodIn wsX4_readMove wsX4_readNumber := goodIn_r _ [35, 10, 22, 23, 24, 4, 25, 9, 6, 8, 26, 27, 28, 29, 30, 31, 1, 2, 3, 5, 7, 11, 12, 13, 14, 15, 16, 17, 41, 42, 43, 44, 45, 46, 47] (by decide +kernel) (by decide +kernel)
set_option maxRecDepth 20000 in
theorem gX4_readMove_X4_readNumber : GoodIn wsX4_readMove (wsV RX4 99 RX4 yX4_readNumber wsX4_readNumber) := goodIn_app (goodIn_of _ (by decide +kernel)) ggX4_readMove_X4_readNumber
theorem dX4_readMove_0 : decode cX4_readMove 0 = .ok (.aload_n 0, 1) := by decide +kernel
theorem dX4_readMove_1 : decode cX4_readMove 1 = .ok (.invokevirtual 51, 3) := by decide +kernel
theorem dX4_readMove_4 : decode cX4_readMove 4 = .ok (.aload_n 0, 1) := by decide +kernel
theorem dX4_readMove_5 : decode cX4_readMove 5 = .ok (.aload_n 1, 1) := by decide +kernel
theorem dX4_readMove_6 : decode cX4_readMove 6 = .ok (.getfield 103, 3) := by decide +kernel
theorem dX4_readMove_9 : decode cX4_readMove 9 = .ok (.invokevirtual 95, 3) := by decide +kernel
theorem dX4_readMove_12 : decode cX4_readMove 12 = .ok (.aload_n 0, 1) := by decide +kernel
theorem dX4_readMove_13 : decode cX4_readMove 13 = .ok (.iconst 3, 1) := by decide +kernel
theorem dX4_readMove_14 : decode cX4_readMove 14 = .ok (.invokevirtual 99, 3) := by decide +kernel
theorem dX4_readMove_17 : decode cX4_readMove 17 = .ok (.istore_n 2, 1) := by decide +kernel
theorem dX4_readMove_18 : decode cX4_readMove 18 = .ok (.aload_n 1, 1) := by decide +kernel
theorem dX4_readMove_19 : decode cX4_readMove 19 = .ok (.getfield 103, 3) := by decide +kernel
theorem dX4_readMove_22 : decode cX4_readMove 22 = .ok (.iload_n 2, 1) := by decide +kernel
theorem dX4_readMove_23 : decode cX4_readMove 23 = .ok (.aload_n 0, 1) := by decide +kernel
theorem dX4_readMove_24 : decode cX4_readMove 24 = .ok (.iconst 3, 1) := by decide +kernel
theorem dX4_readMove_25 : decode cX4_readMove 25 = .ok (.invokevirtual 99, 3) := by decide +kernel
theorem dX4_readMove_28 : decode cX4_readMove 28 = .ok (.iastore, 1) := by decide +kernel
theorem dX4_readMove_29 : decode cX4_readMove 29 = .ok (.return_, 1) := by decide +kernel
set_option maxRecDepth 20000 in
theorem ggX4_readSpare_X4_blame : GoodIn wsX4_readSpare wsX4_blame := goodIn_r _ [5, 6, 7, 8, 37, 38, 39, 40, 41, 42, 43] (by decide +kernel) (by decide +kernel)
set_option maxRecDepth 20000 in
theorem gX4_readSpare_X4_blame : GoodIn wsX4_readSpare (wsV RX4 82 RX4 yX4_blame wsX4_blame) := goodIn_app (goodIn_of _ (by decide +kernel)) ggX4_readSpare_X4_blame
set_option maxRecDepth 20000 in
theorem ggX4_readSpare_X4_step : GoodIn wsX4_readSpare wsX4_step := goodIn_r _ [12, 13, 14, 15, 7, 16, 17, 18, 4, 19, 20, 21, 22, 23, 37, 38, 39, 40, 41, 42, 43] (by decide +kernel) (by decide +kernel)
set_option maxRecDepth 20000 in
theorem gX4_readSpare_X4_step : GoodIn wsX4_readSpare (wsV RX4 51 RX4 yX4_step wsX4_step) := goodIn_app (goodIn_of _ (by decide +kernel)) ggX4_readSpare_X4_step
set_option maxRecDepth 20000 in
theorem ggX4_readSpare_X4_readNumber : GoodIn wsX4_readSpare wsX4_readNumber := goodIn_r _ [27, 16, 28, 29, 30, 4, 31, 7, 13, 15, 1, 2, 3, 5, 6, 8, 9, 10, 11, 12, 14, 17, 18, 19, 20, 21, 22, 23, 37, 38, 39, 40, 41, 42, 43] (by decide +kernel) (by decide +kernel)
set_option maxRecDepth 20000 in
theorem gX4_readSpare_X4_readNumber : GoodIn wsX4_readSpare (wsV RX4 99 RX4 yX4_readNumber wsX4_readNumber) := goodIn_app (goodIn_of _ (by decide +kernel)) ggX4_readSpare_X4_readNumber
theorem dX4_readSpare_0 : decode cX4_readSpare 0 = .ok (.aload_n 1, 1) := by decide +kernel
theorem dX4_readSpare_1 : decode cX4_readSpare 1 = .ok (.getfield 106, 3) := by decide +kernel
theorem dX4_readSpare_4 : decode cX4_readSpare 4 = .ok (.iconst (-1), 1) := by decide +kernel
theorem dX4_readSpare_5 : decode cX4_readSpare 5 = .ok (.if_icmp .eq 8, 3) := by decide +kernel
theorem dX4_readSpare_8 : decode cX4_readSpare 8 = .ok (.aload_n 0, 1) := by decide +kernel
theorem dX4_readSpare_9 : decode cX4_readSpare 9 = .ok (.iconst 3, 1) := by decide +kernel
theorem dX4_readSpare_10 : decode cX4_readSpare 10 = .ok (.invokevirtual 82, 3) := by decide +kernel
theorem dX4_readSpare_13 : decode cX4_readSpare 13 = .ok (.aload_n 0, 1) := by decide +kernel
theorem dX4_readSpare_14 : decode cX4_readSpare 14 = .ok (.invokevirtual 51, 3) := by decide +kernel
theorem dX4_readSpare_17 : decode cX4_readSpare 17 = .ok (.aload_n 1, 1) := by decide +kernel
theorem dX4_readSpare_18 : decode cX4_readSpare 18 = .ok (.aload_n 0, 1) := by decide +kernel
theorem dX4_readSpare_19 : decode cX4_readSpare 19 = .ok (.sipush 999, 3) := by decide +kernel
theorem dX4_readSpare_22 : decode cX4_readSpare 22 = .ok (.invokevirtual 99, 3) := by decide +kernel
theorem dX4_readSpare_25 : decode cX4_readSpare 25 = .ok (.putfield 106, 3) := by decide +kernel
theorem dX4_readSpare_28 : decode cX4_readSpare 28 = .ok (.return_, 1) := by decide +kernel
set_option maxRecDepth 20000 in
theorem ggX4_readBefore_X4_blame : GoodIn wsX4_readBefore wsX4_blame := goodIn_r _ [5, 6, 7, 8, 37, 38, 39, 40, 41, 42, 43] (by decide +kernel) (by decide +kernel)
set_option maxRecDepth 20000 in
theorem gX4_readBefore_X4_blame : GoodIn wsX4_readBefore (wsV RX4 82 RX4 yX4_blame wsX4_blame) := goodIn_app (goodIn_of _ (by decide +kernel)) ggX4_readBefore_X4_blame
set_option maxRecDepth 20000 in
theorem ggX4_readBefore_X4_step : GoodIn wsX4_readBefore wsX4_step := goodIn_r _ [12, 13, 14, 15, 7, 16, 17, 18, 4, 19, 20, 21, 22, 23, 37, 38, 39, 40, 41, 42, 43] (by decide +kernel) (by decide +kernel)
set_option maxRecDepth 20000 in
theorem gX4_readBefore_X4_step : GoodIn wsX4_readBefore (wsV RX4 51 RX4 yX4_step wsX4_step) := goodIn_app (goodIn_of _ (by decide +kernel)) ggX4_readBefore_X4_step
set_option maxRecDepth 20000 in
theorem ggX4_readBefore_X4_readNumber : GoodIn wsX4_readBefore wsX4_readNumber := goodIn_r _ [27, 16, 28, 29, 30, 4, 31, 7, 13, 15, 1, 2, 3, 5, 6, 8, 9, 10, 11, 12, 14, 17, 18, 19, 20, 21, 22, 23, 37, 38, 39, 40, 41, 42, 43] (by decide +kernel) (by decide +kernel)
set_option maxRecDepth 20000 in
theorem gX4_readBefore_X4_readNumber : GoodIn wsX4_readBefore (wsV RX4 99 RX4 yX4_readNumber wsX4_readNumber) := goodIn_app (goodIn_of _ (by decide +kernel)) ggX4_readBefore_X4_readNumber
theorem dX4_readBefore_0 : decode cX4_readBefore 0 = .ok (.aload_n 1, 1) := by decide +kernel
theorem dX4_readBefore_1 : decode cX4_readBefore 1 = .ok (.getfield 108, 3) := by decide +kernel
theorem dX4_readBefore_4 : decode cX4_readBefore 4 = .ok (.iconst (-1), 1) := by decide +kernel
theorem dX4_readBefore_5 : decode cX4_readBefore 5 = .ok (.if_icmp .eq 8, 3) := by decide +kernel
theorem dX4_readBefore_8 : decode cX4_readBefore 8 = .ok (.aload_n 0, 1) := by decide +kernel
theorem dX4_readBefore_9 : decode cX4_readBefore 9 = .ok (.iconst 3, 1) := by decide +kernel
theorem dX4_readBefore_10 : decode cX4_readBefore 10 = .ok (.invokevirtual 82, 3) := by decide +kernel
theorem dX4_readBefore_13 : decode cX4_readBefore 13 = .ok (.aload_n 0, 1) := by decide +kernel
theorem dX4_readBefore_14 : decode cX4_readBefore 14 = .ok (.invokevirtual 51, 3) := by decide +kernel
theorem dX4_readBefore_17 : decode cX4_readBefore 17 = .ok (.aload_n 1, 1) := by decide +kernel
end
section
theorem dX4_readBefore_18 : decode cX4_readBefore 18 = .ok (.aload_n 0, 1) := by decide +kernel
theorem dX4_readBefore_19 : decode cX4_readBefore 19 = .ok (.sipush 999, 3) := by decide +kernel
theorem dX4_readBefore_22 : decode cX4_readBefore 22 = .ok (.invokevirtual 99, 3) := by decide +kernel
theorem dX4_readBefore_25 : decode cX4_readBefore 25 = .ok (.putfield 108, 3) := by decide +kernel
theorem dX4_readBefore_28 : decode cX4_readBefore 28 = .ok (.return_, 1) := by decide +kernel
set_option maxRecDepth 20000 in
theorem ggX4_blameRankOf_X4_numberAtHand : GoodIn wsX4_blameRankOf wsX4_numberAtHand := goodIn_r _ [6, 7, 8, 9, 16, 17, 18, 19, 20, 21, 22] (by decide +kernel) (by decide +kernel)
set_option maxRecDepth 20000 in
theorem gX4_blameRankOf_X4_numberAtHand : GoodIn wsX4_blameRankOf (wsV RX4 110 RX4 yX4_numberAtHand wsX4_numberAtHand) := goodIn_app (goodIn_of _ (by decide +kernel)) ggX4_blameRankOf_X4_numberAtHand
set_option maxRecDepth 20000 in
theorem ggX4_blameRankOf_X4_blame : GoodIn wsX4_blameRankOf wsX4_blame := goodIn_r _ [13, 14, 7, 15, 16, 17, 18, 19, 20, 21, 22] (by decide +kernel) (by decide +kernel)
set_option maxRecDepth 20000 in
theorem gX4_blameRankOf_X4_blame : GoodIn wsX4_blameRankOf (wsV RX4 82 RX4 yX4_blame wsX4_blame) := goodIn_app (goodIn_of _ (by decide +kernel)) ggX4_blameRankOf_X4_blame
theorem dX4_blameRankOf_0 : decode cX4_blameRankOf 0 = .ok (.aload_n 0, 1) := by decide +kernel
theorem dX4_blameRankOf_1 : decode cX4_blameRankOf 1 = .ok (.getfield 19, 3) := by decide +kernel
theorem dX4_blameRankOf_4 : decode cX4_blameRankOf 4 = .ok (.iconst 2, 1) := by decide +kernel
theorem dX4_blameRankOf_5 : decode cX4_blameRankOf 5 = .ok (.if_icmp .ne 10, 3) := by decide +kernel
theorem dX4_blameRankOf_8 : decode cX4_blameRankOf 8 = .ok (.aload_n 0, 1) := by decide +kernel
theorem dX4_blameRankOf_9 : decode cX4_blameRankOf 9 = .ok (.invokevirtual 110, 3) := by decide +kernel
theorem dX4_blameRankOf_12 : decode cX4_blameRankOf 12 = .ok (.goto 4, 3) := by decide +kernel
theorem dX4_blameRankOf_15 : decode cX4_blameRankOf 15 = .ok (.iconst (-1), 1) := by decide +kernel
theorem dX4_blameRankOf_16 : decode cX4_blameRankOf 16 = .ok (.istore_n 2, 1) := by decide +kernel
theorem dX4_blameRankOf_17 : decode cX4_blameRankOf 17 = .ok (.iload_n 2, 1) := by decide +kernel
theorem dX4_blameRankOf_18 : decode cX4_blameRankOf 18 = .ok (.ifCond .lt 21, 3) := by decide +kernel
theorem dX4_blameRankOf_21 : decode cX4_blameRankOf 21 = .ok (.iload_n 2, 1) := by decide +kernel
theorem dX4_blameRankOf_22 : decode cX4_blameRankOf 22 = .ok (.aload_n 1, 1) := by decide +kernel
theorem dX4_blameRankOf_23 : decode cX4_blameRankOf 23 = .ok (.arraylength, 1) := by decide +kernel
theorem dX4_blameRankOf_24 : decode cX4_blameRankOf 24 = .ok (.if_icmp .ge 15, 3) := by decide +kernel
theorem dX4_blameRankOf_27 : decode cX4_blameRankOf 27 = .ok (.aload_n 1, 1) := by decide +kernel
theorem dX4_blameRankOf_28 : decode cX4_blameRankOf 28 = .ok (.iload_n 2, 1) := by decide +kernel
theorem dX4_blameRankOf_29 : decode cX4_blameRankOf 29 = .ok (.iaload, 1) := by decide +kernel
theorem dX4_blameRankOf_30 : decode cX4_blameRankOf 30 = .ok (.iconst (-1), 1) := by decide +kernel
theorem dX4_blameRankOf_31 : decode cX4_blameRankOf 31 = .ok (.if_icmp .eq 8, 3) := by decide +kernel
theorem dX4_blameRankOf_34 : decode cX4_blameRankOf 34 = .ok (.aload_n 0, 1) := by decide +kernel
theorem dX4_blameRankOf_35 : decode cX4_blameRankOf 35 = .ok (.iconst 3, 1) := by decide +kernel
theorem dX4_blameRankOf_36 : decode cX4_blameRankOf 36 = .ok (.invokevirtual 82, 3) := by decide +kernel
theorem dX4_blameRankOf_39 : decode cX4_blameRankOf 39 = .ok (.return_, 1) := by decide +kernel
set_option maxRecDepth 20000 in
theorem ggX4_readNumber_X4_numberAtHand : GoodIn wsX4_readNumber wsX4_numberAtHand := goodIn_r _ [6, 7, 8, 9, 28, 29, 30, 31, 32, 33, 34] (by decide +kernel) (by decide +kernel)
set_option maxRecDepth 20000 in
theorem gX4_readNumber_X4_numberAtHand : GoodIn wsX4_readNumber (wsV RX4 110 RX4 yX4_numberAtHand wsX4_numberAtHand) := goodIn_app (goodIn_of _ (by decide +kernel)) ggX4_readNumber_X4_numberAtHand
set_option maxRecDepth 20000 in
theorem ggX4_readNumber_X4_blame : GoodIn wsX4_readNumber wsX4_blame := goodIn_r _ [13, 14, 7, 15, 28, 29, 30, 31, 32, 33, 34] (by decide +kernel) (by decide +kernel)
set_option maxRecDepth 20000 in
theorem gX4_readNumber_X4_blame : GoodIn wsX4_readNumber (wsV RX4 82 RX4 yX4_blame wsX4_blame) := goodIn_app (goodIn_of _ (by decide +kernel)) ggX4_readNumber_X4_blame
set_option maxRecDepth 20000 in
theorem ggX4_readNumber_X4_step : GoodIn wsX4_readNumber wsX4_step := goodIn_r _ [19, 8, 20, 9, 7, 1, 21, 22, 5, 23, 24, 25, 26, 27, 28, 29, 30, 31, 32, 33, 34] (by decide +kernel) (by decide +kernel)
set_option maxRecDepth 20000 in
theorem gX4_readNumber_X4_step : GoodIn wsX4_readNumber (wsV RX4 51 RX4 yX4_step wsX4_step) := goodIn_app (goodIn_of _ (by decide +kernel)) ggX4_readNumber_X4_step
theorem dX4_readNumber_0 : decode cX4_readNumber 0 = .ok (.aload_n 0, 1) := by decide +kernel
theorem dX4_readNumber_1 : decode cX4_readNumber 1 = .ok (.getfield 19, 3) := by decide +kernel
theorem dX4_readNumber_4 : decode cX4_readNumber 4 = .ok (.iconst 2, 1) := by decide +kernel
theorem dX4_readNumber_5 : decode cX4_readNumber 5 = .ok (.if_icmp .ne 10, 3) := by decide +kernel
theorem dX4_readNumber_8 : decode cX4_readNumber 8 = .ok (.aload_n 0, 1) := by decide +kernel
theorem dX4_readNumber_9 : decode cX4_readNumber 9 = .ok (.invokevirtual 110, 3) := by decide +kernel
theorem dX4_readNumber_12 : decode cX4_readNumber 12 = .ok (.goto 4, 3) := by decide +kernel
theorem dX4_readNumber_15 : decode cX4_readNumber 15 = .ok (.iconst 0, 1) := by decide +kernel
theorem dX4_readNumber_16 : decode cX4_readNumber 16 = .ok (.istore_n 2, 1) := by decide +kernel
theorem dX4_readNumber_17 : decode cX4_readNumber 17 = .ok (.aload_n 0, 1) := by decide +kernel
theorem dX4_readNumber_18 : decode cX4_readNumber 18 = .ok (.getfield 19, 3) := by decide +kernel
theorem dX4_readNumber_21 : decode cX4_readNumber 21 = .ok (.iconst 2, 1) := by decide +kernel
theorem dX4_readNumber_22 : decode cX4_readNumber 22 = .ok (.if_icmp .eq 11, 3) := by decide +kernel
theorem dX4_readNumber_25 : decode cX4_readNumber 25 = .ok (.aload_n 0, 1) := by decide +kernel
theorem dX4_readNumber_26 : decode cX4_readNumber 26 = .ok (.iconst 1, 1) := by decide +kernel
theorem dX4_readNumber_27 : decode cX4_readNumber 27 = .ok (.invokevirtual 82, 3) := by decide +kernel
theorem dX4_readNumber_30 : decode cX4_readNumber 30 = .ok (.goto 15, 3) := by decide +kernel
theorem dX4_readNumber_33 : decode cX4_readNumber 33 = .ok (.iload_n 2, 1) := by decide +kernel
theorem dX4_readNumber_34 : decode cX4_readNumber 34 = .ok (.iload_n 1, 1) := by decide +kernel
theorem dX4_readNumber_35 : decode cX4_readNumber 35 = .ok (.if_icmp .le 10, 3) := by decide +kernel
theorem dX4_readNumber_38 : decode cX4_readNumber 38 = .ok (.aload_n 0, 1) := by decide +kernel
theorem dX4_readNumber_39 : decode cX4_readNumber 39 = .ok (.iconst 2, 1) := by decide +kernel
theorem dX4_readNumber_40 : decode cX4_readNumber 40 = .ok (.invokevirtual 82, 3) := by decide +kernel
theorem dX4_readNumber_43 : decode cX4_readNumber 43 = .ok (.iconst 0, 1) := by decide +kernel
theorem dX4_readNumber_44 : decode cX4_readNumber 44 = .ok (.istore_n 2, 1) := by decide +kernel
theorem dX4_readNumber_45 : decode cX4_readNumber 45 = .ok (.aload_n 0, 1) := by decide +kernel
theorem dX4_readNumber_46 : decode cX4_readNumber 46 = .ok (.invokevirtual 51, 3) := by decide +kernel
theorem dX4_readNumber_49 : decode cX4_readNumber 49 = .ok (.iload_n 2, 1) := by decide +kernel
theorem dX4_readNumber_50 : decode cX4_readNumber 50 = .ok (.ireturn, 1) := by decide +kernel
set_option maxRecDepth 20000 in
theorem ggX4_readSemicolon_X4_blame : GoodIn wsX4_readSemicolon wsX4_blame := goodIn_r _ [6, 7, 8, 9, 24, 25, 26, 27, 28, 29, 30] (by decide +kernel) (by decide +kernel)
set_option maxRecDepth 20000 in
theorem gX4_readSemicolon_X4_blame : GoodIn wsX4_readSemicolon (wsV RX4 82 RX4 yX4_blame wsX4_blame) := goodIn_app (goodIn_of _ (by decide +kernel)) ggX4_readSemicolon_X4_blame
set_option maxRecDepth 20000 in
theorem ggX4_readSemicolon_X4_step : GoodIn wsX4_readSemicolon wsX4_step := goodIn_r _ [13, 14, 15, 16, 8, 1, 17, 18, 5, 19, 20, 21, 22, 23, 24, 25, 26, 27, 28, 29, 30] (by decide +kernel) (by decide +kernel)
set_option maxRecDepth 20000 in
theorem gX4_readSemicolon_X4_step : GoodIn wsX4_readSemicolon (wsV RX4 51 RX4 yX4_step wsX4_step) := goodIn_app (goodIn_of _ (by decide +kernel)) ggX4_readSemicolon_X4_step
theorem dX4_readSemicolon_0 : decode cX4_readSemicolon 0 = .ok (.aload_n 0, 1) := by decide +kernel
theorem dX4_readSemicolon_1 : decode cX4_readSemicolon 1 = .ok (.getfield 19, 3) := by decide +kernel
theorem dX4_readSemicolon_4 : decode cX4_readSemicolon 4 = .ok (.iconst 3, 1) := by decide +kernel
theorem dX4_readSemicolon_5 : decode cX4_readSemicolon 5 = .ok (.if_icmp .eq 8, 3) := by decide +kernel
theorem dX4_readSemicolon_8 : decode cX4_readSemicolon 8 = .ok (.aload_n 0, 1) := by decide +kernel
theorem dX4_readSemicolon_9 : decode cX4_readSemicolon 9 = .ok (.iconst 1, 1) := by decide +kernel
theorem dX4_readSemicolon_10 : decode cX4_readSemicolon 10 = .ok (.invokevirtual 82, 3) := by decide +kernel
theorem dX4_readSemicolon_13 : decode cX4_readSemicolon 13 = .ok (.aload_n 0, 1) := by decide +kernel
theorem dX4_readSemicolon_14 : decode cX4_readSemicolon 14 = .ok (.invokevirtual 51, 3) := by decide +kernel
theorem dX4_readSemicolon_17 : decode cX4_readSemicolon 17 = .ok (.return_, 1) := by decide +kernel
theorem dX4_blame_0 : decode cX4_blame 0 = .ok (.aload_n 0, 1) := by decide +kernel
theorem dX4_blame_1 : decode cX4_blame 1 = .ok (.getfield 28, 3) := by decide +kernel
theorem dX4_blame_4 : decode cX4_blame 4 = .ok (.ifCond .ne 16, 3) := by decide +kernel
theorem dX4_blame_7 : decode cX4_blame 7 = .ok (.aload_n 0, 1) := by decide +kernel
theorem dX4_blame_8 : decode cX4_blame 8 = .ok (.iload_n 1, 1) := by decide +kernel
theorem dX4_blame_9 : decode cX4_blame 9 = .ok (.putfield 28, 3) := by decide +kernel
theorem dX4_blame_12 : decode cX4_blame 12 = .ok (.aload_n 0, 1) := by decide +kernel
theorem dX4_blame_13 : decode cX4_blame 13 = .ok (.aload_n 0, 1) := by decide +kernel
theorem dX4_blame_14 : decode cX4_blame 14 = .ok (.getfield 22, 3) := by decide +kernel
theorem dX4_blame_17 : decode cX4_blame 17 = .ok (.putfield 31, 3) := by decide +kernel
theorem dX4_blame_20 : decode cX4_blame 20 = .ok (.return_, 1) := by decide +kernel
set_option maxRecDepth 20000 in
theorem ggX4_isWord_J0_length_8abf5 : GoodIn wsX4_isWord wsJ0_length_8abf5 := goodIn_r _ [9, 10, 11, 12, 13, 8, 14, 15, 16] (by decide +kernel) (by decide +kernel)
set_option maxRecDepth 20000 in
theorem gX4_isWord_J0_length_8abf5 : GoodIn wsX4_isWord (wsV RX4 114 RJ0 yJ0_length_8abf5 wsJ0_length_8abf5) := goodIn_app (goodIn_of _ (by decide +kernel)) ggX4_isWord_J0_length_8abf5
set_option maxRecDepth 20000 in
theorem ggX4_isWord_J0_charAt_5068e : GoodIn wsX4_isWord wsJ0_charAt_5068e := goodIn_r _ [20, 10, 21, 22, 23, 8, 24, 15, 16, 25, 26, 27, 28, 29, 30, 31, 32, 33, 34, 35, 36, 37, 38, 39, 40, 41, 42, 43, 44, 45, 46, 47, 48, 49, 50, 51, 52, 53] (by decide +kernel) (by decide +kernel)
set_option maxRecDepth 20000 in
theorem gX4_isWord_J0_charAt_5068e : GoodIn wsX4_isWord (wsV RX4 118 RJ0 yJ0_charAt_5068e wsJ0_charAt_5068e) := goodIn_app (goodIn_of _ (by decide +kernel)) ggX4_isWord_J0_charAt_5068e
theorem dX4_isWord_0 : decode cX4_isWord 0 = .ok (.aload_n 0, 1) := by decide +kernel
theorem dX4_isWord_1 : decode cX4_isWord 1 = .ok (.getfield 19, 3) := by decide +kernel
theorem dX4_isWord_4 : decode cX4_isWord 4 = .ok (.iconst 1, 1) := by decide +kernel
theorem dX4_isWord_5 : decode cX4_isWord 5 = .ok (.if_icmp .ne 19, 3) := by decide +kernel
theorem dX4_isWord_8 : decode cX4_isWord 8 = .ok (.aload_n 0, 1) := by decide +kernel
theorem dX4_isWord_9 : decode cX4_isWord 9 = .ok (.getfield 25, 3) := by decide +kernel
theorem dX4_isWord_12 : decode cX4_isWord 12 = .ok (.aload_n 0, 1) := by decide +kernel
theorem dX4_isWord_13 : decode cX4_isWord 13 = .ok (.getfield 22, 3) := by decide +kernel
theorem dX4_isWord_16 : decode cX4_isWord 16 = .ok (.isub, 1) := by decide +kernel
theorem dX4_isWord_17 : decode cX4_isWord 17 = .ok (.aload_n 1, 1) := by decide +kernel
theorem dX4_isWord_18 : decode cX4_isWord 18 = .ok (.invokevirtual 114, 3) := by decide +kernel
theorem dX4_isWord_21 : decode cX4_isWord 21 = .ok (.if_icmp .eq 5, 3) := by decide +kernel
theorem dX4_isWord_24 : decode cX4_isWord 24 = .ok (.iconst 0, 1) := by decide +kernel
theorem dX4_isWord_25 : decode cX4_isWord 25 = .ok (.ireturn, 1) := by decide +kernel
theorem dX4_isWord_26 : decode cX4_isWord 26 = .ok (.aload_n 0, 1) := by decide +kernel
theorem dX4_isWord_27 : decode cX4_isWord 27 = .ok (.getfield 22, 3) := by decide +kernel
theorem dX4_isWord_30 : decode cX4_isWord 30 = .ok (.istore_n 2, 1) := by decide +kernel
theorem dX4_isWord_31 : decode cX4_isWord 31 = .ok (.iload_n 2, 1) := by decide +kernel
theorem dX4_isWord_32 : decode cX4_isWord 32 = .ok (.aload_n 0, 1) := by decide +kernel
theorem dX4_isWord_33 : decode cX4_isWord 33 = .ok (.getfield 25, 3) := by decide +kernel
theorem dX4_isWord_36 : decode cX4_isWord 36 = .ok (.if_icmp .ge 30, 3) := by decide +kernel
theorem dX4_isWord_39 : decode cX4_isWord 39 = .ok (.aload_n 0, 1) := by decide +kernel
theorem dX4_isWord_40 : decode cX4_isWord 40 = .ok (.getfield 9, 3) := by decide +kernel
theorem dX4_isWord_43 : decode cX4_isWord 43 = .ok (.iload_n 2, 1) := by decide +kernel
theorem dX4_isWord_44 : decode cX4_isWord 44 = .ok (.iaload, 1) := by decide +kernel
theorem dX4_isWord_45 : decode cX4_isWord 45 = .ok (.aload_n 1, 1) := by decide +kernel
theorem dX4_isWord_46 : decode cX4_isWord 46 = .ok (.iload_n 2, 1) := by decide +kernel
theorem dX4_isWord_47 : decode cX4_isWord 47 = .ok (.aload_n 0, 1) := by decide +kernel
theorem dX4_isWord_48 : decode cX4_isWord 48 = .ok (.getfield 22, 3) := by decide +kernel
theorem dX4_isWord_51 : decode cX4_isWord 51 = .ok (.isub, 1) := by decide +kernel
theorem dX4_isWord_52 : decode cX4_isWord 52 = .ok (.invokevirtual 118, 3) := by decide +kernel
theorem dX4_isWord_55 : decode cX4_isWord 55 = .ok (.if_icmp .eq 5, 3) := by decide +kernel
theorem dX4_isWord_58 : decode cX4_isWord 58 = .ok (.iconst 0, 1) := by decide +kernel
theorem dX4_isWord_59 : decode cX4_isWord 59 = .ok (.ireturn, 1) := by decide +kernel
theorem dX4_isWord_60 : decode cX4_isWord 60 = .ok (.iinc 2 1, 3) := by decide +kernel
theorem dX4_isWord_63 : decode cX4_isWord 63 = .ok (.goto (-32), 3) := by decide +kernel
theorem dX4_isWord_66 : decode cX4_isWord 66 = .ok (.iconst 1, 1) := by decide +kernel
theorem dX4_isWord_67 : decode cX4_isWord 67 = .ok (.ireturn, 1) := by decide +kernel
theorem dX4_numberAtHand_0 : decode cX4_numberAtHand 0 = .ok (.iconst 0, 1) := by decide +kernel
theorem dX4_numberAtHand_1 : decode cX4_numberAtHand 1 = .ok (.istore_n 1, 1) := by decide +kernel
theorem dX4_numberAtHand_2 : decode cX4_numberAtHand 2 = .ok (.aload_n 0, 1) := by decide +kernel
theorem dX4_numberAtHand_3 : decode cX4_numberAtHand 3 = .ok (.getfield 22, 3) := by decide +kernel
theorem dX4_numberAtHand_6 : decode cX4_numberAtHand 6 = .ok (.istore_n 2, 1) := by decide +kernel
theorem dX4_numberAtHand_7 : decode cX4_numberAtHand 7 = .ok (.iload_n 2, 1) := by decide +kernel
theorem dX4_numberAtHand_8 : decode cX4_numberAtHand 8 = .ok (.aload_n 0, 1) := by decide +kernel
theorem dX4_numberAtHand_9 : decode cX4_numberAtHand 9 = .ok (.getfield 25, 3) := by decide +kernel
theorem dX4_numberAtHand_12 : decode cX4_numberAtHand 12 = .ok (.if_icmp .ge 31, 3) := by decide +kernel
theorem dX4_numberAtHand_15 : decode cX4_numberAtHand 15 = .ok (.iload_n 1, 1) := by decide +kernel
theorem dX4_numberAtHand_16 : decode cX4_numberAtHand 16 = .ok (.sipush 999, 3) := by decide +kernel
theorem dX4_numberAtHand_19 : decode cX4_numberAtHand 19 = .ok (.if_icmp .gt 18, 3) := by decide +kernel
theorem dX4_numberAtHand_22 : decode cX4_numberAtHand 22 = .ok (.iload_n 1, 1) := by decide +kernel
theorem dX4_numberAtHand_23 : decode cX4_numberAtHand 23 = .ok (.bipush 10, 2) := by decide +kernel
theorem dX4_numberAtHand_25 : decode cX4_numberAtHand 25 = .ok (.imul, 1) := by decide +kernel
theorem dX4_numberAtHand_26 : decode cX4_numberAtHand 26 = .ok (.aload_n 0, 1) := by decide +kernel
theorem dX4_numberAtHand_27 : decode cX4_numberAtHand 27 = .ok (.getfield 9, 3) := by decide +kernel
theorem dX4_numberAtHand_30 : decode cX4_numberAtHand 30 = .ok (.iload_n 2, 1) := by decide +kernel
theorem dX4_numberAtHand_31 : decode cX4_numberAtHand 31 = .ok (.iaload, 1) := by decide +kernel
theorem dX4_numberAtHand_32 : decode cX4_numberAtHand 32 = .ok (.iadd, 1) := by decide +kernel
theorem dX4_numberAtHand_33 : decode cX4_numberAtHand 33 = .ok (.bipush 48, 2) := by decide +kernel
theorem dX4_numberAtHand_35 : decode cX4_numberAtHand 35 = .ok (.isub, 1) := by decide +kernel
theorem dX4_numberAtHand_36 : decode cX4_numberAtHand 36 = .ok (.istore_n 1, 1) := by decide +kernel
theorem dX4_numberAtHand_37 : decode cX4_numberAtHand 37 = .ok (.iinc 2 1, 3) := by decide +kernel
theorem dX4_numberAtHand_40 : decode cX4_numberAtHand 40 = .ok (.goto (-33), 3) := by decide +kernel
theorem dX4_numberAtHand_43 : decode cX4_numberAtHand 43 = .ok (.iload_n 1, 1) := by decide +kernel
theorem dX4_numberAtHand_44 : decode cX4_numberAtHand 44 = .ok (.ireturn, 1) := by decide +kernel
set_option maxRecDepth 20000 in
theorem ggX4_step_X4_kindOf : GoodIn wsX4_step wsX4_kindOf := goodIn_r _ [9] (by decide +kernel) (by decide +kernel)
set_option maxRecDepth 20000 in
theorem gX4_step_X4_kindOf : GoodIn wsX4_step (va_wsS RX4 122 yX4_kindOf wsX4_kindOf) := goodIn_app (goodIn_of _ (by decide +kernel)) ggX4_step_X4_kindOf
set_option maxRecDepth 20000 in
theorem ggX4_step_X4_isInARow : GoodIn wsX4_step wsX4_isInARow := goodIn_r _ [13, 5, 14, 15, 16, 17, 18, 19, 20] (by decide +kernel) (by decide +kernel)
set_option maxRecDepth 20000 in
theorem gX4_step_X4_isInARow : GoodIn wsX4_step (wsV RX4 125 RX4 yX4_isInARow wsX4_isInARow) := goodIn_app (goodIn_of _ (by decide +kernel)) ggX4_step_X4_isInARow
theorem dX4_step_0 : decode cX4_step 0 = .ok (.aload_n 0, 1) := by decide +kernel
theorem dX4_step_1 : decode cX4_step 1 = .ok (.getfield 25, 3) := by decide +kernel
theorem dX4_step_4 : decode cX4_step 4 = .ok (.aload_n 0, 1) := by decide +kernel
theorem dX4_step_5 : decode cX4_step 5 = .ok (.getfield 15, 3) := by decide +kernel
theorem dX4_step_8 : decode cX4_step 8 = .ok (.if_icmp .ge 31, 3) := by decide +kernel
theorem dX4_step_11 : decode cX4_step 11 = .ok (.aload_n 0, 1) := by decide +kernel
theorem dX4_step_12 : decode cX4_step 12 = .ok (.getfield 9, 3) := by decide +kernel
theorem dX4_step_15 : decode cX4_step 15 = .ok (.aload_n 0, 1) := by decide +kernel
theorem dX4_step_16 : decode cX4_step 16 = .ok (.getfield 25, 3) := by decide +kernel
theorem dX4_step_19 : decode cX4_step 19 = .ok (.iaload, 1) := by decide +kernel
theorem dX4_step_20 : decode cX4_step 20 = .ok (.invokestatic 122, 3) := by decide +kernel
theorem dX4_step_23 : decode cX4_step 23 = .ok (.ifCond .ne 16, 3) := by decide +kernel
theorem dX4_step_26 : decode cX4_step 26 = .ok (.aload_n 0, 1) := by decide +kernel
theorem dX4_step_27 : decode cX4_step 27 = .ok (.dup, 1) := by decide +kernel
theorem dX4_step_28 : decode cX4_step 28 = .ok (.getfield 25, 3) := by decide +kernel
theorem dX4_step_31 : decode cX4_step 31 = .ok (.iconst 1, 1) := by decide +kernel
theorem dX4_step_32 : decode cX4_step 32 = .ok (.iadd, 1) := by decide +kernel
theorem dX4_step_33 : decode cX4_step 33 = .ok (.putfield 25, 3) := by decide +kernel
theorem dX4_step_36 : decode cX4_step 36 = .ok (.goto (-36), 3) := by decide +kernel
theorem dX4_step_39 : decode cX4_step 39 = .ok (.aload_n 0, 1) := by decide +kernel
theorem dX4_step_40 : decode cX4_step 40 = .ok (.aload_n 0, 1) := by decide +kernel
theorem dX4_step_41 : decode cX4_step 41 = .ok (.getfield 25, 3) := by decide +kernel
theorem dX4_step_44 : decode cX4_step 44 = .ok (.putfield 22, 3) := by decide +kernel
theorem dX4_step_47 : decode cX4_step 47 = .ok (.aload_n 0, 1) := by decide +kernel
theorem dX4_step_48 : decode cX4_step 48 = .ok (.getfield 22, 3) := by decide +kernel
theorem dX4_step_51 : decode cX4_step 51 = .ok (.aload_n 0, 1) := by decide +kernel
theorem dX4_step_52 : decode cX4_step 52 = .ok (.getfield 15, 3) := by decide +kernel
theorem dX4_step_55 : decode cX4_step 55 = .ok (.if_icmp .lt 9, 3) := by decide +kernel
theorem dX4_step_58 : decode cX4_step 58 = .ok (.aload_n 0, 1) := by decide +kernel
theorem dX4_step_59 : decode cX4_step 59 = .ok (.iconst 5, 1) := by decide +kernel
theorem dX4_step_60 : decode cX4_step 60 = .ok (.putfield 19, 3) := by decide +kernel
theorem dX4_step_63 : decode cX4_step 63 = .ok (.return_, 1) := by decide +kernel
theorem dX4_step_64 : decode cX4_step 64 = .ok (.aload_n 0, 1) := by decide +kernel
theorem dX4_step_65 : decode cX4_step 65 = .ok (.aload_n 0, 1) := by decide +kernel
theorem dX4_step_66 : decode cX4_step 66 = .ok (.getfield 9, 3) := by decide +kernel
theorem dX4_step_69 : decode cX4_step 69 = .ok (.aload_n 0, 1) := by decide +kernel
theorem dX4_step_70 : decode cX4_step 70 = .ok (.getfield 22, 3) := by decide +kernel
theorem dX4_step_73 : decode cX4_step 73 = .ok (.iaload, 1) := by decide +kernel
theorem dX4_step_74 : decode cX4_step 74 = .ok (.invokestatic 122, 3) := by decide +kernel
theorem dX4_step_77 : decode cX4_step 77 = .ok (.putfield 19, 3) := by decide +kernel
theorem dX4_step_80 : decode cX4_step 80 = .ok (.aload_n 0, 1) := by decide +kernel
theorem dX4_step_81 : decode cX4_step 81 = .ok (.dup, 1) := by decide +kernel
theorem dX4_step_82 : decode cX4_step 82 = .ok (.getfield 25, 3) := by decide +kernel
theorem dX4_step_85 : decode cX4_step 85 = .ok (.iconst 1, 1) := by decide +kernel
theorem dX4_step_86 : decode cX4_step 86 = .ok (.iadd, 1) := by decide +kernel
theorem dX4_step_87 : decode cX4_step 87 = .ok (.putfield 25, 3) := by decide +kernel
theorem dX4_step_90 : decode cX4_step 90 = .ok (.aload_n 0, 1) := by decide +kernel
theorem dX4_step_91 : decode cX4_step 91 = .ok (.getfield 25, 3) := by decide +kernel
theorem dX4_step_94 : decode cX4_step 94 = .ok (.aload_n 0, 1) := by decide +kernel
theorem dX4_step_95 : decode cX4_step 95 = .ok (.getfield 15, 3) := by decide +kernel
theorem dX4_step_98 : decode cX4_step 98 = .ok (.if_icmp .ge 42, 3) := by decide +kernel
theorem dX4_step_101 : decode cX4_step 101 = .ok (.aload_n 0, 1) := by decide +kernel
theorem dX4_step_102 : decode cX4_step 102 = .ok (.invokevirtual 125, 3) := by decide +kernel
theorem dX4_step_105 : decode cX4_step 105 = .ok (.ifCond .eq 35, 3) := by decide +kernel
theorem dX4_step_108 : decode cX4_step 108 = .ok (.aload_n 0, 1) := by decide +kernel
theorem dX4_step_109 : decode cX4_step 109 = .ok (.getfield 9, 3) := by decide +kernel
theorem dX4_step_112 : decode cX4_step 112 = .ok (.aload_n 0, 1) := by decide +kernel
theorem dX4_step_113 : decode cX4_step 113 = .ok (.getfield 25, 3) := by decide +kernel
theorem dX4_step_116 : decode cX4_step 116 = .ok (.iaload, 1) := by decide +kernel
theorem dX4_step_117 : decode cX4_step 117 = .ok (.invokestatic 122, 3) := by decide +kernel
theorem dX4_step_120 : decode cX4_step 120 = .ok (.aload_n 0, 1) := by decide +kernel
theorem dX4_step_121 : decode cX4_step 121 = .ok (.getfield 19, 3) := by decide +kernel
theorem dX4_step_124 : decode cX4_step 124 = .ok (.if_icmp .ne 16, 3) := by decide +kernel
theorem dX4_step_127 : decode cX4_step 127 = .ok (.aload_n 0, 1) := by decide +kernel
theorem dX4_step_128 : decode cX4_step 128 = .ok (.dup, 1) := by decide +kernel
theorem dX4_step_129 : decode cX4_step 129 = .ok (.getfield 25, 3) := by decide +kernel
theorem dX4_step_132 : decode cX4_step 132 = .ok (.iconst 1, 1) := by decide +kernel
theorem dX4_step_133 : decode cX4_step 133 = .ok (.iadd, 1) := by decide +kernel
theorem dX4_step_134 : decode cX4_step 134 = .ok (.putfield 25, 3) := by decide +kernel
theorem dX4_step_137 : decode cX4_step 137 = .ok (.goto (-47), 3) := by decide +kernel
theorem dX4_step_140 : decode cX4_step 140 = .ok (.return_, 1) := by decide +kernel
theorem dX4_isInARow_0 : decode cX4_isInARow 0 = .ok (.aload_n 0, 1) := by decide +kernel
theorem dX4_isInARow_1 : decode cX4_isInARow 1 = .ok (.getfield 19, 3) := by decide +kernel
theorem dX4_isInARow_4 : decode cX4_isInARow 4 = .ok (.iconst 1, 1) := by decide +kernel
theorem dX4_isInARow_5 : decode cX4_isInARow 5 = .ok (.if_icmp .eq 11, 3) := by decide +kernel
theorem dX4_isInARow_8 : decode cX4_isInARow 8 = .ok (.aload_n 0, 1) := by decide +kernel
theorem dX4_isInARow_9 : decode cX4_isInARow 9 = .ok (.getfield 19, 3) := by decide +kernel
theorem dX4_isInARow_12 : decode cX4_isInARow 12 = .ok (.iconst 2, 1) := by decide +kernel
theorem dX4_isInARow_13 : decode cX4_isInARow 13 = .ok (.if_icmp .ne 7, 3) := by decide +kernel
theorem dX4_isInARow_16 : decode cX4_isInARow 16 = .ok (.iconst 1, 1) := by decide +kernel
theorem dX4_isInARow_17 : decode cX4_isInARow 17 = .ok (.goto 4, 3) := by decide +kernel
theorem dX4_isInARow_20 : decode cX4_isInARow 20 = .ok (.iconst 0, 1) := by decide +kernel
theorem dX4_isInARow_21 : decode cX4_isInARow 21 = .ok (.ireturn, 1) := by decide +kernel
theorem dX4_kindOf_0 : decode cX4_kindOf 0 = .ok (.iload_n 0, 1) := by decide +kernel
theorem dX4_kindOf_1 : decode cX4_kindOf 1 = .ok (.bipush 10, 2) := by decide +kernel
theorem dX4_kindOf_3 : decode cX4_kindOf 3 = .ok (.if_icmp .eq 9, 3) := by decide +kernel
theorem dX4_kindOf_6 : decode cX4_kindOf 6 = .ok (.iload_n 0, 1) := by decide +kernel
theorem dX4_kindOf_7 : decode cX4_kindOf 7 = .ok (.bipush 32, 2) := by decide +kernel
theorem dX4_kindOf_9 : decode cX4_kindOf 9 = .ok (.if_icmp .ne 5, 3) := by decide +kernel
theorem dX4_kindOf_12 : decode cX4_kindOf 12 = .ok (.iconst 0, 1) := by decide +kernel
theorem dX4_kindOf_13 : decode cX4_kindOf 13 = .ok (.ireturn, 1) := by decide +kernel
theorem dX4_kindOf_14 : decode cX4_kindOf 14 = .ok (.iload_n 0, 1) := by decide +kernel
theorem dX4_kindOf_15 : decode cX4_kindOf 15 = .ok (.bipush 97, 2) := by decide +kernel
theorem dX4_kindOf_17 : decode cX4_kindOf 17 = .ok (.if_icmp .lt 11, 3) := by decide +kernel
theorem dX4_kindOf_20 : decode cX4_kindOf 20 = .ok (.iload_n 0, 1) := by decide +kernel
theorem dX4_kindOf_21 : decode cX4_kindOf 21 = .ok (.bipush 122, 2) := by decide +kernel
theorem dX4_kindOf_23 : decode cX4_kindOf 23 = .ok (.if_icmp .gt 5, 3) := by decide +kernel
theorem dX4_kindOf_26 : decode cX4_kindOf 26 = .ok (.iconst 1, 1) := by decide +kernel
theorem dX4_kindOf_27 : decode cX4_kindOf 27 = .ok (.ireturn, 1) := by decide +kernel
theorem dX4_kindOf_28 : decode cX4_kindOf 28 = .ok (.iload_n 0, 1) := by decide +kernel
theorem dX4_kindOf_29 : decode cX4_kindOf 29 = .ok (.bipush 48, 2) := by decide +kernel
theorem dX4_kindOf_31 : decode cX4_kindOf 31 = .ok (.if_icmp .lt 11, 3) := by decide +kernel
theorem dX4_kindOf_34 : decode cX4_kindOf 34 = .ok (.iload_n 0, 1) := by decide +kernel
theorem dX4_kindOf_35 : decode cX4_kindOf 35 = .ok (.bipush 57, 2) := by decide +kernel
theorem dX4_kindOf_37 : decode cX4_kindOf 37 = .ok (.if_icmp .gt 5, 3) := by decide +kernel
theorem dX4_kindOf_40 : decode cX4_kindOf 40 = .ok (.iconst 2, 1) := by decide +kernel
theorem dX4_kindOf_41 : decode cX4_kindOf 41 = .ok (.ireturn, 1) := by decide +kernel
theorem dX4_kindOf_42 : decode cX4_kindOf 42 = .ok (.iload_n 0, 1) := by decide +kernel
theorem dX4_kindOf_43 : decode cX4_kindOf 43 = .ok (.bipush 59, 2) := by decide +kernel
theorem dX4_kindOf_45 : decode cX4_kindOf 45 = .ok (.if_icmp .ne 7, 3) := by decide +kernel
theorem dX4_kindOf_48 : decode cX4_kindOf 48 = .ok (.iconst 3, 1) := by decide +kernel
theorem dX4_kindOf_49 : decode cX4_kindOf 49 = .ok (.goto 4, 3) := by decide +kernel
theorem dX4_kindOf_52 : decode cX4_kindOf 52 = .ok (.iconst 4, 1) := by decide +kernel
theorem dX4_kindOf_53 : decode cX4_kindOf 53 = .ok (.ireturn, 1) := by decide +kernel
theorem dX5_init_0 : decode cX5_init 0 = .ok (.aload_n 0, 1) := by decide +kernel
theorem dX5_init_1 : decode cX5_init 1 = .ok (.invokespecial 3, 3) := by decide +kernel
theorem dX5_init_4 : decode cX5_init 4 = .ok (.aload_n 0, 1) := by decide +kernel
theorem dX5_init_5 : decode cX5_init 5 = .ok (.sipush 300, 3) := by decide +kernel
theorem dX5_init_8 : decode cX5_init 8 = .ok (.newarray .int, 2) := by decide +kernel
theorem dX5_init_10 : decode cX5_init 10 = .ok (.putfield 9, 3) := by decide +kernel
theorem dX5_init_13 : decode cX5_init 13 = .ok (.aload_n 0, 1) := by decide +kernel
theorem dX5_init_14 : decode cX5_init 14 = .ok (.iconst 0, 1) := by decide +kernel
theorem dX5_init_15 : decode cX5_init 15 = .ok (.putfield 15, 3) := by decide +kernel
theorem dX5_init_18 : decode cX5_init 18 = .ok (.return_, 1) := by decide +kernel
theorem dX5_append_0 : decode cX5_append 0 = .ok (.bipush 24, 2) := by decide +kernel
theorem dX5_append_2 : decode cX5_append 2 = .ok (.istore_n 2, 1) := by decide +kernel
theorem dX5_append_3 : decode cX5_append 3 = .ok (.iload_n 2, 1) := by decide +kernel
theorem dX5_append_4 : decode cX5_append 4 = .ok (.ifCond .lt 45, 3) := by decide +kernel
theorem dX5_append_7 : decode cX5_append 7 = .ok (.aload_n 0, 1) := by decide +kernel
theorem dX5_append_8 : decode cX5_append 8 = .ok (.getfield 15, 3) := by decide +kernel
theorem dX5_append_11 : decode cX5_append 11 = .ok (.sipush 300, 3) := by decide +kernel
theorem dX5_append_14 : decode cX5_append 14 = .ok (.if_icmp .ge 35, 3) := by decide +kernel
theorem dX5_append_17 : decode cX5_append 17 = .ok (.aload_n 0, 1) := by decide +kernel
theorem dX5_append_18 : decode cX5_append 18 = .ok (.getfield 9, 3) := by decide +kernel
theorem dX5_append_21 : decode cX5_append 21 = .ok (.aload_n 0, 1) := by decide +kernel
theorem dX5_append_22 : decode cX5_append 22 = .ok (.getfield 15, 3) := by decide +kernel
theorem dX5_append_25 : decode cX5_append 25 = .ok (.iload_n 1, 1) := by decide +kernel
theorem dX5_append_26 : decode cX5_append 26 = .ok (.iload_n 2, 1) := by decide +kernel
theorem dX5_append_27 : decode cX5_append 27 = .ok (.iushr, 1) := by decide +kernel
theorem dX5_append_28 : decode cX5_append 28 = .ok (.sipush 255, 3) := by decide +kernel
theorem dX5_append_31 : decode cX5_append 31 = .ok (.iand, 1) := by decide +kernel
theorem dX5_append_32 : decode cX5_append 32 = .ok (.iastore, 1) := by decide +kernel
theorem dX5_append_33 : decode cX5_append 33 = .ok (.aload_n 0, 1) := by decide +kernel
theorem dX5_append_34 : decode cX5_append 34 = .ok (.dup, 1) := by decide +kernel
theorem dX5_append_35 : decode cX5_append 35 = .ok (.getfield 15, 3) := by decide +kernel
theorem dX5_append_38 : decode cX5_append 38 = .ok (.iconst 1, 1) := by decide +kernel
theorem dX5_append_39 : decode cX5_append 39 = .ok (.iadd, 1) := by decide +kernel
theorem dX5_append_40 : decode cX5_append 40 = .ok (.putfield 15, 3) := by decide +kernel
theorem dX5_append_43 : decode cX5_append 43 = .ok (.iinc 2 (-8), 3) := by decide +kernel
theorem dX5_append_46 : decode cX5_append 46 = .ok (.goto (-43), 3) := by decide +kernel
theorem dX5_append_49 : decode cX5_append 49 = .ok (.return_, 1) := by decide +kernel
set_option maxRecDepth 20000 in
theorem ggX6_init_X3_init : GoodIn wsX6_init wsX3_init := goodIn_r _ [13, 14, 2, 3, 4, 15, 16, 17, 18, 19, 20, 21, 22, 23, 24, 25, 26, 31, 32, 33, 34, 35, 36, 37, 38, 39, 40, 41] (by decide +kernel) (by decide +kernel)
set_option maxRecDepth 20000 in
theorem gX6_init_X3_init_n17 : GoodIn wsX6_init (wsX3_init) := ggX6_init_X3_init
theorem dX6_init_0 : decode cX6_init 0 = .ok (.aload_n 0, 1) := by decide +kernel
theorem dX6_init_1 : decode cX6_init 1 = .ok (.invokespecial 3, 3) := by decide +kernel
theorem dX6_init_4 : decode cX6_init 4 = .ok (.aload_n 0, 1) := by decide +kernel
theorem dX6_init_5 : decode cX6_init 5 = .ok (.bipush 10, 2) := by decide +kernel
theorem dX6_init_7 : decode cX6_init 7 = .ok (.newarray .int, 2) := by decide +kernel
theorem dX6_init_9 : decode cX6_init 9 = .ok (.putfield 9, 3) := by decide +kernel
theorem dX6_init_12 : decode cX6_init 12 = .ok (.aload_n 0, 1) := by decide +kernel
theorem dX6_init_13 : decode cX6_init 13 = .ok (.new 15, 3) := by decide +kernel
theorem dX6_init_16 : decode cX6_init 16 = .ok (.dup, 1) := by decide +kernel
theorem dX6_init_17 : decode cX6_init 17 = .ok (.invokespecial 17, 3) := by decide +kernel
theorem dX6_init_20 : decode cX6_init 20 = .ok (.putfield 18, 3) := by decide +kernel
theorem dX6_init_23 : decode cX6_init 23 = .ok (.aload_n 0, 1) := by decide +kernel
theorem dX6_init_24 : decode cX6_init 24 = .ok (.iconst 0, 1) := by decide +kernel
theorem dX6_init_25 : decode cX6_init 25 = .ok (.putfield 22, 3) := by decide +kernel
theorem dX6_init_28 : decode cX6_init 28 = .ok (.aload_n 0, 1) := by decide +kernel
theorem dX6_init_29 : decode cX6_init 29 = .ok (.iconst 0, 1) := by decide +kernel
theorem dX6_init_30 : decode cX6_init 30 = .ok (.putfield 26, 3) := by decide +kernel
theorem dX6_init_33 : decode cX6_init 33 = .ok (.return_, 1) := by decide +kernel
theorem dX6_hasMan_0 : decode cX6_hasMan 0 = .ok (.iload_n 1, 1) := by decide +kernel
theorem dX6_hasMan_1 : decode cX6_hasMan 1 = .ok (.ifCond .lt 15, 3) := by decide +kernel
theorem dX6_hasMan_4 : decode cX6_hasMan 4 = .ok (.iload_n 1, 1) := by decide +kernel
theorem dX6_hasMan_5 : decode cX6_hasMan 5 = .ok (.aload_n 0, 1) := by decide +kernel
theorem dX6_hasMan_6 : decode cX6_hasMan 6 = .ok (.getfield 22, 3) := by decide +kernel
theorem dX6_hasMan_9 : decode cX6_hasMan 9 = .ok (.if_icmp .ge 7, 3) := by decide +kernel
theorem dX6_hasMan_12 : decode cX6_hasMan 12 = .ok (.iconst 1, 1) := by decide +kernel
theorem dX6_hasMan_13 : decode cX6_hasMan 13 = .ok (.goto 4, 3) := by decide +kernel
theorem dX6_hasMan_16 : decode cX6_hasMan 16 = .ok (.iconst 0, 1) := by decide +kernel
theorem dX6_hasMan_17 : decode cX6_hasMan 17 = .ok (.ireturn, 1) := by decide +kernel
theorem dX6_settle_0 : decode cX6_settle 0 = .ok (.aload_n 0, 1) := by decide +kernel
theorem dX6_settle_1 : decode cX6_settle 1 = .ok (.getfield 22, 3) := by decide +kernel
theorem dX6_settle_4 : decode cX6_settle 4 = .ok (.bipush 10, 2) := by decide +kernel
theorem dX6_settle_6 : decode cX6_settle 6 = .ok (.if_icmp .lt 5, 3) := by decide +kernel
theorem dX6_settle_9 : decode cX6_settle 9 = .ok (.iconst (-1), 1) := by decide +kernel
theorem dX6_settle_10 : decode cX6_settle 10 = .ok (.ireturn, 1) := by decide +kernel
theorem dX6_settle_11 : decode cX6_settle 11 = .ok (.aload_n 0, 1) := by decide +kernel
theorem dX6_settle_12 : decode cX6_settle 12 = .ok (.getfield 9, 3) := by decide +kernel
theorem dX6_settle_15 : decode cX6_settle 15 = .ok (.aload_n 0, 1) := by decide +kernel
theorem dX6_settle_16 : decode cX6_settle 16 = .ok (.getfield 22, 3) := by decide +kernel
theorem dX6_settle_19 : decode cX6_settle 19 = .ok (.iload_n 1, 1) := by decide +kernel
theorem dX6_settle_20 : decode cX6_settle 20 = .ok (.iastore, 1) := by decide +kernel
theorem dX6_settle_21 : decode cX6_settle 21 = .ok (.aload_n 0, 1) := by decide +kernel
theorem dX6_settle_22 : decode cX6_settle 22 = .ok (.dup, 1) := by decide +kernel
theorem dX6_settle_23 : decode cX6_settle 23 = .ok (.getfield 22, 3) := by decide +kernel
theorem dX6_settle_26 : decode cX6_settle 26 = .ok (.iconst 1, 1) := by decide +kernel
theorem dX6_settle_27 : decode cX6_settle 27 = .ok (.iadd, 1) := by decide +kernel
theorem dX6_settle_28 : decode cX6_settle 28 = .ok (.putfield 22, 3) := by decide +kernel
theorem dX6_settle_31 : decode cX6_settle 31 = .ok (.aload_n 0, 1) := by decide +kernel
theorem dX6_settle_32 : decode cX6_settle 32 = .ok (.getfield 22, 3) := by decide +kernel
theorem dX6_settle_35 : decode cX6_settle 35 = .ok (.iconst 1, 1) := by decide +kernel
theorem dX6_settle_36 : decode cX6_settle 36 = .ok (.isub, 1) := by decide +kernel
theorem dX6_settle_37 : decode cX6_settle 37 = .ok (.ireturn, 1) := by decide +kernel
theorem dX6_isCrew_0 : decode cX6_isCrew 0 = .ok (.iload_n 1, 1) := by decide +kernel
theorem dX6_isCrew_1 : decode cX6_isCrew 1 = .ok (.aload_n 0, 1) := by decide +kernel
theorem dX6_isCrew_2 : decode cX6_isCrew 2 = .ok (.getfield 22, 3) := by decide +kernel
theorem dX6_isCrew_5 : decode cX6_isCrew 5 = .ok (.iushr, 1) := by decide +kernel
theorem dX6_isCrew_6 : decode cX6_isCrew 6 = .ok (.ifCond .ne 15, 3) := by decide +kernel
theorem dX6_isCrew_9 : decode cX6_isCrew 9 = .ok (.iload_n 1, 1) := by decide +kernel
theorem dX6_isCrew_10 : decode cX6_isCrew 10 = .ok (.iload_n 2, 1) := by decide +kernel
theorem dX6_isCrew_11 : decode cX6_isCrew 11 = .ok (.iushr, 1) := by decide +kernel
theorem dX6_isCrew_12 : decode cX6_isCrew 12 = .ok (.iconst 1, 1) := by decide +kernel
theorem dX6_isCrew_13 : decode cX6_isCrew 13 = .ok (.iand, 1) := by decide +kernel
theorem dX6_isCrew_14 : decode cX6_isCrew 14 = .ok (.ifCond .ne 7, 3) := by decide +kernel
theorem dX6_isCrew_17 : decode cX6_isCrew 17 = .ok (.iconst 1, 1) := by decide +kernel
theorem dX6_isCrew_18 : decode cX6_isCrew 18 = .ok (.goto 4, 3) := by decide +kernel
theorem dX6_isCrew_21 : decode cX6_isCrew 21 = .ok (.iconst 0, 1) := by decide +kernel
theorem dX6_isCrew_22 : decode cX6_isCrew 22 = .ok (.ireturn, 1) := by decide +kernel
set_option maxRecDepth 20000 in
theorem ggX6_shareBoat_J6_bitCount_0f7a4 : GoodIn wsX6_shareBoat wsJ6_bitCount_0f7a4 := goodIn_r _ [6, 7, 8, 9] (by decide +kernel) (by decide +kernel)
set_option maxRecDepth 20000 in
theorem gX6_shareBoat_J6_bitCount_0f7a4 : GoodIn wsX6_shareBoat (va_wsS RX6 29 yJ6_bitCount_0f7a4 wsJ6_bitCount_0f7a4) := goodIn_app (goodIn_of _ (by decide +kernel)) ggX6_shareBoat_J6_bitCount_0f7a4
theorem dX6_shareBoat_0 : decode cX6_shareBoat 0 = .ok (.iload 4, 2) := by decide +kernel
theorem dX6_shareBoat_2 : decode cX6_shareBoat 2 = .ok (.invokestatic 29, 3) := by decide +kernel
theorem dX6_shareBoat_5 : decode cX6_shareBoat 5 = .ok (.istore 5, 2) := by decide +kernel
theorem dX6_shareBoat_7 : decode cX6_shareBoat 7 = .ok (.iload_n 3, 1) := by decide +kernel
theorem dX6_shareBoat_8 : decode cX6_shareBoat 8 = .ok (.iload 5, 2) := by decide +kernel
theorem dX6_shareBoat_10 : decode cX6_shareBoat 10 = .ok (.iadd, 1) := by decide +kernel
theorem dX6_shareBoat_11 : decode cX6_shareBoat 11 = .ok (.istore 6, 2) := by decide +kernel
theorem dX6_shareBoat_13 : decode cX6_shareBoat 13 = .ok (.iload 6, 2) := by decide +kernel
theorem dX6_shareBoat_15 : decode cX6_shareBoat 15 = .ok (.ifCond .le 10, 3) := by decide +kernel
theorem dX6_shareBoat_18 : decode cX6_shareBoat 18 = .ok (.iload_n 1, 1) := by decide +kernel
theorem dX6_shareBoat_19 : decode cX6_shareBoat 19 = .ok (.iload 6, 2) := by decide +kernel
theorem dX6_shareBoat_21 : decode cX6_shareBoat 21 = .ok (.idiv, 1) := by decide +kernel
theorem dX6_shareBoat_22 : decode cX6_shareBoat 22 = .ok (.goto 4, 3) := by decide +kernel
theorem dX6_shareBoat_25 : decode cX6_shareBoat 25 = .ok (.iconst 0, 1) := by decide +kernel
theorem dX6_shareBoat_26 : decode cX6_shareBoat 26 = .ok (.istore 7, 2) := by decide +kernel
theorem dX6_shareBoat_28 : decode cX6_shareBoat 28 = .ok (.iconst 0, 1) := by decide +kernel
theorem dX6_shareBoat_29 : decode cX6_shareBoat 29 = .ok (.istore 8, 2) := by decide +kernel
theorem dX6_shareBoat_31 : decode cX6_shareBoat 31 = .ok (.iload 8, 2) := by decide +kernel
theorem dX6_shareBoat_33 : decode cX6_shareBoat 33 = .ok (.aload_n 0, 1) := by decide +kernel
theorem dX6_shareBoat_34 : decode cX6_shareBoat 34 = .ok (.getfield 22, 3) := by decide +kernel
theorem dX6_shareBoat_37 : decode cX6_shareBoat 37 = .ok (.if_icmp .ge 32, 3) := by decide +kernel
theorem dX6_shareBoat_40 : decode cX6_shareBoat 40 = .ok (.iload 4, 2) := by decide +kernel
theorem dX6_shareBoat_42 : decode cX6_shareBoat 42 = .ok (.iload 8, 2) := by decide +kernel
theorem dX6_shareBoat_44 : decode cX6_shareBoat 44 = .ok (.iushr, 1) := by decide +kernel
theorem dX6_shareBoat_45 : decode cX6_shareBoat 45 = .ok (.iconst 1, 1) := by decide +kernel
theorem dX6_shareBoat_46 : decode cX6_shareBoat 46 = .ok (.iand, 1) := by decide +kernel
theorem dX6_shareBoat_47 : decode cX6_shareBoat 47 = .ok (.iconst 1, 1) := by decide +kernel
theorem dX6_shareBoat_48 : decode cX6_shareBoat 48 = .ok (.if_icmp .ne 15, 3) := by decide +kernel
theorem dX6_shareBoat_51 : decode cX6_shareBoat 51 = .ok (.aload_n 0, 1) := by decide +kernel
theorem dX6_shareBoat_52 : decode cX6_shareBoat 52 = .ok (.getfield 9, 3) := by decide +kernel
theorem dX6_shareBoat_55 : decode cX6_shareBoat 55 = .ok (.iload 8, 2) := by decide +kernel
theorem dX6_shareBoat_57 : decode cX6_shareBoat 57 = .ok (.dup2, 1) := by decide +kernel
theorem dX6_shareBoat_58 : decode cX6_shareBoat 58 = .ok (.iaload, 1) := by decide +kernel
theorem dX6_shareBoat_59 : decode cX6_shareBoat 59 = .ok (.iload 7, 2) := by decide +kernel
theorem dX6_shareBoat_61 : decode cX6_shareBoat 61 = .ok (.iadd, 1) := by decide +kernel
theorem dX6_shareBoat_62 : decode cX6_shareBoat 62 = .ok (.iastore, 1) := by decide +kernel
theorem dX6_shareBoat_63 : decode cX6_shareBoat 63 = .ok (.iinc 8 1, 3) := by decide +kernel
theorem dX6_shareBoat_66 : decode cX6_shareBoat 66 = .ok (.goto (-35), 3) := by decide +kernel
theorem dX6_shareBoat_69 : decode cX6_shareBoat 69 = .ok (.aload_n 0, 1) := by decide +kernel
theorem dX6_shareBoat_70 : decode cX6_shareBoat 70 = .ok (.getfield 9, 3) := by decide +kernel
theorem dX6_shareBoat_73 : decode cX6_shareBoat 73 = .ok (.iload_n 2, 1) := by decide +kernel
theorem dX6_shareBoat_74 : decode cX6_shareBoat 74 = .ok (.dup2, 1) := by decide +kernel
theorem dX6_shareBoat_75 : decode cX6_shareBoat 75 = .ok (.iaload, 1) := by decide +kernel
theorem dX6_shareBoat_76 : decode cX6_shareBoat 76 = .ok (.iload_n 1, 1) := by decide +kernel
theorem dX6_shareBoat_77 : decode cX6_shareBoat 77 = .ok (.iload 7, 2) := by decide +kernel
theorem dX6_shareBoat_79 : decode cX6_shareBoat 79 = .ok (.iload 5, 2) := by decide +kernel
theorem dX6_shareBoat_81 : decode cX6_shareBoat 81 = .ok (.imul, 1) := by decide +kernel
theorem dX6_shareBoat_82 : decode cX6_shareBoat 82 = .ok (.isub, 1) := by decide +kernel
theorem dX6_shareBoat_83 : decode cX6_shareBoat 83 = .ok (.iadd, 1) := by decide +kernel
theorem dX6_shareBoat_84 : decode cX6_shareBoat 84 = .ok (.iastore, 1) := by decide +kernel
theorem dX6_shareBoat_85 : decode cX6_shareBoat 85 = .ok (.iload 7, 2) := by decide +kernel
theorem dX6_shareBoat_87 : decode cX6_shareBoat 87 = .ok (.ireturn, 1) := by decide +kernel
set_option maxRecDepth 20000 in
theorem ggX6_handOver_X3_handOver : GoodIn wsX6_handOver wsX3_handOver := goodIn_r _ [7, 8, 9, 10, 11, 16, 17, 18, 19, 20, 21, 22, 23, 24, 25, 26] (by decide +kernel) (by decide +kernel)
set_option maxRecDepth 20000 in
theorem gX6_handOver_X3_handOver : GoodIn wsX6_handOver (wsV RX6 35 RX3 yX3_handOver wsX3_handOver) := goodIn_app (goodIn_of _ (by decide +kernel)) ggX6_handOver_X3_handOver
theorem dX6_handOver_0 : decode cX6_handOver 0 = .ok (.aload_n 0, 1) := by decide +kernel
theorem dX6_handOver_1 : decode cX6_handOver 1 = .ok (.getfield 9, 3) := by decide +kernel
theorem dX6_handOver_4 : decode cX6_handOver 4 = .ok (.iload_n 2, 1) := by decide +kernel
theorem dX6_handOver_5 : decode cX6_handOver 5 = .ok (.dup2, 1) := by decide +kernel
theorem dX6_handOver_6 : decode cX6_handOver 6 = .ok (.iaload, 1) := by decide +kernel
theorem dX6_handOver_7 : decode cX6_handOver 7 = .ok (.aload_n 0, 1) := by decide +kernel
theorem dX6_handOver_8 : decode cX6_handOver 8 = .ok (.getfield 9, 3) := by decide +kernel
theorem dX6_handOver_11 : decode cX6_handOver 11 = .ok (.iload_n 1, 1) := by decide +kernel
theorem dX6_handOver_12 : decode cX6_handOver 12 = .ok (.iaload, 1) := by decide +kernel
end
section
theorem dX6_handOver_13 : decode cX6_handOver 13 = .ok (.iadd, 1) := by decide +kernel
theorem dX6_handOver_14 : decode cX6_handOver 14 = .ok (.iastore, 1) := by decide +kernel
theorem dX6_handOver_15 : decode cX6_handOver 15 = .ok (.aload_n 0, 1) := by decide +kernel
theorem dX6_handOver_16 : decode cX6_handOver 16 = .ok (.getfield 9, 3) := by decide +kernel
theorem dX6_handOver_19 : decode cX6_handOver 19 = .ok (.iload_n 1, 1) := by decide +kernel
theorem dX6_handOver_20 : decode cX6_handOver 20 = .ok (.iconst 0, 1) := by decide +kernel
theorem dX6_handOver_21 : decode cX6_handOver 21 = .ok (.iastore, 1) := by decide +kernel
theorem dX6_handOver_22 : decode cX6_handOver 22 = .ok (.aload_n 0, 1) := by decide +kernel
theorem dX6_handOver_23 : decode cX6_handOver 23 = .ok (.getfield 18, 3) := by decide +kernel
theorem dX6_handOver_26 : decode cX6_handOver 26 = .ok (.iload_n 1, 1) := by decide +kernel
theorem dX6_handOver_27 : decode cX6_handOver 27 = .ok (.iload_n 2, 1) := by decide +kernel
theorem dX6_handOver_28 : decode cX6_handOver 28 = .ok (.invokevirtual 35, 3) := by decide +kernel
theorem dX6_handOver_31 : decode cX6_handOver 31 = .ok (.return_, 1) := by decide +kernel
theorem dX6_carryOut_0 : decode cX6_carryOut 0 = .ok (.iconst 0, 1) := by decide +kernel
theorem dX6_carryOut_1 : decode cX6_carryOut 1 = .ok (.istore_n 2, 1) := by decide +kernel
theorem dX6_carryOut_2 : decode cX6_carryOut 2 = .ok (.iload_n 2, 1) := by decide +kernel
theorem dX6_carryOut_3 : decode cX6_carryOut 3 = .ok (.aload_n 0, 1) := by decide +kernel
theorem dX6_carryOut_4 : decode cX6_carryOut 4 = .ok (.getfield 22, 3) := by decide +kernel
theorem dX6_carryOut_7 : decode cX6_carryOut 7 = .ok (.if_icmp .ge 21, 3) := by decide +kernel
theorem dX6_carryOut_10 : decode cX6_carryOut 10 = .ok (.aload_n 0, 1) := by decide +kernel
theorem dX6_carryOut_11 : decode cX6_carryOut 11 = .ok (.getfield 9, 3) := by decide +kernel
theorem dX6_carryOut_14 : decode cX6_carryOut 14 = .ok (.iload_n 2, 1) := by decide +kernel
theorem dX6_carryOut_15 : decode cX6_carryOut 15 = .ok (.aload_n 1, 1) := by decide +kernel
theorem dX6_carryOut_16 : decode cX6_carryOut 16 = .ok (.getfield 39, 3) := by decide +kernel
theorem dX6_carryOut_19 : decode cX6_carryOut 19 = .ok (.iload_n 2, 1) := by decide +kernel
theorem dX6_carryOut_20 : decode cX6_carryOut 20 = .ok (.iaload, 1) := by decide +kernel
theorem dX6_carryOut_21 : decode cX6_carryOut 21 = .ok (.iastore, 1) := by decide +kernel
theorem dX6_carryOut_22 : decode cX6_carryOut 22 = .ok (.iinc 2 1, 3) := by decide +kernel
theorem dX6_carryOut_25 : decode cX6_carryOut 25 = .ok (.goto (-23), 3) := by decide +kernel
theorem dX6_carryOut_28 : decode cX6_carryOut 28 = .ok (.iconst 0, 1) := by decide +kernel
theorem dX6_carryOut_29 : decode cX6_carryOut 29 = .ok (.istore_n 2, 1) := by decide +kernel
theorem dX6_carryOut_30 : decode cX6_carryOut 30 = .ok (.iload_n 2, 1) := by decide +kernel
theorem dX6_carryOut_31 : decode cX6_carryOut 31 = .ok (.aload_n 0, 1) := by decide +kernel
theorem dX6_carryOut_32 : decode cX6_carryOut 32 = .ok (.getfield 18, 3) := by decide +kernel
theorem dX6_carryOut_35 : decode cX6_carryOut 35 = .ok (.getfield 44, 3) := by decide +kernel
theorem dX6_carryOut_38 : decode cX6_carryOut 38 = .ok (.if_icmp .ge 27, 3) := by decide +kernel
theorem dX6_carryOut_41 : decode cX6_carryOut 41 = .ok (.aload_n 0, 1) := by decide +kernel
theorem dX6_carryOut_42 : decode cX6_carryOut 42 = .ok (.getfield 18, 3) := by decide +kernel
theorem dX6_carryOut_45 : decode cX6_carryOut 45 = .ok (.getfield 47, 3) := by decide +kernel
theorem dX6_carryOut_48 : decode cX6_carryOut 48 = .ok (.iload_n 2, 1) := by decide +kernel
theorem dX6_carryOut_49 : decode cX6_carryOut 49 = .ok (.dup2, 1) := by decide +kernel
theorem dX6_carryOut_50 : decode cX6_carryOut 50 = .ok (.iaload, 1) := by decide +kernel
theorem dX6_carryOut_51 : decode cX6_carryOut 51 = .ok (.aload_n 1, 1) := by decide +kernel
theorem dX6_carryOut_52 : decode cX6_carryOut 52 = .ok (.getfield 50, 3) := by decide +kernel
theorem dX6_carryOut_55 : decode cX6_carryOut 55 = .ok (.iload_n 2, 1) := by decide +kernel
theorem dX6_carryOut_56 : decode cX6_carryOut 56 = .ok (.iaload, 1) := by decide +kernel
theorem dX6_carryOut_57 : decode cX6_carryOut 57 = .ok (.isub, 1) := by decide +kernel
theorem dX6_carryOut_58 : decode cX6_carryOut 58 = .ok (.iastore, 1) := by decide +kernel
theorem dX6_carryOut_59 : decode cX6_carryOut 59 = .ok (.iinc 2 1, 3) := by decide +kernel
theorem dX6_carryOut_62 : decode cX6_carryOut 62 = .ok (.goto (-32), 3) := by decide +kernel
theorem dX6_carryOut_65 : decode cX6_carryOut 65 = .ok (.return_, 1) := by decide +kernel
theorem dX6_allPurses_0 : decode cX6_allPurses 0 = .ok (.iconst 0, 1) := by decide +kernel
theorem dX6_allPurses_1 : decode cX6_allPurses 1 = .ok (.istore_n 1, 1) := by decide +kernel
theorem dX6_allPurses_2 : decode cX6_allPurses 2 = .ok (.iconst 0, 1) := by decide +kernel
theorem dX6_allPurses_3 : decode cX6_allPurses 3 = .ok (.istore_n 2, 1) := by decide +kernel
theorem dX6_allPurses_4 : decode cX6_allPurses 4 = .ok (.iload_n 2, 1) := by decide +kernel
theorem dX6_allPurses_5 : decode cX6_allPurses 5 = .ok (.aload_n 0, 1) := by decide +kernel
theorem dX6_allPurses_6 : decode cX6_allPurses 6 = .ok (.getfield 22, 3) := by decide +kernel
theorem dX6_allPurses_9 : decode cX6_allPurses 9 = .ok (.if_icmp .ge 18, 3) := by decide +kernel
theorem dX6_allPurses_12 : decode cX6_allPurses 12 = .ok (.iload_n 1, 1) := by decide +kernel
theorem dX6_allPurses_13 : decode cX6_allPurses 13 = .ok (.aload_n 0, 1) := by decide +kernel
theorem dX6_allPurses_14 : decode cX6_allPurses 14 = .ok (.getfield 9, 3) := by decide +kernel
theorem dX6_allPurses_17 : decode cX6_allPurses 17 = .ok (.iload_n 2, 1) := by decide +kernel
theorem dX6_allPurses_18 : decode cX6_allPurses 18 = .ok (.iaload, 1) := by decide +kernel
theorem dX6_allPurses_19 : decode cX6_allPurses 19 = .ok (.iadd, 1) := by decide +kernel
theorem dX6_allPurses_20 : decode cX6_allPurses 20 = .ok (.istore_n 1, 1) := by decide +kernel
theorem dX6_allPurses_21 : decode cX6_allPurses 21 = .ok (.iinc 2 1, 3) := by decide +kernel
theorem dX6_allPurses_24 : decode cX6_allPurses 24 = .ok (.goto (-20), 3) := by decide +kernel
theorem dX6_allPurses_27 : decode cX6_allPurses 27 = .ok (.iload_n 1, 1) := by decide +kernel
theorem dX6_allPurses_28 : decode cX6_allPurses 28 = .ok (.ireturn, 1) := by decide +kernel
set_option maxRecDepth 20000 in
theorem ggX7_init_X6_init : GoodIn wsX7_init wsX6_init := goodIn_r _ [33, 34, 2, 3, 35, 36, 37, 38, 39, 40, 41, 42, 43, 44, 45, 46, 47, 48, 49, 50, 51, 52, 53, 54, 55, 56, 57, 111, 112, 113, 114, 154, 155, 156, 157, 158, 159, 160, 161, 162, 163, 164] (by decide +kernel) (by decide +kernel)
set_option maxRecDepth 20000 in
theorem gX7_init_X6_init_n9 : GoodIn wsX7_init (wsX6_init) := ggX7_init_X6_init
set_option maxRecDepth 20000 in
theorem ggX7_init_X5_init : GoodIn wsX7_init wsX5_init := goodIn_r _ [59, 60, 2, 3, 35, 61, 62, 125, 126] (by decide +kernel) (by decide +kernel)
set_option maxRecDepth 20000 in
theorem gX7_init_X5_init_n18 : GoodIn wsX7_init (wsX5_init) := ggX7_init_X5_init
set_option maxRecDepth 20000 in
theorem ggX7_init_X4_init : GoodIn wsX7_init wsX4_init := goodIn_r _ [64, 65, 2, 3, 35, 66, 67, 68, 69, 70, 71, 72, 127, 128, 129, 130, 131, 132, 133] (by decide +kernel) (by decide +kernel)
set_option maxRecDepth 20000 in
theorem gX7_init_X4_init_n25 : GoodIn wsX7_init (wsX4_init) := ggX7_init_X4_init
set_option maxRecDepth 20000 in
theorem ggX7_init_X0_init : GoodIn wsX7_init wsX0_init := goodIn_r _ [74, 75, 2, 3, 35, 76, 77, 78, 79, 80, 134, 135, 136, 137, 138] (by decide +kernel) (by decide +kernel)
set_option maxRecDepth 20000 in
theorem gX7_init_X0_init_n32 : GoodIn wsX7_init (wsX0_init) := ggX7_init_X0_init
set_option maxRecDepth 20000 in
theorem ggX7_init_X2_init : GoodIn wsX7_init wsX2_init := goodIn_r _ [83, 84, 2, 3, 35, 85, 86, 87, 88, 89, 22, 90, 91, 92, 93, 94, 95, 96, 97, 139, 140, 141, 142, 143] (by decide +kernel) (by decide +kernel)
set_option maxRecDepth 20000 in
theorem gX7_init_X2_init : GoodIn wsX7_init (wsX2_init) := ggX7_init_X2_init
set_option maxRecDepth 20000 in
theorem ggX7_init_X1_init : GoodIn wsX7_init wsX1_init := goodIn_r _ [99, 100, 2, 3, 35, 101, 102, 103, 104, 105, 106, 107, 108, 109, 110, 144, 145, 146, 147, 148, 149, 150, 151, 152, 153] (by decide +kernel) (by decide +kernel)
set_option maxRecDepth 20000 in
theorem gX7_init_X1_init_n46 : GoodIn wsX7_init (wsX1_init) := ggX7_init_X1_init
theorem dX7_init_0 : decode cX7_init 0 = .ok (.aload_n 0, 1) := by decide +kernel
theorem dX7_init_1 : decode cX7_init 1 = .ok (.invokespecial 1, 3) := by decide +kernel
theorem dX7_init_4 : decode cX7_init 4 = .ok (.aload_n 0, 1) := by decide +kernel
theorem dX7_init_5 : decode cX7_init 5 = .ok (.new 7, 3) := by decide +kernel
theorem dX7_init_8 : decode cX7_init 8 = .ok (.dup, 1) := by decide +kernel
theorem dX7_init_9 : decode cX7_init 9 = .ok (.invokespecial 9, 3) := by decide +kernel
theorem dX7_init_12 : decode cX7_init 12 = .ok (.putfield 10, 3) := by decide +kernel
theorem dX7_init_15 : decode cX7_init 15 = .ok (.aload_n 0, 1) := by decide +kernel
theorem dX7_init_16 : decode cX7_init 16 = .ok (.new 16, 3) := by decide +kernel
theorem dX7_init_19 : decode cX7_init 19 = .ok (.dup, 1) := by decide +kernel
theorem dX7_init_20 : decode cX7_init 20 = .ok (.invokespecial 18, 3) := by decide +kernel
theorem dX7_init_23 : decode cX7_init 23 = .ok (.putfield 19, 3) := by decide +kernel
theorem dX7_init_26 : decode cX7_init 26 = .ok (.aload_n 0, 1) := by decide +kernel
theorem dX7_init_27 : decode cX7_init 27 = .ok (.new 23, 3) := by decide +kernel
theorem dX7_init_30 : decode cX7_init 30 = .ok (.dup, 1) := by decide +kernel
theorem dX7_init_31 : decode cX7_init 31 = .ok (.invokespecial 25, 3) := by decide +kernel
theorem dX7_init_34 : decode cX7_init 34 = .ok (.putfield 26, 3) := by decide +kernel
theorem dX7_init_37 : decode cX7_init 37 = .ok (.aload_n 0, 1) := by decide +kernel
theorem dX7_init_38 : decode cX7_init 38 = .ok (.new 30, 3) := by decide +kernel
theorem dX7_init_41 : decode cX7_init 41 = .ok (.dup, 1) := by decide +kernel
theorem dX7_init_42 : decode cX7_init 42 = .ok (.invokespecial 32, 3) := by decide +kernel
theorem dX7_init_45 : decode cX7_init 45 = .ok (.putfield 33, 3) := by decide +kernel
theorem dX7_init_48 : decode cX7_init 48 = .ok (.aload_n 0, 1) := by decide +kernel
theorem dX7_init_49 : decode cX7_init 49 = .ok (.new 37, 3) := by decide +kernel
theorem dX7_init_52 : decode cX7_init 52 = .ok (.dup, 1) := by decide +kernel
theorem dX7_init_53 : decode cX7_init 53 = .ok (.invokespecial 39, 3) := by decide +kernel
theorem dX7_init_56 : decode cX7_init 56 = .ok (.putfield 40, 3) := by decide +kernel
theorem dX7_init_59 : decode cX7_init 59 = .ok (.aload_n 0, 1) := by decide +kernel
theorem dX7_init_60 : decode cX7_init 60 = .ok (.new 44, 3) := by decide +kernel
theorem dX7_init_63 : decode cX7_init 63 = .ok (.dup, 1) := by decide +kernel
theorem dX7_init_64 : decode cX7_init 64 = .ok (.invokespecial 46, 3) := by decide +kernel
theorem dX7_init_67 : decode cX7_init 67 = .ok (.putfield 47, 3) := by decide +kernel
theorem dX7_init_70 : decode cX7_init 70 = .ok (.aload_n 0, 1) := by decide +kernel
theorem dX7_init_71 : decode cX7_init 71 = .ok (.new 44, 3) := by decide +kernel
theorem dX7_init_74 : decode cX7_init 74 = .ok (.dup, 1) := by decide +kernel
theorem dX7_init_75 : decode cX7_init 75 = .ok (.invokespecial 46, 3) := by decide +kernel
theorem dX7_init_78 : decode cX7_init 78 = .ok (.putfield 51, 3) := by decide +kernel
theorem dX7_init_81 : decode cX7_init 81 = .ok (.aload_n 0, 1) := by decide +kernel
theorem dX7_init_82 : decode cX7_init 82 = .ok (.new 37, 3) := by decide +kernel
theorem dX7_init_85 : decode cX7_init 85 = .ok (.dup, 1) := by decide +kernel
theorem dX7_init_86 : decode cX7_init 86 = .ok (.invokespecial 39, 3) := by decide +kernel
theorem dX7_init_89 : decode cX7_init 89 = .ok (.putfield 54, 3) := by decide +kernel
theorem dX7_init_92 : decode cX7_init 92 = .ok (.aload_n 0, 1) := by decide +kernel
theorem dX7_init_93 : decode cX7_init 93 = .ok (.new 37, 3) := by decide +kernel
theorem dX7_init_96 : decode cX7_init 96 = .ok (.dup, 1) := by decide +kernel
theorem dX7_init_97 : decode cX7_init 97 = .ok (.invokespecial 39, 3) := by decide +kernel
theorem dX7_init_100 : decode cX7_init 100 = .ok (.putfield 57, 3) := by decide +kernel
theorem dX7_init_103 : decode cX7_init 103 = .ok (.aload_n 0, 1) := by decide +kernel
theorem dX7_init_104 : decode cX7_init 104 = .ok (.iconst 0, 1) := by decide +kernel
theorem dX7_init_105 : decode cX7_init 105 = .ok (.putfield 60, 3) := by decide +kernel
theorem dX7_init_108 : decode cX7_init 108 = .ok (.return_, 1) := by decide +kernel
set_option maxRecDepth 20000 in
theorem ggX7_feed_X5_append : GoodIn wsX7_feed wsX5_append := goodIn_r _ [6, 7, 8, 19, 20] (by decide +kernel) (by decide +kernel)
set_option maxRecDepth 20000 in
theorem gX7_feed_X5_append : GoodIn wsX7_feed (wsV RX7 68 RX5 yX5_append wsX5_append) := goodIn_app (goodIn_of _ (by decide +kernel)) ggX7_feed_X5_append
theorem dX7_feed_0 : decode cX7_feed 0 = .ok (.aload_n 0, 1) := by decide +kernel
theorem dX7_feed_1 : decode cX7_feed 1 = .ok (.getfield 19, 3) := by decide +kernel
theorem dX7_feed_4 : decode cX7_feed 4 = .ok (.getfield 64, 3) := by decide +kernel
theorem dX7_feed_7 : decode cX7_feed 7 = .ok (.bipush 20, 2) := by decide +kernel
theorem dX7_feed_9 : decode cX7_feed 9 = .ok (.iadd, 1) := by decide +kernel
theorem dX7_feed_10 : decode cX7_feed 10 = .ok (.sipush 300, 3) := by decide +kernel
theorem dX7_feed_13 : decode cX7_feed 13 = .ok (.if_icmp .le 5, 3) := by decide +kernel
theorem dX7_feed_16 : decode cX7_feed 16 = .ok (.iconst (-1), 1) := by decide +kernel
theorem dX7_feed_17 : decode cX7_feed 17 = .ok (.ireturn, 1) := by decide +kernel
theorem dX7_feed_18 : decode cX7_feed 18 = .ok (.aload_n 0, 1) := by decide +kernel
theorem dX7_feed_19 : decode cX7_feed 19 = .ok (.getfield 19, 3) := by decide +kernel
theorem dX7_feed_22 : decode cX7_feed 22 = .ok (.iload_n 1, 1) := by decide +kernel
theorem dX7_feed_23 : decode cX7_feed 23 = .ok (.invokevirtual 68, 3) := by decide +kernel
theorem dX7_feed_26 : decode cX7_feed 26 = .ok (.aload_n 0, 1) := by decide +kernel
theorem dX7_feed_27 : decode cX7_feed 27 = .ok (.getfield 19, 3) := by decide +kernel
theorem dX7_feed_30 : decode cX7_feed 30 = .ok (.iload_n 2, 1) := by decide +kernel
theorem dX7_feed_31 : decode cX7_feed 31 = .ok (.invokevirtual 68, 3) := by decide +kernel
theorem dX7_feed_34 : decode cX7_feed 34 = .ok (.aload_n 0, 1) := by decide +kernel
theorem dX7_feed_35 : decode cX7_feed 35 = .ok (.getfield 19, 3) := by decide +kernel
theorem dX7_feed_38 : decode cX7_feed 38 = .ok (.iload_n 3, 1) := by decide +kernel
theorem dX7_feed_39 : decode cX7_feed 39 = .ok (.invokevirtual 68, 3) := by decide +kernel
theorem dX7_feed_42 : decode cX7_feed 42 = .ok (.aload_n 0, 1) := by decide +kernel
theorem dX7_feed_43 : decode cX7_feed 43 = .ok (.getfield 19, 3) := by decide +kernel
theorem dX7_feed_46 : decode cX7_feed 46 = .ok (.iload 4, 2) := by decide +kernel
theorem dX7_feed_48 : decode cX7_feed 48 = .ok (.invokevirtual 68, 3) := by decide +kernel
theorem dX7_feed_51 : decode cX7_feed 51 = .ok (.aload_n 0, 1) := by decide +kernel
theorem dX7_feed_52 : decode cX7_feed 52 = .ok (.getfield 19, 3) := by decide +kernel
theorem dX7_feed_55 : decode cX7_feed 55 = .ok (.iload 5, 2) := by decide +kernel
theorem dX7_feed_57 : decode cX7_feed 57 = .ok (.invokevirtual 68, 3) := by decide +kernel
theorem dX7_feed_60 : decode cX7_feed 60 = .ok (.aload_n 0, 1) := by decide +kernel
theorem dX7_feed_61 : decode cX7_feed 61 = .ok (.getfield 19, 3) := by decide +kernel
theorem dX7_feed_64 : decode cX7_feed 64 = .ok (.getfield 64, 3) := by decide +kernel
theorem dX7_feed_67 : decode cX7_feed 67 = .ok (.ireturn, 1) := by decide +kernel
set_option maxRecDepth 20000 in
theorem ggX7_man_X6_settle : GoodIn wsX7_man wsX6_settle := goodIn_r _ [7, 8, 9, 20, 21, 22, 23] (by decide +kernel) (by decide +kernel)
set_option maxRecDepth 20000 in
theorem gX7_man_X6_settle : GoodIn wsX7_man (wsV RX7 73 RX6 yX6_settle wsX6_settle) := goodIn_app (goodIn_of _ (by decide +kernel)) ggX7_man_X6_settle
theorem dX7_man_0 : decode cX7_man 0 = .ok (.iload_n 1, 1) := by decide +kernel
theorem dX7_man_1 : decode cX7_man 1 = .ok (.ifCond .lt 9, 3) := by decide +kernel
theorem dX7_man_4 : decode cX7_man 4 = .ok (.iload_n 1, 1) := by decide +kernel
theorem dX7_man_5 : decode cX7_man 5 = .ok (.ldc 72, 2) := by decide +kernel
theorem dX7_man_7 : decode cX7_man 7 = .ok (.if_icmp .le 5, 3) := by decide +kernel
theorem dX7_man_10 : decode cX7_man 10 = .ok (.iconst (-1), 1) := by decide +kernel
theorem dX7_man_11 : decode cX7_man 11 = .ok (.ireturn, 1) := by decide +kernel
theorem dX7_man_12 : decode cX7_man 12 = .ok (.aload_n 0, 1) := by decide +kernel
theorem dX7_man_13 : decode cX7_man 13 = .ok (.getfield 10, 3) := by decide +kernel
theorem dX7_man_16 : decode cX7_man 16 = .ok (.iload_n 1, 1) := by decide +kernel
theorem dX7_man_17 : decode cX7_man 17 = .ok (.invokevirtual 73, 3) := by decide +kernel
theorem dX7_man_20 : decode cX7_man 20 = .ok (.ireturn, 1) := by decide +kernel
set_option maxRecDepth 20000 in
theorem ggX7_paper_X6_hasMan : GoodIn wsX7_paper wsX6_hasMan := goodIn_r _ [6, 7, 38, 39, 40, 41] (by decide +kernel) (by decide +kernel)
set_option maxRecDepth 20000 in
theorem gX7_paper_X6_hasMan : GoodIn wsX7_paper (wsV RX7 77 RX6 yX6_hasMan wsX6_hasMan) := goodIn_app (goodIn_of _ (by decide +kernel)) ggX7_paper_X6_hasMan
set_option maxRecDepth 20000 in
theorem ggX7_paper_X3_write : GoodIn wsX7_paper wsX3_write := goodIn_r _ [12, 13, 14, 15, 16, 17, 18, 19, 20, 21, 22, 23, 24, 25, 26, 11, 27, 42, 43, 44, 45, 46, 47, 48, 49, 50, 51, 52] (by decide +kernel) (by decide +kernel)
set_option maxRecDepth 20000 in
theorem gX7_paper_X3_write : GoodIn wsX7_paper (wsV RX7 88 RX3 yX3_write wsX3_write) := goodIn_app (goodIn_of _ (by decide +kernel)) ggX7_paper_X3_write
theorem dX7_paper_0 : decode cX7_paper 0 = .ok (.aload_n 0, 1) := by decide +kernel
theorem dX7_paper_1 : decode cX7_paper 1 = .ok (.getfield 10, 3) := by decide +kernel
theorem dX7_paper_4 : decode cX7_paper 4 = .ok (.iload_n 1, 1) := by decide +kernel
theorem dX7_paper_5 : decode cX7_paper 5 = .ok (.invokevirtual 77, 3) := by decide +kernel
theorem dX7_paper_8 : decode cX7_paper 8 = .ok (.ifCond .eq 19, 3) := by decide +kernel
theorem dX7_paper_11 : decode cX7_paper 11 = .ok (.aload_n 0, 1) := by decide +kernel
theorem dX7_paper_12 : decode cX7_paper 12 = .ok (.getfield 10, 3) := by decide +kernel
theorem dX7_paper_15 : decode cX7_paper 15 = .ok (.iload_n 2, 1) := by decide +kernel
theorem dX7_paper_16 : decode cX7_paper 16 = .ok (.invokevirtual 77, 3) := by decide +kernel
theorem dX7_paper_19 : decode cX7_paper 19 = .ok (.ifCond .eq 8, 3) := by decide +kernel
theorem dX7_paper_22 : decode cX7_paper 22 = .ok (.iload_n 1, 1) := by decide +kernel
theorem dX7_paper_23 : decode cX7_paper 23 = .ok (.iload_n 2, 1) := by decide +kernel
theorem dX7_paper_24 : decode cX7_paper 24 = .ok (.if_icmp .ne 5, 3) := by decide +kernel
theorem dX7_paper_27 : decode cX7_paper 27 = .ok (.iconst (-1), 1) := by decide +kernel
theorem dX7_paper_28 : decode cX7_paper 28 = .ok (.ireturn, 1) := by decide +kernel
theorem dX7_paper_29 : decode cX7_paper 29 = .ok (.iload_n 3, 1) := by decide +kernel
theorem dX7_paper_30 : decode cX7_paper 30 = .ok (.iconst 1, 1) := by decide +kernel
theorem dX7_paper_31 : decode cX7_paper 31 = .ok (.if_icmp .lt 21, 3) := by decide +kernel
theorem dX7_paper_34 : decode cX7_paper 34 = .ok (.iload_n 3, 1) := by decide +kernel
theorem dX7_paper_35 : decode cX7_paper 35 = .ok (.sipush 999, 3) := by decide +kernel
theorem dX7_paper_38 : decode cX7_paper 38 = .ok (.if_icmp .gt 14, 3) := by decide +kernel
theorem dX7_paper_41 : decode cX7_paper 41 = .ok (.iload 4, 2) := by decide +kernel
theorem dX7_paper_43 : decode cX7_paper 43 = .ok (.ifCond .lt 9, 3) := by decide +kernel
theorem dX7_paper_46 : decode cX7_paper 46 = .ok (.iload 4, 2) := by decide +kernel
theorem dX7_paper_48 : decode cX7_paper 48 = .ok (.iconst 4, 1) := by decide +kernel
theorem dX7_paper_49 : decode cX7_paper 49 = .ok (.if_icmp .lt 5, 3) := by decide +kernel
theorem dX7_paper_52 : decode cX7_paper 52 = .ok (.iconst (-1), 1) := by decide +kernel
theorem dX7_paper_53 : decode cX7_paper 53 = .ok (.ireturn, 1) := by decide +kernel
theorem dX7_paper_54 : decode cX7_paper 54 = .ok (.aload_n 0, 1) := by decide +kernel
theorem dX7_paper_55 : decode cX7_paper 55 = .ok (.getfield 10, 3) := by decide +kernel
theorem dX7_paper_58 : decode cX7_paper 58 = .ok (.getfield 81, 3) := by decide +kernel
theorem dX7_paper_61 : decode cX7_paper 61 = .ok (.iload_n 1, 1) := by decide +kernel
theorem dX7_paper_62 : decode cX7_paper 62 = .ok (.iload_n 2, 1) := by decide +kernel
theorem dX7_paper_63 : decode cX7_paper 63 = .ok (.iload_n 3, 1) := by decide +kernel
theorem dX7_paper_64 : decode cX7_paper 64 = .ok (.iload 4, 2) := by decide +kernel
theorem dX7_paper_66 : decode cX7_paper 66 = .ok (.aload_n 0, 1) := by decide +kernel
theorem dX7_paper_67 : decode cX7_paper 67 = .ok (.getfield 10, 3) := by decide +kernel
theorem dX7_paper_70 : decode cX7_paper 70 = .ok (.getfield 85, 3) := by decide +kernel
theorem dX7_paper_73 : decode cX7_paper 73 = .ok (.invokevirtual 88, 3) := by decide +kernel
theorem dX7_paper_76 : decode cX7_paper 76 = .ok (.ireturn, 1) := by decide +kernel
set_option maxRecDepth 20000 in
theorem ggX7_look_X3_holds : GoodIn wsX7_look wsX3_holds := goodIn_r _ [10, 11, 37, 38, 39, 40, 41, 42, 43, 44, 45, 46, 47] (by decide +kernel) (by decide +kernel)
set_option maxRecDepth 20000 in
theorem gX7_look_X3_holds : GoodIn wsX7_look (wsV RX7 94 RX3 yX3_holds wsX3_holds) := goodIn_app (goodIn_of _ (by decide +kernel)) ggX7_look_X3_holds
set_option maxRecDepth 20000 in
theorem ggX7_look_X3_tell : GoodIn wsX7_look wsX3_tell := goodIn_r _ [15, 16, 17, 18, 19, 20, 21, 22, 37, 38, 39, 40, 41, 42, 43, 44, 45, 46, 47] (by decide +kernel) (by decide +kernel)
set_option maxRecDepth 20000 in
theorem gX7_look_X3_tell : GoodIn wsX7_look (wsV RX7 109 RX3 yX3_tell wsX3_tell) := goodIn_app (goodIn_of _ (by decide +kernel)) ggX7_look_X3_tell
theorem dX7_look_0 : decode cX7_look 0 = .ok (.aload_n 0, 1) := by decide +kernel
theorem dX7_look_1 : decode cX7_look 1 = .ok (.getfield 10, 3) := by decide +kernel
theorem dX7_look_4 : decode cX7_look 4 = .ok (.getfield 81, 3) := by decide +kernel
theorem dX7_look_7 : decode cX7_look 7 = .ok (.iload_n 1, 1) := by decide +kernel
theorem dX7_look_8 : decode cX7_look 8 = .ok (.invokevirtual 94, 3) := by decide +kernel
theorem dX7_look_11 : decode cX7_look 11 = .ok (.ifCond .ne 13, 3) := by decide +kernel
theorem dX7_look_14 : decode cX7_look 14 = .ok (.new 97, 3) := by decide +kernel
theorem dX7_look_17 : decode cX7_look 17 = .ok (.dup, 1) := by decide +kernel
theorem dX7_look_18 : decode cX7_look 18 = .ok (.ldc 99, 2) := by decide +kernel
theorem dX7_look_20 : decode cX7_look 20 = .ok (.invokespecial 101, 3) := by decide +kernel
theorem dX7_look_23 : decode cX7_look 23 = .ok (.athrow, 1) := by decide +kernel
theorem dX7_look_24 : decode cX7_look 24 = .ok (.iload_n 2, 1) := by decide +kernel
theorem dX7_look_25 : decode cX7_look 25 = .ok (.ifCond .lt 9, 3) := by decide +kernel
theorem dX7_look_28 : decode cX7_look 28 = .ok (.iload_n 2, 1) := by decide +kernel
theorem dX7_look_29 : decode cX7_look 29 = .ok (.bipush 6, 2) := by decide +kernel
theorem dX7_look_31 : decode cX7_look 31 = .ok (.if_icmp .le 13, 3) := by decide +kernel
theorem dX7_look_34 : decode cX7_look 34 = .ok (.new 104, 3) := by decide +kernel
theorem dX7_look_37 : decode cX7_look 37 = .ok (.dup, 1) := by decide +kernel
theorem dX7_look_38 : decode cX7_look 38 = .ok (.ldc 106, 2) := by decide +kernel
theorem dX7_look_40 : decode cX7_look 40 = .ok (.invokespecial 108, 3) := by decide +kernel
theorem dX7_look_43 : decode cX7_look 43 = .ok (.athrow, 1) := by decide +kernel
theorem dX7_look_44 : decode cX7_look 44 = .ok (.aload_n 0, 1) := by decide +kernel
theorem dX7_look_45 : decode cX7_look 45 = .ok (.getfield 10, 3) := by decide +kernel
theorem dX7_look_48 : decode cX7_look 48 = .ok (.getfield 81, 3) := by decide +kernel
theorem dX7_look_51 : decode cX7_look 51 = .ok (.iload_n 1, 1) := by decide +kernel
theorem dX7_look_52 : decode cX7_look 52 = .ok (.iload_n 2, 1) := by decide +kernel
theorem dX7_look_53 : decode cX7_look 53 = .ok (.invokevirtual 109, 3) := by decide +kernel
theorem dX7_look_56 : decode cX7_look 56 = .ok (.ireturn, 1) := by decide +kernel
theorem dX7_pass_0 : decode cX7_pass 0 = .ok (.iload_n 1, 1) := by decide +kernel
theorem dX7_pass_1 : decode cX7_pass 1 = .ok (.ifCond .lt 18, 3) := by decide +kernel
theorem dX7_pass_4 : decode cX7_pass 4 = .ok (.iload_n 1, 1) := by decide +kernel
theorem dX7_pass_5 : decode cX7_pass 5 = .ok (.sipush 999, 3) := by decide +kernel
theorem dX7_pass_8 : decode cX7_pass 8 = .ok (.aload_n 0, 1) := by decide +kernel
theorem dX7_pass_9 : decode cX7_pass 9 = .ok (.getfield 10, 3) := by decide +kernel
theorem dX7_pass_12 : decode cX7_pass 12 = .ok (.getfield 85, 3) := by decide +kernel
theorem dX7_pass_15 : decode cX7_pass 15 = .ok (.isub, 1) := by decide +kernel
theorem dX7_pass_16 : decode cX7_pass 16 = .ok (.if_icmp .le 5, 3) := by decide +kernel
theorem dX7_pass_19 : decode cX7_pass 19 = .ok (.iconst (-1), 1) := by decide +kernel
theorem dX7_pass_20 : decode cX7_pass 20 = .ok (.ireturn, 1) := by decide +kernel
theorem dX7_pass_21 : decode cX7_pass 21 = .ok (.aload_n 0, 1) := by decide +kernel
theorem dX7_pass_22 : decode cX7_pass 22 = .ok (.getfield 10, 3) := by decide +kernel
theorem dX7_pass_25 : decode cX7_pass 25 = .ok (.dup, 1) := by decide +kernel
theorem dX7_pass_26 : decode cX7_pass 26 = .ok (.getfield 85, 3) := by decide +kernel
theorem dX7_pass_29 : decode cX7_pass 29 = .ok (.iload_n 1, 1) := by decide +kernel
theorem dX7_pass_30 : decode cX7_pass 30 = .ok (.iadd, 1) := by decide +kernel
theorem dX7_pass_31 : decode cX7_pass 31 = .ok (.putfield 85, 3) := by decide +kernel
theorem dX7_pass_34 : decode cX7_pass 34 = .ok (.aload_n 0, 1) := by decide +kernel
theorem dX7_pass_35 : decode cX7_pass 35 = .ok (.getfield 10, 3) := by decide +kernel
theorem dX7_pass_38 : decode cX7_pass 38 = .ok (.getfield 85, 3) := by decide +kernel
theorem dX7_pass_41 : decode cX7_pass 41 = .ok (.ireturn, 1) := by decide +kernel
set_option maxRecDepth 20000 in
theorem ggX7_purse_X6_hasMan : GoodIn wsX7_purse wsX6_hasMan := goodIn_r _ [6, 7, 18, 19, 20, 21] (by decide +kernel) (by decide +kernel)
set_option maxRecDepth 20000 in
theorem gX7_purse_X6_hasMan : GoodIn wsX7_purse (wsV RX7 77 RX6 yX6_hasMan wsX6_hasMan) := goodIn_app (goodIn_of _ (by decide +kernel)) ggX7_purse_X6_hasMan
theorem dX7_purse_0 : decode cX7_purse 0 = .ok (.aload_n 0, 1) := by decide +kernel
theorem dX7_purse_1 : decode cX7_purse 1 = .ok (.getfield 10, 3) := by decide +kernel
theorem dX7_purse_4 : decode cX7_purse 4 = .ok (.iload_n 1, 1) := by decide +kernel
theorem dX7_purse_5 : decode cX7_purse 5 = .ok (.invokevirtual 77, 3) := by decide +kernel
theorem dX7_purse_8 : decode cX7_purse 8 = .ok (.ifCond .eq 15, 3) := by decide +kernel
theorem dX7_purse_11 : decode cX7_purse 11 = .ok (.aload_n 0, 1) := by decide +kernel
theorem dX7_purse_12 : decode cX7_purse 12 = .ok (.getfield 10, 3) := by decide +kernel
theorem dX7_purse_15 : decode cX7_purse 15 = .ok (.getfield 113, 3) := by decide +kernel
theorem dX7_purse_18 : decode cX7_purse 18 = .ok (.iload_n 1, 1) := by decide +kernel
theorem dX7_purse_19 : decode cX7_purse 19 = .ok (.iaload, 1) := by decide +kernel
theorem dX7_purse_20 : decode cX7_purse 20 = .ok (.goto 4, 3) := by decide +kernel
theorem dX7_purse_23 : decode cX7_purse 23 = .ok (.iconst (-1), 1) := by decide +kernel
theorem dX7_purse_24 : decode cX7_purse 24 = .ok (.ireturn, 1) := by decide +kernel
set_option maxRecDepth 20000 in
theorem ggX7_net_X6_hasMan : GoodIn wsX7_net wsX6_hasMan := goodIn_r _ [7, 8, 28, 29, 30, 31] (by decide +kernel) (by decide +kernel)
set_option maxRecDepth 20000 in
theorem gX7_net_X6_hasMan : GoodIn wsX7_net (wsV RX7 77 RX6 yX6_hasMan wsX6_hasMan) := goodIn_app (goodIn_of _ (by decide +kernel)) ggX7_net_X6_hasMan
set_option maxRecDepth 20000 in
theorem ggX7_net_X3_netOf : GoodIn wsX7_net wsX3_netOf := goodIn_r _ [13, 14, 15, 16, 17, 32, 33, 34, 35, 36, 37, 38, 39, 40, 41, 42] (by decide +kernel) (by decide +kernel)
set_option maxRecDepth 20000 in
theorem gX7_net_X3_netOf : GoodIn wsX7_net (wsV RX7 117 RX3 yX3_netOf wsX3_netOf) := goodIn_app (goodIn_of _ (by decide +kernel)) ggX7_net_X3_netOf
theorem dX7_net_0 : decode cX7_net 0 = .ok (.aload_n 0, 1) := by decide +kernel
theorem dX7_net_1 : decode cX7_net 1 = .ok (.getfield 10, 3) := by decide +kernel
theorem dX7_net_4 : decode cX7_net 4 = .ok (.iload_n 1, 1) := by decide +kernel
theorem dX7_net_5 : decode cX7_net 5 = .ok (.invokevirtual 77, 3) := by decide +kernel
theorem dX7_net_8 : decode cX7_net 8 = .ok (.ifCond .eq 17, 3) := by decide +kernel
theorem dX7_net_11 : decode cX7_net 11 = .ok (.aload_n 0, 1) := by decide +kernel
theorem dX7_net_12 : decode cX7_net 12 = .ok (.getfield 10, 3) := by decide +kernel
theorem dX7_net_15 : decode cX7_net 15 = .ok (.getfield 81, 3) := by decide +kernel
theorem dX7_net_18 : decode cX7_net 18 = .ok (.iload_n 1, 1) := by decide +kernel
theorem dX7_net_19 : decode cX7_net 19 = .ok (.invokevirtual 117, 3) := by decide +kernel
theorem dX7_net_22 : decode cX7_net 22 = .ok (.goto 5, 3) := by decide +kernel
theorem dX7_net_25 : decode cX7_net 25 = .ok (.ldc 122, 2) := by decide +kernel
theorem dX7_net_27 : decode cX7_net 27 = .ok (.ireturn, 1) := by decide +kernel
set_option maxRecDepth 20000 in
theorem ggX7_thread_X0_workOut : GoodIn wsX7_thread wsX0_workOut := goodIn_r _ [7, 8, 9, 10, 11, 12, 13, 14, 15, 16, 17, 18, 19, 20, 21, 6, 22, 23, 24, 25, 26, 27, 28, 29, 44, 45, 46, 47, 48, 49, 50, 51, 52, 53, 54, 55, 56, 57, 58, 59, 60, 61, 62, 63] (by decide +kernel) (by decide +kernel)
set_option maxRecDepth 20000 in
theorem gX7_thread_X0_workOut : GoodIn wsX7_thread (wsV RX7 123 RX0 yX0_workOut wsX0_workOut) := goodIn_app (goodIn_of _ (by decide +kernel)) ggX7_thread_X0_workOut
set_option maxRecDepth 20000 in
theorem ggX7_thread_X0_coinsMoved : GoodIn wsX7_thread wsX0_coinsMoved := goodIn_r _ [33, 8, 29, 44, 45, 46, 47, 48] (by decide +kernel) (by decide +kernel)
set_option maxRecDepth 20000 in
theorem gX7_thread_X0_coinsMoved : GoodIn wsX7_thread (wsV RX7 127 RX0 yX0_coinsMoved wsX0_coinsMoved) := goodIn_app (goodIn_of _ (by decide +kernel)) ggX7_thread_X0_coinsMoved
theorem dX7_thread_0 : decode cX7_thread 0 = .ok (.aload_n 0, 1) := by decide +kernel
theorem dX7_thread_1 : decode cX7_thread 1 = .ok (.getfield 33, 3) := by decide +kernel
theorem dX7_thread_4 : decode cX7_thread 4 = .ok (.aload_n 0, 1) := by decide +kernel
theorem dX7_thread_5 : decode cX7_thread 5 = .ok (.getfield 10, 3) := by decide +kernel
theorem dX7_thread_8 : decode cX7_thread 8 = .ok (.invokevirtual 123, 3) := by decide +kernel
theorem dX7_thread_11 : decode cX7_thread 11 = .ok (.aload_n 0, 1) := by decide +kernel
theorem dX7_thread_12 : decode cX7_thread 12 = .ok (.getfield 33, 3) := by decide +kernel
theorem dX7_thread_15 : decode cX7_thread 15 = .ok (.invokevirtual 127, 3) := by decide +kernel
theorem dX7_thread_18 : decode cX7_thread 18 = .ok (.ireturn, 1) := by decide +kernel
set_option maxRecDepth 20000 in
theorem ggX7_move_X0_workOut : GoodIn wsX7_move wsX0_workOut := goodIn_r _ [7, 8, 9, 10, 11, 12, 13, 14, 15, 16, 17, 18, 19, 20, 21, 6, 22, 23, 24, 25, 26, 27, 28, 29, 44, 45, 46, 47, 48, 49, 50, 51, 52, 53, 54, 55, 56, 57, 58, 59, 60, 61, 62, 63] (by decide +kernel) (by decide +kernel)
set_option maxRecDepth 20000 in
theorem gX7_move_X0_workOut : GoodIn wsX7_move (wsV RX7 123 RX0 yX0_workOut wsX0_workOut) := goodIn_app (goodIn_of _ (by decide +kernel)) ggX7_move_X0_workOut
set_option maxRecDepth 20000 in
theorem ggX7_move_X0_tell : GoodIn wsX7_move wsX0_tell := goodIn_r _ [33, 8, 27, 28, 29, 44, 45, 46, 47, 48] (by decide +kernel) (by decide +kernel)
set_option maxRecDepth 20000 in
theorem gX7_move_X0_tell : GoodIn wsX7_move (wsV RX7 131 RX0 yX0_tell wsX0_tell) := goodIn_app (goodIn_of _ (by decide +kernel)) ggX7_move_X0_tell
theorem dX7_move_0 : decode cX7_move 0 = .ok (.aload_n 0, 1) := by decide +kernel
theorem dX7_move_1 : decode cX7_move 1 = .ok (.getfield 33, 3) := by decide +kernel
theorem dX7_move_4 : decode cX7_move 4 = .ok (.aload_n 0, 1) := by decide +kernel
theorem dX7_move_5 : decode cX7_move 5 = .ok (.getfield 10, 3) := by decide +kernel
theorem dX7_move_8 : decode cX7_move 8 = .ok (.invokevirtual 123, 3) := by decide +kernel
theorem dX7_move_11 : decode cX7_move 11 = .ok (.aload_n 0, 1) := by decide +kernel
theorem dX7_move_12 : decode cX7_move 12 = .ok (.getfield 33, 3) := by decide +kernel
theorem dX7_move_15 : decode cX7_move 15 = .ok (.iload_n 1, 1) := by decide +kernel
theorem dX7_move_16 : decode cX7_move 16 = .ok (.iload_n 2, 1) := by decide +kernel
theorem dX7_move_17 : decode cX7_move 17 = .ok (.invokevirtual 131, 3) := by decide +kernel
theorem dX7_move_20 : decode cX7_move 20 = .ok (.ireturn, 1) := by decide +kernel
set_option maxRecDepth 20000 in
theorem ggX7_boat_X6_hasMan : GoodIn wsX7_boat wsX6_hasMan := goodIn_r _ [6, 7, 34, 35, 36, 37] (by decide +kernel) (by decide +kernel)
set_option maxRecDepth 20000 in
theorem gX7_boat_X6_hasMan : GoodIn wsX7_boat (wsV RX7 77 RX6 yX6_hasMan wsX6_hasMan) := goodIn_app (goodIn_of _ (by decide +kernel)) ggX7_boat_X6_hasMan
set_option maxRecDepth 20000 in
theorem ggX7_boat_X6_isCrew : GoodIn wsX7_boat wsX6_isCrew := goodIn_r _ [11, 7, 34, 35, 36, 37] (by decide +kernel) (by decide +kernel)
set_option maxRecDepth 20000 in
theorem gX7_boat_X6_isCrew : GoodIn wsX7_boat (wsV RX7 132 RX6 yX6_isCrew wsX6_isCrew) := goodIn_app (goodIn_of _ (by decide +kernel)) ggX7_boat_X6_isCrew
set_option maxRecDepth 20000 in
theorem ggX7_boat_X6_shareBoat : GoodIn wsX7_boat wsX6_shareBoat := goodIn_r _ [15, 7, 16, 17, 18, 19, 20, 21, 22, 23, 34, 35, 36, 37] (by decide +kernel) (by decide +kernel)
set_option maxRecDepth 20000 in
theorem gX7_boat_X6_shareBoat : GoodIn wsX7_boat (wsV RX7 136 RX6 yX6_shareBoat wsX6_shareBoat) := goodIn_app (goodIn_of _ (by decide +kernel)) ggX7_boat_X6_shareBoat
theorem dX7_boat_0 : decode cX7_boat 0 = .ok (.iload_n 1, 1) := by decide +kernel
theorem dX7_boat_1 : decode cX7_boat 1 = .ok (.ifCond .lt 21, 3) := by decide +kernel
theorem dX7_boat_4 : decode cX7_boat 4 = .ok (.iload_n 1, 1) := by decide +kernel
theorem dX7_boat_5 : decode cX7_boat 5 = .ok (.sipush 9999, 3) := by decide +kernel
theorem dX7_boat_8 : decode cX7_boat 8 = .ok (.if_icmp .gt 14, 3) := by decide +kernel
theorem dX7_boat_11 : decode cX7_boat 11 = .ok (.iload_n 3, 1) := by decide +kernel
theorem dX7_boat_12 : decode cX7_boat 12 = .ok (.iconst 1, 1) := by decide +kernel
theorem dX7_boat_13 : decode cX7_boat 13 = .ok (.if_icmp .lt 9, 3) := by decide +kernel
theorem dX7_boat_16 : decode cX7_boat 16 = .ok (.iload_n 3, 1) := by decide +kernel
theorem dX7_boat_17 : decode cX7_boat 17 = .ok (.bipush 9, 2) := by decide +kernel
theorem dX7_boat_19 : decode cX7_boat 19 = .ok (.if_icmp .le 5, 3) := by decide +kernel
theorem dX7_boat_22 : decode cX7_boat 22 = .ok (.iconst (-1), 1) := by decide +kernel
theorem dX7_boat_23 : decode cX7_boat 23 = .ok (.ireturn, 1) := by decide +kernel
theorem dX7_boat_24 : decode cX7_boat 24 = .ok (.aload_n 0, 1) := by decide +kernel
theorem dX7_boat_25 : decode cX7_boat 25 = .ok (.getfield 10, 3) := by decide +kernel
theorem dX7_boat_28 : decode cX7_boat 28 = .ok (.iload_n 2, 1) := by decide +kernel
theorem dX7_boat_29 : decode cX7_boat 29 = .ok (.invokevirtual 77, 3) := by decide +kernel
theorem dX7_boat_32 : decode cX7_boat 32 = .ok (.ifCond .eq 16, 3) := by decide +kernel
theorem dX7_boat_35 : decode cX7_boat 35 = .ok (.aload_n 0, 1) := by decide +kernel
theorem dX7_boat_36 : decode cX7_boat 36 = .ok (.getfield 10, 3) := by decide +kernel
theorem dX7_boat_39 : decode cX7_boat 39 = .ok (.iload 4, 2) := by decide +kernel
theorem dX7_boat_41 : decode cX7_boat 41 = .ok (.iload_n 2, 1) := by decide +kernel
theorem dX7_boat_42 : decode cX7_boat 42 = .ok (.invokevirtual 132, 3) := by decide +kernel
theorem dX7_boat_45 : decode cX7_boat 45 = .ok (.ifCond .ne 5, 3) := by decide +kernel
theorem dX7_boat_48 : decode cX7_boat 48 = .ok (.iconst (-1), 1) := by decide +kernel
theorem dX7_boat_49 : decode cX7_boat 49 = .ok (.ireturn, 1) := by decide +kernel
theorem dX7_boat_50 : decode cX7_boat 50 = .ok (.aload_n 0, 1) := by decide +kernel
theorem dX7_boat_51 : decode cX7_boat 51 = .ok (.getfield 10, 3) := by decide +kernel
theorem dX7_boat_54 : decode cX7_boat 54 = .ok (.iload_n 1, 1) := by decide +kernel
theorem dX7_boat_55 : decode cX7_boat 55 = .ok (.iload_n 2, 1) := by decide +kernel
theorem dX7_boat_56 : decode cX7_boat 56 = .ok (.iload_n 3, 1) := by decide +kernel
theorem dX7_boat_57 : decode cX7_boat 57 = .ok (.iload 4, 2) := by decide +kernel
theorem dX7_boat_59 : decode cX7_boat 59 = .ok (.invokevirtual 136, 3) := by decide +kernel
theorem dX7_boat_62 : decode cX7_boat 62 = .ok (.ireturn, 1) := by decide +kernel
set_option maxRecDepth 20000 in
theorem ggX7_heir_X6_hasMan : GoodIn wsX7_heir wsX6_hasMan := goodIn_r _ [6, 7, 33, 34, 35, 36] (by decide +kernel) (by decide +kernel)
set_option maxRecDepth 20000 in
theorem gX7_heir_X6_hasMan : GoodIn wsX7_heir (wsV RX7 77 RX6 yX6_hasMan wsX6_hasMan) := goodIn_app (goodIn_of _ (by decide +kernel)) ggX7_heir_X6_hasMan
set_option maxRecDepth 20000 in
theorem ggX7_heir_X6_handOver : GoodIn wsX7_heir wsX6_handOver := goodIn_r _ [11, 12, 13, 14, 15, 16, 17, 18, 19, 20, 21, 22, 33, 34, 35, 36, 37, 38, 39, 40, 41, 42, 43, 44, 45, 46, 47] (by decide +kernel) (by decide +kernel)
set_option maxRecDepth 20000 in
theorem gX7_heir_X6_handOver : GoodIn wsX7_heir (wsV RX7 140 RX6 yX6_handOver wsX6_handOver) := goodIn_app (goodIn_of _ (by decide +kernel)) ggX7_heir_X6_handOver
theorem dX7_heir_0 : decode cX7_heir 0 = .ok (.aload_n 0, 1) := by decide +kernel
theorem dX7_heir_1 : decode cX7_heir 1 = .ok (.getfield 10, 3) := by decide +kernel
theorem dX7_heir_4 : decode cX7_heir 4 = .ok (.iload_n 1, 1) := by decide +kernel
theorem dX7_heir_5 : decode cX7_heir 5 = .ok (.invokevirtual 77, 3) := by decide +kernel
theorem dX7_heir_8 : decode cX7_heir 8 = .ok (.ifCond .eq 19, 3) := by decide +kernel
theorem dX7_heir_11 : decode cX7_heir 11 = .ok (.aload_n 0, 1) := by decide +kernel
theorem dX7_heir_12 : decode cX7_heir 12 = .ok (.getfield 10, 3) := by decide +kernel
theorem dX7_heir_15 : decode cX7_heir 15 = .ok (.iload_n 2, 1) := by decide +kernel
theorem dX7_heir_16 : decode cX7_heir 16 = .ok (.invokevirtual 77, 3) := by decide +kernel
theorem dX7_heir_19 : decode cX7_heir 19 = .ok (.ifCond .eq 8, 3) := by decide +kernel
theorem dX7_heir_22 : decode cX7_heir 22 = .ok (.iload_n 1, 1) := by decide +kernel
theorem dX7_heir_23 : decode cX7_heir 23 = .ok (.iload_n 2, 1) := by decide +kernel
theorem dX7_heir_24 : decode cX7_heir 24 = .ok (.if_icmp .ne 5, 3) := by decide +kernel
theorem dX7_heir_27 : decode cX7_heir 27 = .ok (.iconst 0, 1) := by decide +kernel
theorem dX7_heir_28 : decode cX7_heir 28 = .ok (.ireturn, 1) := by decide +kernel
theorem dX7_heir_29 : decode cX7_heir 29 = .ok (.aload_n 0, 1) := by decide +kernel
theorem dX7_heir_30 : decode cX7_heir 30 = .ok (.getfield 10, 3) := by decide +kernel
theorem dX7_heir_33 : decode cX7_heir 33 = .ok (.iload_n 1, 1) := by decide +kernel
theorem dX7_heir_34 : decode cX7_heir 34 = .ok (.iload_n 2, 1) := by decide +kernel
theorem dX7_heir_35 : decode cX7_heir 35 = .ok (.invokevirtual 140, 3) := by decide +kernel
theorem dX7_heir_38 : decode cX7_heir 38 = .ok (.iconst 1, 1) := by decide +kernel
theorem dX7_heir_39 : decode cX7_heir 39 = .ok (.ireturn, 1) := by decide +kernel
set_option maxRecDepth 20000 in
theorem ggX7_decree_X4_read : GoodIn wsX7_decree wsX4_read := goodIn_r _ [10, 11, 12, 13, 14, 15, 16, 17, 18, 19, 20, 21, 22, 23, 24, 25, 26, 27, 28, 29, 30, 31, 32, 33, 34, 35, 36, 37, 9, 38, 39, 40, 41, 42, 43, 44, 45, 46, 47, 48, 49, 50, 51, 52, 53, 54, 55, 56, 57, 58, 59, 60, 61, 62, 63, 64, 65, 66, 67, 68, 69, 70, 71, 72, 73, 74, 75, 76, 77, 78, 79, 80, 81, 82, 83, 84, 85, 86, 87, 88, 89, 90, 91, 92, 93, 94, 95, 96, 97, 98, 99, 100, 101, 102, 103, 104, 105, 106, 107, 108, 109, 110, 111, 112, 113, 114, 115, 116, 117, 118, 119, 120, 121, 122, 123, 124, 125, 126, 127, 128, 129, 130, 131, 132, 133, 134, 135, 136, 137, 138, 139, 150, 151, 152, 153, 154, 155, 156, 157, 158, 159, 160, 161, 162, 163] (by decide +kernel) (by decide +kernel)
set_option maxRecDepth 20000 in
theorem gX7_decree_X4_read : GoodIn wsX7_decree (wsV RX7 144 RX4 yX4_read wsX4_read) := goodIn_app (goodIn_of _ (by decide +kernel)) ggX7_decree_X4_read
theorem dX7_decree_0 : decode cX7_decree 0 = .ok (.iload_n 1, 1) := by decide +kernel
theorem dX7_decree_1 : decode cX7_decree 1 = .ok (.ifCond .lt 14, 3) := by decide +kernel
theorem dX7_decree_4 : decode cX7_decree 4 = .ok (.iload_n 1, 1) := by decide +kernel
theorem dX7_decree_5 : decode cX7_decree 5 = .ok (.aload_n 0, 1) := by decide +kernel
theorem dX7_decree_6 : decode cX7_decree 6 = .ok (.getfield 19, 3) := by decide +kernel
theorem dX7_decree_9 : decode cX7_decree 9 = .ok (.getfield 64, 3) := by decide +kernel
theorem dX7_decree_12 : decode cX7_decree 12 = .ok (.if_icmp .le 6, 3) := by decide +kernel
theorem dX7_decree_15 : decode cX7_decree 15 = .ok (.bipush (-2), 2) := by decide +kernel
theorem dX7_decree_17 : decode cX7_decree 17 = .ok (.ireturn, 1) := by decide +kernel
theorem dX7_decree_18 : decode cX7_decree 18 = .ok (.aload_n 0, 1) := by decide +kernel
theorem dX7_decree_19 : decode cX7_decree 19 = .ok (.getfield 26, 3) := by decide +kernel
theorem dX7_decree_22 : decode cX7_decree 22 = .ok (.aload_n 0, 1) := by decide +kernel
theorem dX7_decree_23 : decode cX7_decree 23 = .ok (.getfield 19, 3) := by decide +kernel
theorem dX7_decree_26 : decode cX7_decree 26 = .ok (.iload_n 1, 1) := by decide +kernel
theorem dX7_decree_27 : decode cX7_decree 27 = .ok (.aload_n 0, 1) := by decide +kernel
theorem dX7_decree_28 : decode cX7_decree 28 = .ok (.getfield 57, 3) := by decide +kernel
theorem dX7_decree_31 : decode cX7_decree 31 = .ok (.invokevirtual 144, 3) := by decide +kernel
theorem dX7_decree_34 : decode cX7_decree 34 = .ok (.aload_n 0, 1) := by decide +kernel
theorem dX7_decree_35 : decode cX7_decree 35 = .ok (.getfield 19, 3) := by decide +kernel
theorem dX7_decree_38 : decode cX7_decree 38 = .ok (.iconst 0, 1) := by decide +kernel
theorem dX7_decree_39 : decode cX7_decree 39 = .ok (.putfield 64, 3) := by decide +kernel
theorem dX7_decree_42 : decode cX7_decree 42 = .ok (.aload_n 0, 1) := by decide +kernel
theorem dX7_decree_43 : decode cX7_decree 43 = .ok (.getfield 26, 3) := by decide +kernel
theorem dX7_decree_46 : decode cX7_decree 46 = .ok (.getfield 148, 3) := by decide +kernel
theorem dX7_decree_49 : decode cX7_decree 49 = .ok (.ifCond .eq 5, 3) := by decide +kernel
theorem dX7_decree_52 : decode cX7_decree 52 = .ok (.iconst (-1), 1) := by decide +kernel
theorem dX7_decree_53 : decode cX7_decree 53 = .ok (.ireturn, 1) := by decide +kernel
theorem dX7_decree_54 : decode cX7_decree 54 = .ok (.aload_n 0, 1) := by decide +kernel
theorem dX7_decree_55 : decode cX7_decree 55 = .ok (.getfield 54, 3) := by decide +kernel
theorem dX7_decree_58 : decode cX7_decree 58 = .ok (.astore_n 2, 1) := by decide +kernel
theorem dX7_decree_59 : decode cX7_decree 59 = .ok (.aload_n 0, 1) := by decide +kernel
theorem dX7_decree_60 : decode cX7_decree 60 = .ok (.aload_n 0, 1) := by decide +kernel
theorem dX7_decree_61 : decode cX7_decree 61 = .ok (.getfield 57, 3) := by decide +kernel
theorem dX7_decree_64 : decode cX7_decree 64 = .ok (.putfield 54, 3) := by decide +kernel
theorem dX7_decree_67 : decode cX7_decree 67 = .ok (.aload_n 0, 1) := by decide +kernel
theorem dX7_decree_68 : decode cX7_decree 68 = .ok (.aload_n 2, 1) := by decide +kernel
theorem dX7_decree_69 : decode cX7_decree 69 = .ok (.putfield 57, 3) := by decide +kernel
theorem dX7_decree_72 : decode cX7_decree 72 = .ok (.aload_n 0, 1) := by decide +kernel
theorem dX7_decree_73 : decode cX7_decree 73 = .ok (.iconst 1, 1) := by decide +kernel
theorem dX7_decree_74 : decode cX7_decree 74 = .ok (.putfield 60, 3) := by decide +kernel
theorem dX7_decree_77 : decode cX7_decree 77 = .ok (.aload_n 0, 1) := by decide +kernel
theorem dX7_decree_78 : decode cX7_decree 78 = .ok (.getfield 54, 3) := by decide +kernel
end
section
theorem dX7_decree_81 : decode cX7_decree 81 = .ok (.getfield 151, 3) := by decide +kernel
theorem dX7_decree_84 : decode cX7_decree 84 = .ok (.ireturn, 1) := by decide +kernel
theorem dX7_fault_0 : decode cX7_fault 0 = .ok (.iload_n 1, 1) := by decide +kernel
theorem dX7_fault_1 : decode cX7_fault 1 = .ok (.lookupswitch 43 #[(0, 27), (1, 35)], 27) := by decide +kernel
theorem dX7_fault_28 : decode cX7_fault 28 = .ok (.aload_n 0, 1) := by decide +kernel
theorem dX7_fault_29 : decode cX7_fault 29 = .ok (.getfield 26, 3) := by decide +kernel
theorem dX7_fault_32 : decode cX7_fault 32 = .ok (.getfield 148, 3) := by decide +kernel
theorem dX7_fault_35 : decode cX7_fault 35 = .ok (.ireturn, 1) := by decide +kernel
theorem dX7_fault_36 : decode cX7_fault 36 = .ok (.aload_n 0, 1) := by decide +kernel
theorem dX7_fault_37 : decode cX7_fault 37 = .ok (.getfield 26, 3) := by decide +kernel
theorem dX7_fault_40 : decode cX7_fault 40 = .ok (.getfield 154, 3) := by decide +kernel
theorem dX7_fault_43 : decode cX7_fault 43 = .ok (.ireturn, 1) := by decide +kernel
theorem dX7_fault_44 : decode cX7_fault 44 = .ok (.iconst (-1), 1) := by decide +kernel
theorem dX7_fault_45 : decode cX7_fault 45 = .ok (.ireturn, 1) := by decide +kernel
set_option maxRecDepth 20000 in
theorem ggX7_clear_X1_work : GoodIn wsX7_clear wsX1_work := goodIn_r _ [10, 11, 12, 13, 14, 15, 9, 16, 17, 18, 19, 20, 21, 22, 23, 24, 25, 26, 27, 28, 29, 30, 31, 32, 33, 34, 35, 36, 37, 38, 39, 40, 41, 42, 43, 44, 45, 46, 47, 48, 49, 50, 51, 52, 53, 54, 55, 56, 57, 58, 59, 60, 61, 62, 63, 64, 65, 66, 81, 82, 83, 84, 85, 86, 87, 88, 89, 90, 91, 92, 93, 94, 95, 96, 97, 98, 99, 100, 101, 102, 103, 104, 105, 106, 107, 108, 109, 110] (by decide +kernel) (by decide +kernel)
set_option maxRecDepth 20000 in
theorem gX7_clear_X1_work : GoodIn wsX7_clear (wsV RX7 157 RX1 yX1_work wsX1_work) := goodIn_app (goodIn_of _ (by decide +kernel)) ggX7_clear_X1_work
set_option maxRecDepth 20000 in
theorem ggX7_clear_X1_menFailed : GoodIn wsX7_clear wsX1_menFailed := goodIn_r _ [70, 17, 21, 85, 86, 87, 88, 89, 90, 91, 92, 93, 94] (by decide +kernel) (by decide +kernel)
set_option maxRecDepth 20000 in
theorem gX7_clear_X1_menFailed : GoodIn wsX7_clear (wsV RX7 161 RX1 yX1_menFailed wsX1_menFailed) := goodIn_app (goodIn_of _ (by decide +kernel)) ggX7_clear_X1_menFailed
theorem dX7_clear_0 : decode cX7_clear 0 = .ok (.aload_n 0, 1) := by decide +kernel
theorem dX7_clear_1 : decode cX7_clear 1 = .ok (.getfield 47, 3) := by decide +kernel
theorem dX7_clear_4 : decode cX7_clear 4 = .ok (.aload_n 0, 1) := by decide +kernel
theorem dX7_clear_5 : decode cX7_clear 5 = .ok (.getfield 10, 3) := by decide +kernel
theorem dX7_clear_8 : decode cX7_clear 8 = .ok (.iload_n 1, 1) := by decide +kernel
theorem dX7_clear_9 : decode cX7_clear 9 = .ok (.ifCond .eq 17, 3) := by decide +kernel
theorem dX7_clear_12 : decode cX7_clear 12 = .ok (.aload_n 0, 1) := by decide +kernel
theorem dX7_clear_13 : decode cX7_clear 13 = .ok (.getfield 60, 3) := by decide +kernel
theorem dX7_clear_16 : decode cX7_clear 16 = .ok (.ifCond .eq 10, 3) := by decide +kernel
theorem dX7_clear_19 : decode cX7_clear 19 = .ok (.aload_n 0, 1) := by decide +kernel
theorem dX7_clear_20 : decode cX7_clear 20 = .ok (.getfield 54, 3) := by decide +kernel
theorem dX7_clear_23 : decode cX7_clear 23 = .ok (.goto 7, 3) := by decide +kernel
theorem dX7_clear_26 : decode cX7_clear 26 = .ok (.aload_n 0, 1) := by decide +kernel
theorem dX7_clear_27 : decode cX7_clear 27 = .ok (.getfield 40, 3) := by decide +kernel
theorem dX7_clear_30 : decode cX7_clear 30 = .ok (.invokevirtual 157, 3) := by decide +kernel
theorem dX7_clear_33 : decode cX7_clear 33 = .ok (.aload_n 0, 1) := by decide +kernel
theorem dX7_clear_34 : decode cX7_clear 34 = .ok (.getfield 47, 3) := by decide +kernel
theorem dX7_clear_37 : decode cX7_clear 37 = .ok (.invokevirtual 161, 3) := by decide +kernel
theorem dX7_clear_40 : decode cX7_clear 40 = .ok (.ireturn, 1) := by decide +kernel
set_option maxRecDepth 20000 in
theorem ggX7_cleared_X1_tell : GoodIn wsX7_cleared wsX1_tell := goodIn_r _ [6, 7, 8, 9, 10, 11, 12, 23, 24, 25, 26, 27, 28, 29, 30, 31, 32] (by decide +kernel) (by decide +kernel)
set_option maxRecDepth 20000 in
theorem gX7_cleared_X1_tell : GoodIn wsX7_cleared (wsV RX7 164 RX1 yX1_tell wsX1_tell) := goodIn_app (goodIn_of _ (by decide +kernel)) ggX7_cleared_X1_tell
theorem dX7_cleared_0 : decode cX7_cleared 0 = .ok (.aload_n 0, 1) := by decide +kernel
theorem dX7_cleared_1 : decode cX7_cleared 1 = .ok (.getfield 47, 3) := by decide +kernel
theorem dX7_cleared_4 : decode cX7_cleared 4 = .ok (.iload_n 1, 1) := by decide +kernel
theorem dX7_cleared_5 : decode cX7_cleared 5 = .ok (.iload_n 2, 1) := by decide +kernel
theorem dX7_cleared_6 : decode cX7_cleared 6 = .ok (.invokevirtual 164, 3) := by decide +kernel
theorem dX7_cleared_9 : decode cX7_cleared 9 = .ok (.ireturn, 1) := by decide +kernel
set_option maxRecDepth 20000 in
theorem ggX7_enact_X3_obey : GoodIn wsX7_enact wsX3_obey := goodIn_r _ [8, 9, 10, 11, 12, 13, 14, 15, 16, 17, 18, 19, 20, 21, 22, 23, 24, 25, 26, 27, 28, 29, 44, 45, 46, 47, 48, 49, 50, 51, 52, 53, 54, 55, 56, 57, 58, 59] (by decide +kernel) (by decide +kernel)
set_option maxRecDepth 20000 in
theorem gX7_enact_X3_obey : GoodIn wsX7_enact (wsV RX7 165 RX3 yX3_obey wsX3_obey) := goodIn_app (goodIn_of _ (by decide +kernel)) ggX7_enact_X3_obey
theorem dX7_enact_0 : decode cX7_enact 0 = .ok (.aload_n 0, 1) := by decide +kernel
theorem dX7_enact_1 : decode cX7_enact 1 = .ok (.getfield 60, 3) := by decide +kernel
theorem dX7_enact_4 : decode cX7_enact 4 = .ok (.ifCond .ne 5, 3) := by decide +kernel
theorem dX7_enact_7 : decode cX7_enact 7 = .ok (.iconst (-1), 1) := by decide +kernel
theorem dX7_enact_8 : decode cX7_enact 8 = .ok (.ireturn, 1) := by decide +kernel
theorem dX7_enact_9 : decode cX7_enact 9 = .ok (.aload_n 0, 1) := by decide +kernel
theorem dX7_enact_10 : decode cX7_enact 10 = .ok (.iconst 0, 1) := by decide +kernel
theorem dX7_enact_11 : decode cX7_enact 11 = .ok (.putfield 60, 3) := by decide +kernel
theorem dX7_enact_14 : decode cX7_enact 14 = .ok (.aload_n 0, 1) := by decide +kernel
theorem dX7_enact_15 : decode cX7_enact 15 = .ok (.getfield 10, 3) := by decide +kernel
theorem dX7_enact_18 : decode cX7_enact 18 = .ok (.getfield 81, 3) := by decide +kernel
theorem dX7_enact_21 : decode cX7_enact 21 = .ok (.aload_n 0, 1) := by decide +kernel
theorem dX7_enact_22 : decode cX7_enact 22 = .ok (.getfield 54, 3) := by decide +kernel
theorem dX7_enact_25 : decode cX7_enact 25 = .ok (.invokevirtual 165, 3) := by decide +kernel
theorem dX7_enact_28 : decode cX7_enact 28 = .ok (.ireturn, 1) := by decide +kernel
set_option maxRecDepth 20000 in
theorem ggX7_end_X1_work : GoodIn wsX7_end wsX1_work := goodIn_r _ [8, 9, 10, 11, 12, 13, 7, 14, 15, 16, 17, 18, 19, 20, 21, 22, 23, 24, 25, 26, 27, 28, 29, 30, 31, 32, 33, 34, 35, 36, 37, 38, 39, 40, 41, 42, 43, 44, 45, 46, 47, 48, 49, 50, 51, 52, 53, 54, 55, 56, 57, 58, 59, 60, 61, 62, 63, 64, 87, 88, 89, 90, 91, 92, 93, 94, 95, 96, 97, 98, 99, 100, 101, 102, 103, 104, 105, 106, 107, 108, 109, 110, 111, 112, 113, 114, 115, 116] (by decide +kernel) (by decide +kernel)
set_option maxRecDepth 20000 in
theorem gX7_end_X1_work : GoodIn wsX7_end (wsV RX7 157 RX1 yX1_work wsX1_work) := goodIn_app (goodIn_of _ (by decide +kernel)) ggX7_end_X1_work
set_option maxRecDepth 20000 in
theorem ggX7_end_X6_carryOut : GoodIn wsX7_end wsX6_carryOut := goodIn_r _ [69, 70, 71, 72, 87, 88, 89, 90, 91, 92, 93, 94, 95, 96, 97, 98, 99, 100, 101, 102, 103, 104, 105, 106, 107, 108, 109, 110, 111] (by decide +kernel) (by decide +kernel)
set_option maxRecDepth 20000 in
theorem gX7_end_X6_carryOut : GoodIn wsX7_end (wsV RX7 169 RX6 yX6_carryOut wsX6_carryOut) := goodIn_app (goodIn_of _ (by decide +kernel)) ggX7_end_X6_carryOut
set_option maxRecDepth 20000 in
theorem ggX7_end_X1_coinsPaid : GoodIn wsX7_end wsX1_coinsPaid := goodIn_r _ [76, 16, 26, 91, 92, 93, 94, 95, 96, 97, 98, 99, 100] (by decide +kernel) (by decide +kernel)
set_option maxRecDepth 20000 in
theorem gX7_end_X1_coinsPaid : GoodIn wsX7_end (wsV RX7 173 RX1 yX1_coinsPaid wsX1_coinsPaid) := goodIn_app (goodIn_of _ (by decide +kernel)) ggX7_end_X1_coinsPaid
theorem dX7_end_0 : decode cX7_end 0 = .ok (.aload_n 0, 1) := by decide +kernel
theorem dX7_end_1 : decode cX7_end 1 = .ok (.getfield 10, 3) := by decide +kernel
theorem dX7_end_4 : decode cX7_end 4 = .ok (.getfield 85, 3) := by decide +kernel
theorem dX7_end_7 : decode cX7_end 7 = .ok (.sipush 999, 3) := by decide +kernel
theorem dX7_end_10 : decode cX7_end 10 = .ok (.if_icmp .lt 5, 3) := by decide +kernel
theorem dX7_end_13 : decode cX7_end 13 = .ok (.iconst (-1), 1) := by decide +kernel
theorem dX7_end_14 : decode cX7_end 14 = .ok (.ireturn, 1) := by decide +kernel
theorem dX7_end_15 : decode cX7_end 15 = .ok (.aload_n 0, 1) := by decide +kernel
theorem dX7_end_16 : decode cX7_end 16 = .ok (.getfield 51, 3) := by decide +kernel
theorem dX7_end_19 : decode cX7_end 19 = .ok (.aload_n 0, 1) := by decide +kernel
theorem dX7_end_20 : decode cX7_end 20 = .ok (.getfield 10, 3) := by decide +kernel
theorem dX7_end_23 : decode cX7_end 23 = .ok (.aload_n 0, 1) := by decide +kernel
theorem dX7_end_24 : decode cX7_end 24 = .ok (.getfield 40, 3) := by decide +kernel
theorem dX7_end_27 : decode cX7_end 27 = .ok (.invokevirtual 157, 3) := by decide +kernel
theorem dX7_end_30 : decode cX7_end 30 = .ok (.aload_n 0, 1) := by decide +kernel
theorem dX7_end_31 : decode cX7_end 31 = .ok (.getfield 10, 3) := by decide +kernel
theorem dX7_end_34 : decode cX7_end 34 = .ok (.aload_n 0, 1) := by decide +kernel
theorem dX7_end_35 : decode cX7_end 35 = .ok (.getfield 51, 3) := by decide +kernel
theorem dX7_end_38 : decode cX7_end 38 = .ok (.invokevirtual 169, 3) := by decide +kernel
theorem dX7_end_41 : decode cX7_end 41 = .ok (.aload_n 0, 1) := by decide +kernel
theorem dX7_end_42 : decode cX7_end 42 = .ok (.getfield 10, 3) := by decide +kernel
theorem dX7_end_45 : decode cX7_end 45 = .ok (.dup, 1) := by decide +kernel
theorem dX7_end_46 : decode cX7_end 46 = .ok (.getfield 85, 3) := by decide +kernel
theorem dX7_end_49 : decode cX7_end 49 = .ok (.iconst 1, 1) := by decide +kernel
theorem dX7_end_50 : decode cX7_end 50 = .ok (.iadd, 1) := by decide +kernel
theorem dX7_end_51 : decode cX7_end 51 = .ok (.putfield 85, 3) := by decide +kernel
theorem dX7_end_54 : decode cX7_end 54 = .ok (.aload_n 0, 1) := by decide +kernel
theorem dX7_end_55 : decode cX7_end 55 = .ok (.getfield 51, 3) := by decide +kernel
theorem dX7_end_58 : decode cX7_end 58 = .ok (.invokevirtual 173, 3) := by decide +kernel
theorem dX7_end_61 : decode cX7_end 61 = .ok (.ireturn, 1) := by decide +kernel
set_option maxRecDepth 20000 in
theorem ggX7_count_X3_leftInAll : GoodIn wsX7_count wsX3_leftInAll := goodIn_r _ [9, 10, 11, 33, 34, 35, 36, 37, 38, 39, 40, 41, 42, 43] (by decide +kernel) (by decide +kernel)
set_option maxRecDepth 20000 in
theorem gX7_count_X3_leftInAll : GoodIn wsX7_count (wsV RX7 182 RX3 yX3_leftInAll wsX3_leftInAll) := goodIn_app (goodIn_of _ (by decide +kernel)) ggX7_count_X3_leftInAll
set_option maxRecDepth 20000 in
theorem ggX7_count_X6_allPurses : GoodIn wsX7_count wsX6_allPurses := goodIn_r _ [16, 17, 18, 29, 30, 31, 32] (by decide +kernel) (by decide +kernel)
set_option maxRecDepth 20000 in
theorem gX7_count_X6_allPurses : GoodIn wsX7_count (wsV RX7 185 RX6 yX6_allPurses wsX6_allPurses) := goodIn_app (goodIn_of _ (by decide +kernel)) ggX7_count_X6_allPurses
theorem dX7_count_0 : decode cX7_count 0 = .ok (.iload_n 1, 1) := by decide +kernel
theorem dX7_count_1 : decode cX7_count 1 = .ok (.tableswitch 116 0 6 #[43, 51, 62, 70, 81, 89, 97], 43) := by decide +kernel
theorem dX7_count_44 : decode cX7_count 44 = .ok (.aload_n 0, 1) := by decide +kernel
theorem dX7_count_45 : decode cX7_count 45 = .ok (.getfield 10, 3) := by decide +kernel
theorem dX7_count_48 : decode cX7_count 48 = .ok (.getfield 176, 3) := by decide +kernel
theorem dX7_count_51 : decode cX7_count 51 = .ok (.ireturn, 1) := by decide +kernel
theorem dX7_count_52 : decode cX7_count 52 = .ok (.aload_n 0, 1) := by decide +kernel
theorem dX7_count_53 : decode cX7_count 53 = .ok (.getfield 10, 3) := by decide +kernel
theorem dX7_count_56 : decode cX7_count 56 = .ok (.getfield 81, 3) := by decide +kernel
theorem dX7_count_59 : decode cX7_count 59 = .ok (.getfield 179, 3) := by decide +kernel
theorem dX7_count_62 : decode cX7_count 62 = .ok (.ireturn, 1) := by decide +kernel
theorem dX7_count_63 : decode cX7_count 63 = .ok (.aload_n 0, 1) := by decide +kernel
theorem dX7_count_64 : decode cX7_count 64 = .ok (.getfield 10, 3) := by decide +kernel
theorem dX7_count_67 : decode cX7_count 67 = .ok (.getfield 85, 3) := by decide +kernel
theorem dX7_count_70 : decode cX7_count 70 = .ok (.ireturn, 1) := by decide +kernel
theorem dX7_count_71 : decode cX7_count 71 = .ok (.aload_n 0, 1) := by decide +kernel
theorem dX7_count_72 : decode cX7_count 72 = .ok (.getfield 10, 3) := by decide +kernel
theorem dX7_count_75 : decode cX7_count 75 = .ok (.getfield 81, 3) := by decide +kernel
theorem dX7_count_78 : decode cX7_count 78 = .ok (.invokevirtual 182, 3) := by decide +kernel
theorem dX7_count_81 : decode cX7_count 81 = .ok (.ireturn, 1) := by decide +kernel
theorem dX7_count_82 : decode cX7_count 82 = .ok (.aload_n 0, 1) := by decide +kernel
theorem dX7_count_83 : decode cX7_count 83 = .ok (.getfield 10, 3) := by decide +kernel
theorem dX7_count_86 : decode cX7_count 86 = .ok (.invokevirtual 185, 3) := by decide +kernel
theorem dX7_count_89 : decode cX7_count 89 = .ok (.ireturn, 1) := by decide +kernel
theorem dX7_count_90 : decode cX7_count 90 = .ok (.aload_n 0, 1) := by decide +kernel
theorem dX7_count_91 : decode cX7_count 91 = .ok (.getfield 47, 3) := by decide +kernel
theorem dX7_count_94 : decode cX7_count 94 = .ok (.getfield 188, 3) := by decide +kernel
theorem dX7_count_97 : decode cX7_count 97 = .ok (.ireturn, 1) := by decide +kernel
theorem dX7_count_98 : decode cX7_count 98 = .ok (.aload_n 0, 1) := by decide +kernel
theorem dX7_count_99 : decode cX7_count 99 = .ok (.getfield 60, 3) := by decide +kernel
theorem dX7_count_102 : decode cX7_count 102 = .ok (.ifCond .eq 13, 3) := by decide +kernel
theorem dX7_count_105 : decode cX7_count 105 = .ok (.aload_n 0, 1) := by decide +kernel
theorem dX7_count_106 : decode cX7_count 106 = .ok (.getfield 54, 3) := by decide +kernel
theorem dX7_count_109 : decode cX7_count 109 = .ok (.getfield 151, 3) := by decide +kernel
theorem dX7_count_112 : decode cX7_count 112 = .ok (.goto 4, 3) := by decide +kernel
theorem dX7_count_115 : decode cX7_count 115 = .ok (.iconst (-1), 1) := by decide +kernel
theorem dX7_count_116 : decode cX7_count 116 = .ok (.ireturn, 1) := by decide +kernel
theorem dX7_count_117 : decode cX7_count 117 = .ok (.iconst (-1), 1) := by decide +kernel
theorem dX7_count_118 : decode cX7_count 118 = .ok (.ireturn, 1) := by decide +kernel
theorem dX8_init_0 : decode cX8_init 0 = .ok (.aload_n 0, 1) := by decide +kernel
theorem dX8_init_1 : decode cX8_init 1 = .ok (.invokespecial 1, 3) := by decide +kernel
theorem dX8_init_4 : decode cX8_init 4 = .ok (.aload_n 0, 1) := by decide +kernel
theorem dX8_init_5 : decode cX8_init 5 = .ok (.sipush 300, 3) := by decide +kernel
theorem dX8_init_8 : decode cX8_init 8 = .ok (.newarray .int, 2) := by decide +kernel
theorem dX8_init_10 : decode cX8_init 10 = .ok (.putfield 7, 3) := by decide +kernel
theorem dX8_init_13 : decode cX8_init 13 = .ok (.aload_n 0, 1) := by decide +kernel
theorem dX8_init_14 : decode cX8_init 14 = .ok (.bipush 10, 2) := by decide +kernel
theorem dX8_init_16 : decode cX8_init 16 = .ok (.newarray .int, 2) := by decide +kernel
theorem dX8_init_18 : decode cX8_init 18 = .ok (.putfield 13, 3) := by decide +kernel
theorem dX8_init_21 : decode cX8_init 21 = .ok (.aload_n 0, 1) := by decide +kernel
theorem dX8_init_22 : decode cX8_init 22 = .ok (.bipush 40, 2) := by decide +kernel
theorem dX8_init_24 : decode cX8_init 24 = .ok (.newarray .int, 2) := by decide +kernel
theorem dX8_init_26 : decode cX8_init 26 = .ok (.putfield 16, 3) := by decide +kernel
theorem dX8_init_29 : decode cX8_init 29 = .ok (.aload_n 0, 1) := by decide +kernel
theorem dX8_init_30 : decode cX8_init 30 = .ok (.bipush 40, 2) := by decide +kernel
theorem dX8_init_32 : decode cX8_init 32 = .ok (.newarray .int, 2) := by decide +kernel
theorem dX8_init_34 : decode cX8_init 34 = .ok (.putfield 19, 3) := by decide +kernel
theorem dX8_init_37 : decode cX8_init 37 = .ok (.aload_n 0, 1) := by decide +kernel
theorem dX8_init_38 : decode cX8_init 38 = .ok (.bipush 40, 2) := by decide +kernel
theorem dX8_init_40 : decode cX8_init 40 = .ok (.newarray .int, 2) := by decide +kernel
theorem dX8_init_42 : decode cX8_init 42 = .ok (.putfield 22, 3) := by decide +kernel
theorem dX8_init_45 : decode cX8_init 45 = .ok (.aload_n 0, 1) := by decide +kernel
theorem dX8_init_46 : decode cX8_init 46 = .ok (.bipush 40, 2) := by decide +kernel
theorem dX8_init_48 : decode cX8_init 48 = .ok (.newarray .int, 2) := by decide +kernel
theorem dX8_init_50 : decode cX8_init 50 = .ok (.putfield 25, 3) := by decide +kernel
theorem dX8_init_53 : decode cX8_init 53 = .ok (.aload_n 0, 1) := by decide +kernel
theorem dX8_init_54 : decode cX8_init 54 = .ok (.bipush 40, 2) := by decide +kernel
theorem dX8_init_56 : decode cX8_init 56 = .ok (.newarray .int, 2) := by decide +kernel
theorem dX8_init_58 : decode cX8_init 58 = .ok (.putfield 28, 3) := by decide +kernel
theorem dX8_init_61 : decode cX8_init 61 = .ok (.aload_n 0, 1) := by decide +kernel
theorem dX8_init_62 : decode cX8_init 62 = .ok (.bipush 40, 2) := by decide +kernel
theorem dX8_init_64 : decode cX8_init 64 = .ok (.newarray .int, 2) := by decide +kernel
theorem dX8_init_66 : decode cX8_init 66 = .ok (.putfield 31, 3) := by decide +kernel
theorem dX8_init_69 : decode cX8_init 69 = .ok (.aload_n 0, 1) := by decide +kernel
theorem dX8_init_70 : decode cX8_init 70 = .ok (.bipush 40, 2) := by decide +kernel
theorem dX8_init_72 : decode cX8_init 72 = .ok (.newarray .int, 2) := by decide +kernel
theorem dX8_init_74 : decode cX8_init 74 = .ok (.putfield 34, 3) := by decide +kernel
theorem dX8_init_77 : decode cX8_init 77 = .ok (.aload_n 0, 1) := by decide +kernel
theorem dX8_init_78 : decode cX8_init 78 = .ok (.bipush 40, 2) := by decide +kernel
theorem dX8_init_80 : decode cX8_init 80 = .ok (.newarray .int, 2) := by decide +kernel
theorem dX8_init_82 : decode cX8_init 82 = .ok (.putfield 37, 3) := by decide +kernel
theorem dX8_init_85 : decode cX8_init 85 = .ok (.aload_n 0, 1) := by decide +kernel
theorem dX8_init_86 : decode cX8_init 86 = .ok (.bipush 40, 2) := by decide +kernel
theorem dX8_init_88 : decode cX8_init 88 = .ok (.newarray .int, 2) := by decide +kernel
theorem dX8_init_90 : decode cX8_init 90 = .ok (.putfield 40, 3) := by decide +kernel
theorem dX8_init_93 : decode cX8_init 93 = .ok (.aload_n 0, 1) := by decide +kernel
theorem dX8_init_94 : decode cX8_init 94 = .ok (.bipush 40, 2) := by decide +kernel
theorem dX8_init_96 : decode cX8_init 96 = .ok (.newarray .boolean, 2) := by decide +kernel
theorem dX8_init_98 : decode cX8_init 98 = .ok (.putfield 43, 3) := by decide +kernel
theorem dX8_init_101 : decode cX8_init 101 = .ok (.aload_n 0, 1) := by decide +kernel
theorem dX8_init_102 : decode cX8_init 102 = .ok (.bipush 20, 2) := by decide +kernel
theorem dX8_init_104 : decode cX8_init 104 = .ok (.newarray .int, 2) := by decide +kernel
theorem dX8_init_106 : decode cX8_init 106 = .ok (.putfield 47, 3) := by decide +kernel
theorem dX8_init_109 : decode cX8_init 109 = .ok (.aload_n 0, 1) := by decide +kernel
theorem dX8_init_110 : decode cX8_init 110 = .ok (.iconst (-1), 1) := by decide +kernel
theorem dX8_init_111 : decode cX8_init 111 = .ok (.putfield 50, 3) := by decide +kernel
theorem dX8_init_114 : decode cX8_init 114 = .ok (.aload_n 0, 1) := by decide +kernel
theorem dX8_init_115 : decode cX8_init 115 = .ok (.bipush 10, 2) := by decide +kernel
theorem dX8_init_117 : decode cX8_init 117 = .ok (.newarray .int, 2) := by decide +kernel
theorem dX8_init_119 : decode cX8_init 119 = .ok (.putfield 54, 3) := by decide +kernel
theorem dX8_init_122 : decode cX8_init 122 = .ok (.aload_n 0, 1) := by decide +kernel
theorem dX8_init_123 : decode cX8_init 123 = .ok (.bipush 22, 2) := by decide +kernel
theorem dX8_init_125 : decode cX8_init 125 = .ok (.newarray .int, 2) := by decide +kernel
theorem dX8_init_127 : decode cX8_init 127 = .ok (.dup, 1) := by decide +kernel
theorem dX8_init_128 : decode cX8_init 128 = .ok (.iconst 0, 1) := by decide +kernel
theorem dX8_init_129 : decode cX8_init 129 = .ok (.bipush 99, 2) := by decide +kernel
theorem dX8_init_131 : decode cX8_init 131 = .ok (.iastore, 1) := by decide +kernel
theorem dX8_init_132 : decode cX8_init 132 = .ok (.dup, 1) := by decide +kernel
theorem dX8_init_133 : decode cX8_init 133 = .ok (.iconst 1, 1) := by decide +kernel
theorem dX8_init_134 : decode cX8_init 134 = .ok (.bipush 117, 2) := by decide +kernel
theorem dX8_init_136 : decode cX8_init 136 = .ok (.iastore, 1) := by decide +kernel
theorem dX8_init_137 : decode cX8_init 137 = .ok (.dup, 1) := by decide +kernel
theorem dX8_init_138 : decode cX8_init 138 = .ok (.iconst 2, 1) := by decide +kernel
theorem dX8_init_139 : decode cX8_init 139 = .ok (.bipush 116, 2) := by decide +kernel
theorem dX8_init_141 : decode cX8_init 141 = .ok (.iastore, 1) := by decide +kernel
theorem dX8_init_142 : decode cX8_init 142 = .ok (.dup, 1) := by decide +kernel
theorem dX8_init_143 : decode cX8_init 143 = .ok (.iconst 3, 1) := by decide +kernel
theorem dX8_init_144 : decode cX8_init 144 = .ok (.bipush 32, 2) := by decide +kernel
theorem dX8_init_146 : decode cX8_init 146 = .ok (.iastore, 1) := by decide +kernel
theorem dX8_init_147 : decode cX8_init 147 = .ok (.dup, 1) := by decide +kernel
theorem dX8_init_148 : decode cX8_init 148 = .ok (.iconst 4, 1) := by decide +kernel
theorem dX8_init_149 : decode cX8_init 149 = .ok (.bipush 109, 2) := by decide +kernel
theorem dX8_init_151 : decode cX8_init 151 = .ok (.iastore, 1) := by decide +kernel
theorem dX8_init_152 : decode cX8_init 152 = .ok (.dup, 1) := by decide +kernel
theorem dX8_init_153 : decode cX8_init 153 = .ok (.iconst 5, 1) := by decide +kernel
theorem dX8_init_154 : decode cX8_init 154 = .ok (.bipush 111, 2) := by decide +kernel
theorem dX8_init_156 : decode cX8_init 156 = .ok (.iastore, 1) := by decide +kernel
theorem dX8_init_157 : decode cX8_init 157 = .ok (.dup, 1) := by decide +kernel
theorem dX8_init_158 : decode cX8_init 158 = .ok (.bipush 6, 2) := by decide +kernel
theorem dX8_init_160 : decode cX8_init 160 = .ok (.bipush 118, 2) := by decide +kernel
theorem dX8_init_162 : decode cX8_init 162 = .ok (.iastore, 1) := by decide +kernel
theorem dX8_init_163 : decode cX8_init 163 = .ok (.dup, 1) := by decide +kernel
theorem dX8_init_164 : decode cX8_init 164 = .ok (.bipush 7, 2) := by decide +kernel
theorem dX8_init_166 : decode cX8_init 166 = .ok (.bipush 101, 2) := by decide +kernel
theorem dX8_init_168 : decode cX8_init 168 = .ok (.iastore, 1) := by decide +kernel
theorem dX8_init_169 : decode cX8_init 169 = .ok (.dup, 1) := by decide +kernel
theorem dX8_init_170 : decode cX8_init 170 = .ok (.bipush 8, 2) := by decide +kernel
theorem dX8_init_172 : decode cX8_init 172 = .ok (.bipush 32, 2) := by decide +kernel
theorem dX8_init_174 : decode cX8_init 174 = .ok (.iastore, 1) := by decide +kernel
theorem dX8_init_175 : decode cX8_init 175 = .ok (.dup, 1) := by decide +kernel
theorem dX8_init_176 : decode cX8_init 176 = .ok (.bipush 9, 2) := by decide +kernel
theorem dX8_init_178 : decode cX8_init 178 = .ok (.bipush 115, 2) := by decide +kernel
theorem dX8_init_180 : decode cX8_init 180 = .ok (.iastore, 1) := by decide +kernel
theorem dX8_init_181 : decode cX8_init 181 = .ok (.dup, 1) := by decide +kernel
theorem dX8_init_182 : decode cX8_init 182 = .ok (.bipush 10, 2) := by decide +kernel
theorem dX8_init_184 : decode cX8_init 184 = .ok (.bipush 112, 2) := by decide +kernel
theorem dX8_init_186 : decode cX8_init 186 = .ok (.iastore, 1) := by decide +kernel
theorem dX8_init_187 : decode cX8_init 187 = .ok (.dup, 1) := by decide +kernel
theorem dX8_init_188 : decode cX8_init 188 = .ok (.bipush 11, 2) := by decide +kernel
theorem dX8_init_190 : decode cX8_init 190 = .ok (.bipush 97, 2) := by decide +kernel
theorem dX8_init_192 : decode cX8_init 192 = .ok (.iastore, 1) := by decide +kernel
theorem dX8_init_193 : decode cX8_init 193 = .ok (.dup, 1) := by decide +kernel
theorem dX8_init_194 : decode cX8_init 194 = .ok (.bipush 12, 2) := by decide +kernel
theorem dX8_init_196 : decode cX8_init 196 = .ok (.bipush 114, 2) := by decide +kernel
theorem dX8_init_198 : decode cX8_init 198 = .ok (.iastore, 1) := by decide +kernel
theorem dX8_init_199 : decode cX8_init 199 = .ok (.dup, 1) := by decide +kernel
theorem dX8_init_200 : decode cX8_init 200 = .ok (.bipush 13, 2) := by decide +kernel
theorem dX8_init_202 : decode cX8_init 202 = .ok (.bipush 101, 2) := by decide +kernel
theorem dX8_init_204 : decode cX8_init 204 = .ok (.iastore, 1) := by decide +kernel
theorem dX8_init_205 : decode cX8_init 205 = .ok (.dup, 1) := by decide +kernel
theorem dX8_init_206 : decode cX8_init 206 = .ok (.bipush 14, 2) := by decide +kernel
theorem dX8_init_208 : decode cX8_init 208 = .ok (.bipush 32, 2) := by decide +kernel
theorem dX8_init_210 : decode cX8_init 210 = .ok (.iastore, 1) := by decide +kernel
theorem dX8_init_211 : decode cX8_init 211 = .ok (.dup, 1) := by decide +kernel
theorem dX8_init_212 : decode cX8_init 212 = .ok (.bipush 15, 2) := by decide +kernel
theorem dX8_init_214 : decode cX8_init 214 = .ok (.bipush 98, 2) := by decide +kernel
theorem dX8_init_216 : decode cX8_init 216 = .ok (.iastore, 1) := by decide +kernel
theorem dX8_init_217 : decode cX8_init 217 = .ok (.dup, 1) := by decide +kernel
theorem dX8_init_218 : decode cX8_init 218 = .ok (.bipush 16, 2) := by decide +kernel
theorem dX8_init_220 : decode cX8_init 220 = .ok (.bipush 101, 2) := by decide +kernel
theorem dX8_init_222 : decode cX8_init 222 = .ok (.iastore, 1) := by decide +kernel
theorem dX8_init_223 : decode cX8_init 223 = .ok (.dup, 1) := by decide +kernel
theorem dX8_init_224 : decode cX8_init 224 = .ok (.bipush 17, 2) := by decide +kernel
theorem dX8_init_226 : decode cX8_init 226 = .ok (.bipush 102, 2) := by decide +kernel
theorem dX8_init_228 : decode cX8_init 228 = .ok (.iastore, 1) := by decide +kernel
theorem dX8_init_229 : decode cX8_init 229 = .ok (.dup, 1) := by decide +kernel
theorem dX8_init_230 : decode cX8_init 230 = .ok (.bipush 18, 2) := by decide +kernel
theorem dX8_init_232 : decode cX8_init 232 = .ok (.bipush 111, 2) := by decide +kernel
theorem dX8_init_234 : decode cX8_init 234 = .ok (.iastore, 1) := by decide +kernel
theorem dX8_init_235 : decode cX8_init 235 = .ok (.dup, 1) := by decide +kernel
theorem dX8_init_236 : decode cX8_init 236 = .ok (.bipush 19, 2) := by decide +kernel
theorem dX8_init_238 : decode cX8_init 238 = .ok (.bipush 114, 2) := by decide +kernel
theorem dX8_init_240 : decode cX8_init 240 = .ok (.iastore, 1) := by decide +kernel
theorem dX8_init_241 : decode cX8_init 241 = .ok (.dup, 1) := by decide +kernel
theorem dX8_init_242 : decode cX8_init 242 = .ok (.bipush 20, 2) := by decide +kernel
theorem dX8_init_244 : decode cX8_init 244 = .ok (.bipush 101, 2) := by decide +kernel
theorem dX8_init_246 : decode cX8_init 246 = .ok (.iastore, 1) := by decide +kernel
theorem dX8_init_247 : decode cX8_init 247 = .ok (.dup, 1) := by decide +kernel
theorem dX8_init_248 : decode cX8_init 248 = .ok (.bipush 21, 2) := by decide +kernel
theorem dX8_init_250 : decode cX8_init 250 = .ok (.bipush 32, 2) := by decide +kernel
theorem dX8_init_252 : decode cX8_init 252 = .ok (.iastore, 1) := by decide +kernel
theorem dX8_init_253 : decode cX8_init 253 = .ok (.putfield 57, 3) := by decide +kernel
theorem dX8_init_256 : decode cX8_init 256 = .ok (.aload_n 0, 1) := by decide +kernel
theorem dX8_init_257 : decode cX8_init 257 = .ok (.bipush 40, 2) := by decide +kernel
theorem dX8_init_259 : decode cX8_init 259 = .ok (.newarray .int, 2) := by decide +kernel
theorem dX8_init_261 : decode cX8_init 261 = .ok (.putfield 60, 3) := by decide +kernel
theorem dX8_init_264 : decode cX8_init 264 = .ok (.aload_n 0, 1) := by decide +kernel
theorem dX8_init_265 : decode cX8_init 265 = .ok (.bipush 40, 2) := by decide +kernel
theorem dX8_init_267 : decode cX8_init 267 = .ok (.newarray .int, 2) := by decide +kernel
theorem dX8_init_269 : decode cX8_init 269 = .ok (.putfield 63, 3) := by decide +kernel
theorem dX8_init_272 : decode cX8_init 272 = .ok (.aload_n 0, 1) := by decide +kernel
theorem dX8_init_273 : decode cX8_init 273 = .ok (.bipush 40, 2) := by decide +kernel
theorem dX8_init_275 : decode cX8_init 275 = .ok (.newarray .int, 2) := by decide +kernel
theorem dX8_init_277 : decode cX8_init 277 = .ok (.putfield 66, 3) := by decide +kernel
theorem dX8_init_280 : decode cX8_init 280 = .ok (.aload_n 0, 1) := by decide +kernel
theorem dX8_init_281 : decode cX8_init 281 = .ok (.bipush 40, 2) := by decide +kernel
theorem dX8_init_283 : decode cX8_init 283 = .ok (.newarray .int, 2) := by decide +kernel
theorem dX8_init_285 : decode cX8_init 285 = .ok (.putfield 69, 3) := by decide +kernel
theorem dX8_init_288 : decode cX8_init 288 = .ok (.aload_n 0, 1) := by decide +kernel
theorem dX8_init_289 : decode cX8_init 289 = .ok (.bipush 10, 2) := by decide +kernel
theorem dX8_init_291 : decode cX8_init 291 = .ok (.newarray .int, 2) := by decide +kernel
theorem dX8_init_293 : decode cX8_init 293 = .ok (.putfield 72, 3) := by decide +kernel
theorem dX8_init_296 : decode cX8_init 296 = .ok (.aload_n 0, 1) := by decide +kernel
theorem dX8_init_297 : decode cX8_init 297 = .ok (.bipush 40, 2) := by decide +kernel
theorem dX8_init_299 : decode cX8_init 299 = .ok (.newarray .int, 2) := by decide +kernel
theorem dX8_init_301 : decode cX8_init 301 = .ok (.putfield 75, 3) := by decide +kernel
theorem dX8_init_304 : decode cX8_init 304 = .ok (.aload_n 0, 1) := by decide +kernel
theorem dX8_init_305 : decode cX8_init 305 = .ok (.bipush 10, 2) := by decide +kernel
theorem dX8_init_307 : decode cX8_init 307 = .ok (.newarray .int, 2) := by decide +kernel
theorem dX8_init_309 : decode cX8_init 309 = .ok (.putfield 78, 3) := by decide +kernel
theorem dX8_init_312 : decode cX8_init 312 = .ok (.aload_n 0, 1) := by decide +kernel
theorem dX8_init_313 : decode cX8_init 313 = .ok (.bipush 10, 2) := by decide +kernel
theorem dX8_init_315 : decode cX8_init 315 = .ok (.newarray .int, 2) := by decide +kernel
theorem dX8_init_317 : decode cX8_init 317 = .ok (.putfield 81, 3) := by decide +kernel
theorem dX8_init_320 : decode cX8_init 320 = .ok (.aload_n 0, 1) := by decide +kernel
theorem dX8_init_321 : decode cX8_init 321 = .ok (.bipush 10, 2) := by decide +kernel
theorem dX8_init_323 : decode cX8_init 323 = .ok (.newarray .int, 2) := by decide +kernel
theorem dX8_init_325 : decode cX8_init 325 = .ok (.putfield 84, 3) := by decide +kernel
theorem dX8_init_328 : decode cX8_init 328 = .ok (.return_, 1) := by decide +kernel
theorem dX8_thrown_0 : decode cX8_thrown 0 = .ok (.aload_n 0, 1) := by decide +kernel
theorem dX8_thrown_1 : decode cX8_thrown 1 = .ok (.getfield 87, 3) := by decide +kernel
theorem dX8_thrown_4 : decode cX8_thrown 4 = .ok (.ireturn, 1) := by decide +kernel
theorem dX8_feed_0 : decode cX8_feed 0 = .ok (.aload_n 0, 1) := by decide +kernel
theorem dX8_feed_1 : decode cX8_feed 1 = .ok (.iconst 0, 1) := by decide +kernel
theorem dX8_feed_2 : decode cX8_feed 2 = .ok (.putfield 87, 3) := by decide +kernel
theorem dX8_feed_5 : decode cX8_feed 5 = .ok (.aload_n 0, 1) := by decide +kernel
theorem dX8_feed_6 : decode cX8_feed 6 = .ok (.getfield 90, 3) := by decide +kernel
theorem dX8_feed_9 : decode cX8_feed 9 = .ok (.bipush 20, 2) := by decide +kernel
theorem dX8_feed_11 : decode cX8_feed 11 = .ok (.iadd, 1) := by decide +kernel
theorem dX8_feed_12 : decode cX8_feed 12 = .ok (.sipush 300, 3) := by decide +kernel
theorem dX8_feed_15 : decode cX8_feed 15 = .ok (.if_icmp .le 5, 3) := by decide +kernel
theorem dX8_feed_18 : decode cX8_feed 18 = .ok (.iconst (-1), 1) := by decide +kernel
theorem dX8_feed_19 : decode cX8_feed 19 = .ok (.ireturn, 1) := by decide +kernel
theorem dX8_feed_20 : decode cX8_feed 20 = .ok (.iconst 0, 1) := by decide +kernel
theorem dX8_feed_21 : decode cX8_feed 21 = .ok (.istore 6, 2) := by decide +kernel
theorem dX8_feed_23 : decode cX8_feed 23 = .ok (.iload 6, 2) := by decide +kernel
theorem dX8_feed_25 : decode cX8_feed 25 = .ok (.bipush 20, 2) := by decide +kernel
theorem dX8_feed_27 : decode cX8_feed 27 = .ok (.if_icmp .ge 86, 3) := by decide +kernel
theorem dX8_feed_30 : decode cX8_feed 30 = .ok (.iload 6, 2) := by decide +kernel
theorem dX8_feed_32 : decode cX8_feed 32 = .ok (.iconst 4, 1) := by decide +kernel
theorem dX8_feed_33 : decode cX8_feed 33 = .ok (.if_icmp .ge 7, 3) := by decide +kernel
theorem dX8_feed_36 : decode cX8_feed 36 = .ok (.iload_n 1, 1) := by decide +kernel
theorem dX8_feed_37 : decode cX8_feed 37 = .ok (.goto 39, 3) := by decide +kernel
theorem dX8_feed_40 : decode cX8_feed 40 = .ok (.iload 6, 2) := by decide +kernel
theorem dX8_feed_42 : decode cX8_feed 42 = .ok (.bipush 8, 2) := by decide +kernel
theorem dX8_feed_44 : decode cX8_feed 44 = .ok (.if_icmp .ge 7, 3) := by decide +kernel
theorem dX8_feed_47 : decode cX8_feed 47 = .ok (.iload_n 2, 1) := by decide +kernel
theorem dX8_feed_48 : decode cX8_feed 48 = .ok (.goto 28, 3) := by decide +kernel
theorem dX8_feed_51 : decode cX8_feed 51 = .ok (.iload 6, 2) := by decide +kernel
theorem dX8_feed_53 : decode cX8_feed 53 = .ok (.bipush 12, 2) := by decide +kernel
theorem dX8_feed_55 : decode cX8_feed 55 = .ok (.if_icmp .ge 7, 3) := by decide +kernel
theorem dX8_feed_58 : decode cX8_feed 58 = .ok (.iload_n 3, 1) := by decide +kernel
theorem dX8_feed_59 : decode cX8_feed 59 = .ok (.goto 17, 3) := by decide +kernel
theorem dX8_feed_62 : decode cX8_feed 62 = .ok (.iload 6, 2) := by decide +kernel
theorem dX8_feed_64 : decode cX8_feed 64 = .ok (.bipush 16, 2) := by decide +kernel
theorem dX8_feed_66 : decode cX8_feed 66 = .ok (.if_icmp .ge 8, 3) := by decide +kernel
theorem dX8_feed_69 : decode cX8_feed 69 = .ok (.iload 4, 2) := by decide +kernel
theorem dX8_feed_71 : decode cX8_feed 71 = .ok (.goto 5, 3) := by decide +kernel
theorem dX8_feed_74 : decode cX8_feed 74 = .ok (.iload 5, 2) := by decide +kernel
theorem dX8_feed_76 : decode cX8_feed 76 = .ok (.istore 7, 2) := by decide +kernel
theorem dX8_feed_78 : decode cX8_feed 78 = .ok (.aload_n 0, 1) := by decide +kernel
theorem dX8_feed_79 : decode cX8_feed 79 = .ok (.getfield 7, 3) := by decide +kernel
theorem dX8_feed_82 : decode cX8_feed 82 = .ok (.aload_n 0, 1) := by decide +kernel
theorem dX8_feed_83 : decode cX8_feed 83 = .ok (.getfield 90, 3) := by decide +kernel
theorem dX8_feed_86 : decode cX8_feed 86 = .ok (.iload 6, 2) := by decide +kernel
theorem dX8_feed_88 : decode cX8_feed 88 = .ok (.iadd, 1) := by decide +kernel
theorem dX8_feed_89 : decode cX8_feed 89 = .ok (.iload 7, 2) := by decide +kernel
theorem dX8_feed_91 : decode cX8_feed 91 = .ok (.bipush 24, 2) := by decide +kernel
theorem dX8_feed_93 : decode cX8_feed 93 = .ok (.bipush 8, 2) := by decide +kernel
theorem dX8_feed_95 : decode cX8_feed 95 = .ok (.iload 6, 2) := by decide +kernel
theorem dX8_feed_97 : decode cX8_feed 97 = .ok (.iconst 4, 1) := by decide +kernel
theorem dX8_feed_98 : decode cX8_feed 98 = .ok (.irem, 1) := by decide +kernel
theorem dX8_feed_99 : decode cX8_feed 99 = .ok (.imul, 1) := by decide +kernel
theorem dX8_feed_100 : decode cX8_feed 100 = .ok (.isub, 1) := by decide +kernel
theorem dX8_feed_101 : decode cX8_feed 101 = .ok (.ishr, 1) := by decide +kernel
theorem dX8_feed_102 : decode cX8_feed 102 = .ok (.sipush 255, 3) := by decide +kernel
theorem dX8_feed_105 : decode cX8_feed 105 = .ok (.iand, 1) := by decide +kernel
theorem dX8_feed_106 : decode cX8_feed 106 = .ok (.iastore, 1) := by decide +kernel
theorem dX8_feed_107 : decode cX8_feed 107 = .ok (.iinc 6 1, 3) := by decide +kernel
theorem dX8_feed_110 : decode cX8_feed 110 = .ok (.goto (-87), 3) := by decide +kernel
theorem dX8_feed_113 : decode cX8_feed 113 = .ok (.aload_n 0, 1) := by decide +kernel
theorem dX8_feed_114 : decode cX8_feed 114 = .ok (.dup, 1) := by decide +kernel
theorem dX8_feed_115 : decode cX8_feed 115 = .ok (.getfield 90, 3) := by decide +kernel
theorem dX8_feed_118 : decode cX8_feed 118 = .ok (.bipush 20, 2) := by decide +kernel
theorem dX8_feed_120 : decode cX8_feed 120 = .ok (.iadd, 1) := by decide +kernel
theorem dX8_feed_121 : decode cX8_feed 121 = .ok (.putfield 90, 3) := by decide +kernel
theorem dX8_feed_124 : decode cX8_feed 124 = .ok (.aload_n 0, 1) := by decide +kernel
theorem dX8_feed_125 : decode cX8_feed 125 = .ok (.getfield 90, 3) := by decide +kernel
theorem dX8_feed_128 : decode cX8_feed 128 = .ok (.ireturn, 1) := by decide +kernel
theorem dX8_man_0 : decode cX8_man 0 = .ok (.aload_n 0, 1) := by decide +kernel
theorem dX8_man_1 : decode cX8_man 1 = .ok (.iconst 0, 1) := by decide +kernel
theorem dX8_man_2 : decode cX8_man 2 = .ok (.putfield 87, 3) := by decide +kernel
theorem dX8_man_5 : decode cX8_man 5 = .ok (.iload_n 1, 1) := by decide +kernel
theorem dX8_man_6 : decode cX8_man 6 = .ok (.ifCond .lt 18, 3) := by decide +kernel
theorem dX8_man_9 : decode cX8_man 9 = .ok (.iload_n 1, 1) := by decide +kernel
theorem dX8_man_10 : decode cX8_man 10 = .ok (.ldc 93, 2) := by decide +kernel
theorem dX8_man_12 : decode cX8_man 12 = .ok (.if_icmp .gt 12, 3) := by decide +kernel
theorem dX8_man_15 : decode cX8_man 15 = .ok (.aload_n 0, 1) := by decide +kernel
theorem dX8_man_16 : decode cX8_man 16 = .ok (.getfield 94, 3) := by decide +kernel
theorem dX8_man_19 : decode cX8_man 19 = .ok (.bipush 10, 2) := by decide +kernel
theorem dX8_man_21 : decode cX8_man 21 = .ok (.if_icmp .ne 5, 3) := by decide +kernel
theorem dX8_man_24 : decode cX8_man 24 = .ok (.iconst (-1), 1) := by decide +kernel
theorem dX8_man_25 : decode cX8_man 25 = .ok (.ireturn, 1) := by decide +kernel
theorem dX8_man_26 : decode cX8_man 26 = .ok (.aload_n 0, 1) := by decide +kernel
theorem dX8_man_27 : decode cX8_man 27 = .ok (.getfield 13, 3) := by decide +kernel
theorem dX8_man_30 : decode cX8_man 30 = .ok (.aload_n 0, 1) := by decide +kernel
theorem dX8_man_31 : decode cX8_man 31 = .ok (.getfield 94, 3) := by decide +kernel
theorem dX8_man_34 : decode cX8_man 34 = .ok (.iload_n 1, 1) := by decide +kernel
theorem dX8_man_35 : decode cX8_man 35 = .ok (.iastore, 1) := by decide +kernel
theorem dX8_man_36 : decode cX8_man 36 = .ok (.aload_n 0, 1) := by decide +kernel
theorem dX8_man_37 : decode cX8_man 37 = .ok (.dup, 1) := by decide +kernel
theorem dX8_man_38 : decode cX8_man 38 = .ok (.getfield 94, 3) := by decide +kernel
theorem dX8_man_41 : decode cX8_man 41 = .ok (.iconst 1, 1) := by decide +kernel
theorem dX8_man_42 : decode cX8_man 42 = .ok (.iadd, 1) := by decide +kernel
theorem dX8_man_43 : decode cX8_man 43 = .ok (.putfield 94, 3) := by decide +kernel
theorem dX8_man_46 : decode cX8_man 46 = .ok (.aload_n 0, 1) := by decide +kernel
theorem dX8_man_47 : decode cX8_man 47 = .ok (.getfield 94, 3) := by decide +kernel
theorem dX8_man_50 : decode cX8_man 50 = .ok (.iconst 1, 1) := by decide +kernel
theorem dX8_man_51 : decode cX8_man 51 = .ok (.isub, 1) := by decide +kernel
theorem dX8_man_52 : decode cX8_man 52 = .ok (.ireturn, 1) := by decide +kernel
theorem dX8_isMan_0 : decode cX8_isMan 0 = .ok (.iload_n 1, 1) := by decide +kernel
theorem dX8_isMan_1 : decode cX8_isMan 1 = .ok (.ifCond .lt 15, 3) := by decide +kernel
theorem dX8_isMan_4 : decode cX8_isMan 4 = .ok (.iload_n 1, 1) := by decide +kernel
theorem dX8_isMan_5 : decode cX8_isMan 5 = .ok (.aload_n 0, 1) := by decide +kernel
theorem dX8_isMan_6 : decode cX8_isMan 6 = .ok (.getfield 94, 3) := by decide +kernel
theorem dX8_isMan_9 : decode cX8_isMan 9 = .ok (.if_icmp .ge 7, 3) := by decide +kernel
theorem dX8_isMan_12 : decode cX8_isMan 12 = .ok (.iconst 1, 1) := by decide +kernel
theorem dX8_isMan_13 : decode cX8_isMan 13 = .ok (.goto 4, 3) := by decide +kernel
theorem dX8_isMan_16 : decode cX8_isMan 16 = .ok (.iconst 0, 1) := by decide +kernel
theorem dX8_isMan_17 : decode cX8_isMan 17 = .ok (.ireturn, 1) := by decide +kernel
set_option maxRecDepth 20000 in
theorem ggX8_paper_X8_isMan : GoodIn wsX8_paper wsX8_isMan := goodIn_r _ [18, 19, 20, 21, 22, 23, 24, 25, 26, 27, 28, 29, 30, 31, 32, 33, 34, 35, 36, 37, 38, 39, 40, 41, 42, 43, 44, 45, 46, 47, 48, 49, 50, 51, 52, 53, 54, 55, 56, 57, 58, 59, 60, 61, 62, 63] (by decide +kernel) (by decide +kernel)
set_option maxRecDepth 20000 in
theorem gX8_paper_X8_isMan : GoodIn wsX8_paper (wsV RX8 97 RX8 yX8_isMan wsX8_isMan) := goodIn_app (goodIn_of _ (by decide +kernel)) ggX8_paper_X8_isMan
theorem dX8_paper_0 : decode cX8_paper 0 = .ok (.aload_n 0, 1) := by decide +kernel
theorem dX8_paper_1 : decode cX8_paper 1 = .ok (.iconst 0, 1) := by decide +kernel
theorem dX8_paper_2 : decode cX8_paper 2 = .ok (.putfield 87, 3) := by decide +kernel
theorem dX8_paper_5 : decode cX8_paper 5 = .ok (.aload_n 0, 1) := by decide +kernel
theorem dX8_paper_6 : decode cX8_paper 6 = .ok (.iload_n 1, 1) := by decide +kernel
theorem dX8_paper_7 : decode cX8_paper 7 = .ok (.invokevirtual 97, 3) := by decide +kernel
end
section
theorem dX8_paper_10 : decode cX8_paper 10 = .ok (.ifCond .eq 48, 3) := by decide +kernel
theorem dX8_paper_13 : decode cX8_paper 13 = .ok (.aload_n 0, 1) := by decide +kernel
theorem dX8_paper_14 : decode cX8_paper 14 = .ok (.iload_n 2, 1) := by decide +kernel
theorem dX8_paper_15 : decode cX8_paper 15 = .ok (.invokevirtual 97, 3) := by decide +kernel
theorem dX8_paper_18 : decode cX8_paper 18 = .ok (.ifCond .eq 40, 3) := by decide +kernel
theorem dX8_paper_21 : decode cX8_paper 21 = .ok (.iload_n 1, 1) := by decide +kernel
theorem dX8_paper_22 : decode cX8_paper 22 = .ok (.iload_n 2, 1) := by decide +kernel
theorem dX8_paper_23 : decode cX8_paper 23 = .ok (.if_icmp .eq 35, 3) := by decide +kernel
theorem dX8_paper_26 : decode cX8_paper 26 = .ok (.iload_n 3, 1) := by decide +kernel
theorem dX8_paper_27 : decode cX8_paper 27 = .ok (.iconst 1, 1) := by decide +kernel
theorem dX8_paper_28 : decode cX8_paper 28 = .ok (.if_icmp .lt 30, 3) := by decide +kernel
theorem dX8_paper_31 : decode cX8_paper 31 = .ok (.iload_n 3, 1) := by decide +kernel
theorem dX8_paper_32 : decode cX8_paper 32 = .ok (.sipush 999, 3) := by decide +kernel
theorem dX8_paper_35 : decode cX8_paper 35 = .ok (.if_icmp .gt 23, 3) := by decide +kernel
theorem dX8_paper_38 : decode cX8_paper 38 = .ok (.iload 4, 2) := by decide +kernel
theorem dX8_paper_40 : decode cX8_paper 40 = .ok (.ifCond .lt 18, 3) := by decide +kernel
theorem dX8_paper_43 : decode cX8_paper 43 = .ok (.iload 4, 2) := by decide +kernel
theorem dX8_paper_45 : decode cX8_paper 45 = .ok (.iconst 3, 1) := by decide +kernel
theorem dX8_paper_46 : decode cX8_paper 46 = .ok (.if_icmp .gt 12, 3) := by decide +kernel
theorem dX8_paper_49 : decode cX8_paper 49 = .ok (.aload_n 0, 1) := by decide +kernel
theorem dX8_paper_50 : decode cX8_paper 50 = .ok (.getfield 101, 3) := by decide +kernel
theorem dX8_paper_53 : decode cX8_paper 53 = .ok (.bipush 40, 2) := by decide +kernel
theorem dX8_paper_55 : decode cX8_paper 55 = .ok (.if_icmp .ne 5, 3) := by decide +kernel
theorem dX8_paper_58 : decode cX8_paper 58 = .ok (.iconst (-1), 1) := by decide +kernel
theorem dX8_paper_59 : decode cX8_paper 59 = .ok (.ireturn, 1) := by decide +kernel
theorem dX8_paper_60 : decode cX8_paper 60 = .ok (.iconst 0, 1) := by decide +kernel
theorem dX8_paper_61 : decode cX8_paper 61 = .ok (.istore 5, 2) := by decide +kernel
theorem dX8_paper_63 : decode cX8_paper 63 = .ok (.iconst 0, 1) := by decide +kernel
theorem dX8_paper_64 : decode cX8_paper 64 = .ok (.istore 6, 2) := by decide +kernel
theorem dX8_paper_66 : decode cX8_paper 66 = .ok (.iload 6, 2) := by decide +kernel
theorem dX8_paper_68 : decode cX8_paper 68 = .ok (.aload_n 0, 1) := by decide +kernel
theorem dX8_paper_69 : decode cX8_paper 69 = .ok (.getfield 101, 3) := by decide +kernel
theorem dX8_paper_72 : decode cX8_paper 72 = .ok (.if_icmp .ge 80, 3) := by decide +kernel
theorem dX8_paper_75 : decode cX8_paper 75 = .ok (.iload 5, 2) := by decide +kernel
theorem dX8_paper_77 : decode cX8_paper 77 = .ok (.ifCond .ne 62, 3) := by decide +kernel
theorem dX8_paper_80 : decode cX8_paper 80 = .ok (.aload_n 0, 1) := by decide +kernel
theorem dX8_paper_81 : decode cX8_paper 81 = .ok (.getfield 22, 3) := by decide +kernel
theorem dX8_paper_84 : decode cX8_paper 84 = .ok (.iload 6, 2) := by decide +kernel
theorem dX8_paper_86 : decode cX8_paper 86 = .ok (.iaload, 1) := by decide +kernel
theorem dX8_paper_87 : decode cX8_paper 87 = .ok (.iload_n 1, 1) := by decide +kernel
theorem dX8_paper_88 : decode cX8_paper 88 = .ok (.if_icmp .ne 55, 3) := by decide +kernel
theorem dX8_paper_91 : decode cX8_paper 91 = .ok (.aload_n 0, 1) := by decide +kernel
theorem dX8_paper_92 : decode cX8_paper 92 = .ok (.getfield 25, 3) := by decide +kernel
theorem dX8_paper_95 : decode cX8_paper 95 = .ok (.iload 6, 2) := by decide +kernel
theorem dX8_paper_97 : decode cX8_paper 97 = .ok (.iaload, 1) := by decide +kernel
theorem dX8_paper_98 : decode cX8_paper 98 = .ok (.iload_n 2, 1) := by decide +kernel
theorem dX8_paper_99 : decode cX8_paper 99 = .ok (.if_icmp .ne 44, 3) := by decide +kernel
theorem dX8_paper_102 : decode cX8_paper 102 = .ok (.aload_n 0, 1) := by decide +kernel
theorem dX8_paper_103 : decode cX8_paper 103 = .ok (.getfield 31, 3) := by decide +kernel
theorem dX8_paper_106 : decode cX8_paper 106 = .ok (.iload 6, 2) := by decide +kernel
theorem dX8_paper_108 : decode cX8_paper 108 = .ok (.iaload, 1) := by decide +kernel
theorem dX8_paper_109 : decode cX8_paper 109 = .ok (.iload_n 3, 1) := by decide +kernel
theorem dX8_paper_110 : decode cX8_paper 110 = .ok (.if_icmp .ne 33, 3) := by decide +kernel
theorem dX8_paper_113 : decode cX8_paper 113 = .ok (.aload_n 0, 1) := by decide +kernel
theorem dX8_paper_114 : decode cX8_paper 114 = .ok (.getfield 28, 3) := by decide +kernel
theorem dX8_paper_117 : decode cX8_paper 117 = .ok (.iload 6, 2) := by decide +kernel
theorem dX8_paper_119 : decode cX8_paper 119 = .ok (.iaload, 1) := by decide +kernel
theorem dX8_paper_120 : decode cX8_paper 120 = .ok (.iload 4, 2) := by decide +kernel
theorem dX8_paper_122 : decode cX8_paper 122 = .ok (.if_icmp .ne 21, 3) := by decide +kernel
theorem dX8_paper_125 : decode cX8_paper 125 = .ok (.aload_n 0, 1) := by decide +kernel
theorem dX8_paper_126 : decode cX8_paper 126 = .ok (.getfield 40, 3) := by decide +kernel
theorem dX8_paper_129 : decode cX8_paper 129 = .ok (.iload 6, 2) := by decide +kernel
theorem dX8_paper_131 : decode cX8_paper 131 = .ok (.iaload, 1) := by decide +kernel
theorem dX8_paper_132 : decode cX8_paper 132 = .ok (.aload_n 0, 1) := by decide +kernel
theorem dX8_paper_133 : decode cX8_paper 133 = .ok (.getfield 104, 3) := by decide +kernel
theorem dX8_paper_136 : decode cX8_paper 136 = .ok (.if_icmp .ne 7, 3) := by decide +kernel
theorem dX8_paper_139 : decode cX8_paper 139 = .ok (.iconst 1, 1) := by decide +kernel
theorem dX8_paper_140 : decode cX8_paper 140 = .ok (.goto 4, 3) := by decide +kernel
theorem dX8_paper_143 : decode cX8_paper 143 = .ok (.iconst 0, 1) := by decide +kernel
theorem dX8_paper_144 : decode cX8_paper 144 = .ok (.istore 5, 2) := by decide +kernel
theorem dX8_paper_146 : decode cX8_paper 146 = .ok (.iinc 6 1, 3) := by decide +kernel
theorem dX8_paper_149 : decode cX8_paper 149 = .ok (.goto (-83), 3) := by decide +kernel
theorem dX8_paper_152 : decode cX8_paper 152 = .ok (.aload_n 0, 1) := by decide +kernel
theorem dX8_paper_153 : decode cX8_paper 153 = .ok (.getfield 16, 3) := by decide +kernel
theorem dX8_paper_156 : decode cX8_paper 156 = .ok (.aload_n 0, 1) := by decide +kernel
theorem dX8_paper_157 : decode cX8_paper 157 = .ok (.getfield 101, 3) := by decide +kernel
theorem dX8_paper_160 : decode cX8_paper 160 = .ok (.iload_n 1, 1) := by decide +kernel
theorem dX8_paper_161 : decode cX8_paper 161 = .ok (.iastore, 1) := by decide +kernel
theorem dX8_paper_162 : decode cX8_paper 162 = .ok (.aload_n 0, 1) := by decide +kernel
theorem dX8_paper_163 : decode cX8_paper 163 = .ok (.getfield 19, 3) := by decide +kernel
theorem dX8_paper_166 : decode cX8_paper 166 = .ok (.aload_n 0, 1) := by decide +kernel
theorem dX8_paper_167 : decode cX8_paper 167 = .ok (.getfield 101, 3) := by decide +kernel
theorem dX8_paper_170 : decode cX8_paper 170 = .ok (.iload_n 2, 1) := by decide +kernel
theorem dX8_paper_171 : decode cX8_paper 171 = .ok (.iastore, 1) := by decide +kernel
theorem dX8_paper_172 : decode cX8_paper 172 = .ok (.aload_n 0, 1) := by decide +kernel
theorem dX8_paper_173 : decode cX8_paper 173 = .ok (.getfield 22, 3) := by decide +kernel
theorem dX8_paper_176 : decode cX8_paper 176 = .ok (.aload_n 0, 1) := by decide +kernel
theorem dX8_paper_177 : decode cX8_paper 177 = .ok (.getfield 101, 3) := by decide +kernel
theorem dX8_paper_180 : decode cX8_paper 180 = .ok (.iload_n 1, 1) := by decide +kernel
theorem dX8_paper_181 : decode cX8_paper 181 = .ok (.iastore, 1) := by decide +kernel
theorem dX8_paper_182 : decode cX8_paper 182 = .ok (.aload_n 0, 1) := by decide +kernel
theorem dX8_paper_183 : decode cX8_paper 183 = .ok (.getfield 25, 3) := by decide +kernel
theorem dX8_paper_186 : decode cX8_paper 186 = .ok (.aload_n 0, 1) := by decide +kernel
theorem dX8_paper_187 : decode cX8_paper 187 = .ok (.getfield 101, 3) := by decide +kernel
theorem dX8_paper_190 : decode cX8_paper 190 = .ok (.iload_n 2, 1) := by decide +kernel
theorem dX8_paper_191 : decode cX8_paper 191 = .ok (.iastore, 1) := by decide +kernel
theorem dX8_paper_192 : decode cX8_paper 192 = .ok (.aload_n 0, 1) := by decide +kernel
theorem dX8_paper_193 : decode cX8_paper 193 = .ok (.getfield 28, 3) := by decide +kernel
theorem dX8_paper_196 : decode cX8_paper 196 = .ok (.aload_n 0, 1) := by decide +kernel
theorem dX8_paper_197 : decode cX8_paper 197 = .ok (.getfield 101, 3) := by decide +kernel
theorem dX8_paper_200 : decode cX8_paper 200 = .ok (.iload 4, 2) := by decide +kernel
theorem dX8_paper_202 : decode cX8_paper 202 = .ok (.iastore, 1) := by decide +kernel
theorem dX8_paper_203 : decode cX8_paper 203 = .ok (.aload_n 0, 1) := by decide +kernel
theorem dX8_paper_204 : decode cX8_paper 204 = .ok (.getfield 31, 3) := by decide +kernel
theorem dX8_paper_207 : decode cX8_paper 207 = .ok (.aload_n 0, 1) := by decide +kernel
theorem dX8_paper_208 : decode cX8_paper 208 = .ok (.getfield 101, 3) := by decide +kernel
theorem dX8_paper_211 : decode cX8_paper 211 = .ok (.iload_n 3, 1) := by decide +kernel
theorem dX8_paper_212 : decode cX8_paper 212 = .ok (.iastore, 1) := by decide +kernel
theorem dX8_paper_213 : decode cX8_paper 213 = .ok (.aload_n 0, 1) := by decide +kernel
theorem dX8_paper_214 : decode cX8_paper 214 = .ok (.getfield 34, 3) := by decide +kernel
theorem dX8_paper_217 : decode cX8_paper 217 = .ok (.aload_n 0, 1) := by decide +kernel
theorem dX8_paper_218 : decode cX8_paper 218 = .ok (.getfield 101, 3) := by decide +kernel
theorem dX8_paper_221 : decode cX8_paper 221 = .ok (.iload 4, 2) := by decide +kernel
theorem dX8_paper_223 : decode cX8_paper 223 = .ok (.iastore, 1) := by decide +kernel
theorem dX8_paper_224 : decode cX8_paper 224 = .ok (.aload_n 0, 1) := by decide +kernel
theorem dX8_paper_225 : decode cX8_paper 225 = .ok (.getfield 37, 3) := by decide +kernel
theorem dX8_paper_228 : decode cX8_paper 228 = .ok (.aload_n 0, 1) := by decide +kernel
theorem dX8_paper_229 : decode cX8_paper 229 = .ok (.getfield 101, 3) := by decide +kernel
theorem dX8_paper_232 : decode cX8_paper 232 = .ok (.iload 5, 2) := by decide +kernel
theorem dX8_paper_234 : decode cX8_paper 234 = .ok (.ifCond .eq 7, 3) := by decide +kernel
theorem dX8_paper_237 : decode cX8_paper 237 = .ok (.iconst 0, 1) := by decide +kernel
theorem dX8_paper_238 : decode cX8_paper 238 = .ok (.goto 4, 3) := by decide +kernel
theorem dX8_paper_241 : decode cX8_paper 241 = .ok (.iload_n 3, 1) := by decide +kernel
theorem dX8_paper_242 : decode cX8_paper 242 = .ok (.iastore, 1) := by decide +kernel
theorem dX8_paper_243 : decode cX8_paper 243 = .ok (.aload_n 0, 1) := by decide +kernel
theorem dX8_paper_244 : decode cX8_paper 244 = .ok (.getfield 40, 3) := by decide +kernel
theorem dX8_paper_247 : decode cX8_paper 247 = .ok (.aload_n 0, 1) := by decide +kernel
theorem dX8_paper_248 : decode cX8_paper 248 = .ok (.getfield 101, 3) := by decide +kernel
theorem dX8_paper_251 : decode cX8_paper 251 = .ok (.aload_n 0, 1) := by decide +kernel
theorem dX8_paper_252 : decode cX8_paper 252 = .ok (.getfield 104, 3) := by decide +kernel
theorem dX8_paper_255 : decode cX8_paper 255 = .ok (.iastore, 1) := by decide +kernel
theorem dX8_paper_256 : decode cX8_paper 256 = .ok (.aload_n 0, 1) := by decide +kernel
theorem dX8_paper_257 : decode cX8_paper 257 = .ok (.getfield 43, 3) := by decide +kernel
theorem dX8_paper_260 : decode cX8_paper 260 = .ok (.aload_n 0, 1) := by decide +kernel
theorem dX8_paper_261 : decode cX8_paper 261 = .ok (.getfield 101, 3) := by decide +kernel
theorem dX8_paper_264 : decode cX8_paper 264 = .ok (.iload 5, 2) := by decide +kernel
theorem dX8_paper_266 : decode cX8_paper 266 = .ok (.bastore, 1) := by decide +kernel
theorem dX8_paper_267 : decode cX8_paper 267 = .ok (.aload_n 0, 1) := by decide +kernel
theorem dX8_paper_268 : decode cX8_paper 268 = .ok (.dup, 1) := by decide +kernel
theorem dX8_paper_269 : decode cX8_paper 269 = .ok (.getfield 101, 3) := by decide +kernel
theorem dX8_paper_272 : decode cX8_paper 272 = .ok (.iconst 1, 1) := by decide +kernel
theorem dX8_paper_273 : decode cX8_paper 273 = .ok (.iadd, 1) := by decide +kernel
theorem dX8_paper_274 : decode cX8_paper 274 = .ok (.putfield 101, 3) := by decide +kernel
theorem dX8_paper_277 : decode cX8_paper 277 = .ok (.aload_n 0, 1) := by decide +kernel
theorem dX8_paper_278 : decode cX8_paper 278 = .ok (.getfield 101, 3) := by decide +kernel
theorem dX8_paper_281 : decode cX8_paper 281 = .ok (.iconst 1, 1) := by decide +kernel
theorem dX8_paper_282 : decode cX8_paper 282 = .ok (.isub, 1) := by decide +kernel
theorem dX8_paper_283 : decode cX8_paper 283 = .ok (.ireturn, 1) := by decide +kernel
theorem dX8_fails_0 : decode cX8_fails 0 = .ok (.aload_n 0, 1) := by decide +kernel
theorem dX8_fails_1 : decode cX8_fails 1 = .ok (.iload_n 1, 1) := by decide +kernel
theorem dX8_fails_2 : decode cX8_fails 2 = .ok (.putfield 87, 3) := by decide +kernel
theorem dX8_fails_5 : decode cX8_fails 5 = .ok (.iconst 0, 1) := by decide +kernel
theorem dX8_fails_6 : decode cX8_fails 6 = .ok (.ireturn, 1) := by decide +kernel
set_option maxRecDepth 20000 in
theorem ggX8_look_X8_fails : GoodIn wsX8_look wsX8_fails := goodIn_r _ [14, 1, 15, 16, 17, 18, 19, 20, 21, 22, 23, 24, 25, 26, 27, 28, 29, 30, 31, 32, 33, 34, 35, 36, 37, 38, 39, 40, 41, 42, 43, 44, 45, 46, 47, 48, 49, 50, 51, 52, 53, 54, 55, 56, 57, 58] (by decide +kernel) (by decide +kernel)
set_option maxRecDepth 20000 in
theorem gX8_look_X8_fails : GoodIn wsX8_look (wsV RX8 107 RX8 yX8_fails wsX8_fails) := goodIn_app (goodIn_of _ (by decide +kernel)) ggX8_look_X8_fails
theorem dX8_look_0 : decode cX8_look 0 = .ok (.aload_n 0, 1) := by decide +kernel
theorem dX8_look_1 : decode cX8_look 1 = .ok (.iconst 0, 1) := by decide +kernel
theorem dX8_look_2 : decode cX8_look 2 = .ok (.putfield 87, 3) := by decide +kernel
theorem dX8_look_5 : decode cX8_look 5 = .ok (.iload_n 1, 1) := by decide +kernel
theorem dX8_look_6 : decode cX8_look 6 = .ok (.ifCond .lt 11, 3) := by decide +kernel
theorem dX8_look_9 : decode cX8_look 9 = .ok (.iload_n 1, 1) := by decide +kernel
theorem dX8_look_10 : decode cX8_look 10 = .ok (.aload_n 0, 1) := by decide +kernel
theorem dX8_look_11 : decode cX8_look 11 = .ok (.getfield 101, 3) := by decide +kernel
theorem dX8_look_14 : decode cX8_look 14 = .ok (.if_icmp .lt 9, 3) := by decide +kernel
theorem dX8_look_17 : decode cX8_look 17 = .ok (.aload_n 0, 1) := by decide +kernel
theorem dX8_look_18 : decode cX8_look 18 = .ok (.iconst 1, 1) := by decide +kernel
theorem dX8_look_19 : decode cX8_look 19 = .ok (.invokevirtual 107, 3) := by decide +kernel
theorem dX8_look_22 : decode cX8_look 22 = .ok (.ireturn, 1) := by decide +kernel
theorem dX8_look_23 : decode cX8_look 23 = .ok (.iload_n 2, 1) := by decide +kernel
theorem dX8_look_24 : decode cX8_look 24 = .ok (.tableswitch 101 0 6 #[44, 51, 58, 65, 72, 79, 86], 44) := by decide +kernel
theorem dX8_look_68 : decode cX8_look 68 = .ok (.aload_n 0, 1) := by decide +kernel
theorem dX8_look_69 : decode cX8_look 69 = .ok (.getfield 16, 3) := by decide +kernel
theorem dX8_look_72 : decode cX8_look 72 = .ok (.iload_n 1, 1) := by decide +kernel
theorem dX8_look_73 : decode cX8_look 73 = .ok (.iaload, 1) := by decide +kernel
theorem dX8_look_74 : decode cX8_look 74 = .ok (.ireturn, 1) := by decide +kernel
theorem dX8_look_75 : decode cX8_look 75 = .ok (.aload_n 0, 1) := by decide +kernel
theorem dX8_look_76 : decode cX8_look 76 = .ok (.getfield 19, 3) := by decide +kernel
theorem dX8_look_79 : decode cX8_look 79 = .ok (.iload_n 1, 1) := by decide +kernel
theorem dX8_look_80 : decode cX8_look 80 = .ok (.iaload, 1) := by decide +kernel
theorem dX8_look_81 : decode cX8_look 81 = .ok (.ireturn, 1) := by decide +kernel
theorem dX8_look_82 : decode cX8_look 82 = .ok (.aload_n 0, 1) := by decide +kernel
theorem dX8_look_83 : decode cX8_look 83 = .ok (.getfield 31, 3) := by decide +kernel
theorem dX8_look_86 : decode cX8_look 86 = .ok (.iload_n 1, 1) := by decide +kernel
theorem dX8_look_87 : decode cX8_look 87 = .ok (.iaload, 1) := by decide +kernel
theorem dX8_look_88 : decode cX8_look 88 = .ok (.ireturn, 1) := by decide +kernel
theorem dX8_look_89 : decode cX8_look 89 = .ok (.aload_n 0, 1) := by decide +kernel
theorem dX8_look_90 : decode cX8_look 90 = .ok (.getfield 34, 3) := by decide +kernel
theorem dX8_look_93 : decode cX8_look 93 = .ok (.iload_n 1, 1) := by decide +kernel
theorem dX8_look_94 : decode cX8_look 94 = .ok (.iaload, 1) := by decide +kernel
theorem dX8_look_95 : decode cX8_look 95 = .ok (.ireturn, 1) := by decide +kernel
theorem dX8_look_96 : decode cX8_look 96 = .ok (.aload_n 0, 1) := by decide +kernel
theorem dX8_look_97 : decode cX8_look 97 = .ok (.getfield 37, 3) := by decide +kernel
theorem dX8_look_100 : decode cX8_look 100 = .ok (.iload_n 1, 1) := by decide +kernel
theorem dX8_look_101 : decode cX8_look 101 = .ok (.iaload, 1) := by decide +kernel
theorem dX8_look_102 : decode cX8_look 102 = .ok (.ireturn, 1) := by decide +kernel
theorem dX8_look_103 : decode cX8_look 103 = .ok (.aload_n 0, 1) := by decide +kernel
theorem dX8_look_104 : decode cX8_look 104 = .ok (.getfield 40, 3) := by decide +kernel
theorem dX8_look_107 : decode cX8_look 107 = .ok (.iload_n 1, 1) := by decide +kernel
theorem dX8_look_108 : decode cX8_look 108 = .ok (.iaload, 1) := by decide +kernel
theorem dX8_look_109 : decode cX8_look 109 = .ok (.ireturn, 1) := by decide +kernel
theorem dX8_look_110 : decode cX8_look 110 = .ok (.aload_n 0, 1) := by decide +kernel
theorem dX8_look_111 : decode cX8_look 111 = .ok (.getfield 43, 3) := by decide +kernel
theorem dX8_look_114 : decode cX8_look 114 = .ok (.iload_n 1, 1) := by decide +kernel
theorem dX8_look_115 : decode cX8_look 115 = .ok (.baload, 1) := by decide +kernel
theorem dX8_look_116 : decode cX8_look 116 = .ok (.ifCond .eq 7, 3) := by decide +kernel
theorem dX8_look_119 : decode cX8_look 119 = .ok (.iconst 1, 1) := by decide +kernel
theorem dX8_look_120 : decode cX8_look 120 = .ok (.goto 4, 3) := by decide +kernel
theorem dX8_look_123 : decode cX8_look 123 = .ok (.iconst 0, 1) := by decide +kernel
theorem dX8_look_124 : decode cX8_look 124 = .ok (.ireturn, 1) := by decide +kernel
theorem dX8_look_125 : decode cX8_look 125 = .ok (.aload_n 0, 1) := by decide +kernel
theorem dX8_look_126 : decode cX8_look 126 = .ok (.iconst 2, 1) := by decide +kernel
theorem dX8_look_127 : decode cX8_look 127 = .ok (.invokevirtual 107, 3) := by decide +kernel
theorem dX8_look_130 : decode cX8_look 130 = .ok (.ireturn, 1) := by decide +kernel
theorem dX8_pass_0 : decode cX8_pass 0 = .ok (.aload_n 0, 1) := by decide +kernel
theorem dX8_pass_1 : decode cX8_pass 1 = .ok (.iconst 0, 1) := by decide +kernel
theorem dX8_pass_2 : decode cX8_pass 2 = .ok (.putfield 87, 3) := by decide +kernel
theorem dX8_pass_5 : decode cX8_pass 5 = .ok (.iload_n 1, 1) := by decide +kernel
theorem dX8_pass_6 : decode cX8_pass 6 = .ok (.ifCond .lt 15, 3) := by decide +kernel
theorem dX8_pass_9 : decode cX8_pass 9 = .ok (.iload_n 1, 1) := by decide +kernel
theorem dX8_pass_10 : decode cX8_pass 10 = .ok (.sipush 999, 3) := by decide +kernel
theorem dX8_pass_13 : decode cX8_pass 13 = .ok (.aload_n 0, 1) := by decide +kernel
theorem dX8_pass_14 : decode cX8_pass 14 = .ok (.getfield 104, 3) := by decide +kernel
theorem dX8_pass_17 : decode cX8_pass 17 = .ok (.isub, 1) := by decide +kernel
theorem dX8_pass_18 : decode cX8_pass 18 = .ok (.if_icmp .le 5, 3) := by decide +kernel
theorem dX8_pass_21 : decode cX8_pass 21 = .ok (.iconst (-1), 1) := by decide +kernel
theorem dX8_pass_22 : decode cX8_pass 22 = .ok (.ireturn, 1) := by decide +kernel
theorem dX8_pass_23 : decode cX8_pass 23 = .ok (.aload_n 0, 1) := by decide +kernel
theorem dX8_pass_24 : decode cX8_pass 24 = .ok (.dup, 1) := by decide +kernel
theorem dX8_pass_25 : decode cX8_pass 25 = .ok (.getfield 104, 3) := by decide +kernel
theorem dX8_pass_28 : decode cX8_pass 28 = .ok (.iload_n 1, 1) := by decide +kernel
theorem dX8_pass_29 : decode cX8_pass 29 = .ok (.iadd, 1) := by decide +kernel
theorem dX8_pass_30 : decode cX8_pass 30 = .ok (.putfield 104, 3) := by decide +kernel
theorem dX8_pass_33 : decode cX8_pass 33 = .ok (.aload_n 0, 1) := by decide +kernel
theorem dX8_pass_34 : decode cX8_pass 34 = .ok (.getfield 104, 3) := by decide +kernel
theorem dX8_pass_37 : decode cX8_pass 37 = .ok (.ireturn, 1) := by decide +kernel
set_option maxRecDepth 20000 in
theorem ggX8_purse_X8_isMan : GoodIn wsX8_purse wsX8_isMan := goodIn_r _ [7, 8, 9, 10, 11, 12, 13, 14, 15, 16, 17, 18, 19, 20, 21, 22, 23, 24, 25, 26, 27, 28, 29, 30, 31, 32, 33, 34, 35, 36, 37, 38, 39, 40, 41, 42, 43, 44, 45, 46, 47, 48, 49, 50, 51, 52] (by decide +kernel) (by decide +kernel)
set_option maxRecDepth 20000 in
theorem gX8_purse_X8_isMan : GoodIn wsX8_purse (wsV RX8 97 RX8 yX8_isMan wsX8_isMan) := goodIn_app (goodIn_of _ (by decide +kernel)) ggX8_purse_X8_isMan
theorem dX8_purse_0 : decode cX8_purse 0 = .ok (.aload_n 0, 1) := by decide +kernel
theorem dX8_purse_1 : decode cX8_purse 1 = .ok (.iconst 0, 1) := by decide +kernel
theorem dX8_purse_2 : decode cX8_purse 2 = .ok (.putfield 87, 3) := by decide +kernel
theorem dX8_purse_5 : decode cX8_purse 5 = .ok (.aload_n 0, 1) := by decide +kernel
theorem dX8_purse_6 : decode cX8_purse 6 = .ok (.iload_n 1, 1) := by decide +kernel
theorem dX8_purse_7 : decode cX8_purse 7 = .ok (.invokevirtual 97, 3) := by decide +kernel
theorem dX8_purse_10 : decode cX8_purse 10 = .ok (.ifCond .eq 12, 3) := by decide +kernel
theorem dX8_purse_13 : decode cX8_purse 13 = .ok (.aload_n 0, 1) := by decide +kernel
theorem dX8_purse_14 : decode cX8_purse 14 = .ok (.getfield 13, 3) := by decide +kernel
theorem dX8_purse_17 : decode cX8_purse 17 = .ok (.iload_n 1, 1) := by decide +kernel
theorem dX8_purse_18 : decode cX8_purse 18 = .ok (.iaload, 1) := by decide +kernel
theorem dX8_purse_19 : decode cX8_purse 19 = .ok (.goto 4, 3) := by decide +kernel
theorem dX8_purse_22 : decode cX8_purse 22 = .ok (.iconst (-1), 1) := by decide +kernel
theorem dX8_purse_23 : decode cX8_purse 23 = .ok (.ireturn, 1) := by decide +kernel
theorem dX8_netOf_0 : decode cX8_netOf 0 = .ok (.iconst 0, 1) := by decide +kernel
theorem dX8_netOf_1 : decode cX8_netOf 1 = .ok (.istore_n 2, 1) := by decide +kernel
theorem dX8_netOf_2 : decode cX8_netOf 2 = .ok (.iconst 0, 1) := by decide +kernel
theorem dX8_netOf_3 : decode cX8_netOf 3 = .ok (.istore_n 3, 1) := by decide +kernel
theorem dX8_netOf_4 : decode cX8_netOf 4 = .ok (.iload_n 3, 1) := by decide +kernel
theorem dX8_netOf_5 : decode cX8_netOf 5 = .ok (.aload_n 0, 1) := by decide +kernel
theorem dX8_netOf_6 : decode cX8_netOf 6 = .ok (.getfield 101, 3) := by decide +kernel
theorem dX8_netOf_9 : decode cX8_netOf 9 = .ok (.if_icmp .ge 47, 3) := by decide +kernel
theorem dX8_netOf_12 : decode cX8_netOf 12 = .ok (.aload_n 0, 1) := by decide +kernel
theorem dX8_netOf_13 : decode cX8_netOf 13 = .ok (.getfield 19, 3) := by decide +kernel
theorem dX8_netOf_16 : decode cX8_netOf 16 = .ok (.iload_n 3, 1) := by decide +kernel
theorem dX8_netOf_17 : decode cX8_netOf 17 = .ok (.iaload, 1) := by decide +kernel
theorem dX8_netOf_18 : decode cX8_netOf 18 = .ok (.iload_n 1, 1) := by decide +kernel
theorem dX8_netOf_19 : decode cX8_netOf 19 = .ok (.if_icmp .ne 12, 3) := by decide +kernel
theorem dX8_netOf_22 : decode cX8_netOf 22 = .ok (.iload_n 2, 1) := by decide +kernel
theorem dX8_netOf_23 : decode cX8_netOf 23 = .ok (.aload_n 0, 1) := by decide +kernel
theorem dX8_netOf_24 : decode cX8_netOf 24 = .ok (.getfield 37, 3) := by decide +kernel
theorem dX8_netOf_27 : decode cX8_netOf 27 = .ok (.iload_n 3, 1) := by decide +kernel
theorem dX8_netOf_28 : decode cX8_netOf 28 = .ok (.iaload, 1) := by decide +kernel
theorem dX8_netOf_29 : decode cX8_netOf 29 = .ok (.iadd, 1) := by decide +kernel
theorem dX8_netOf_30 : decode cX8_netOf 30 = .ok (.istore_n 2, 1) := by decide +kernel
theorem dX8_netOf_31 : decode cX8_netOf 31 = .ok (.aload_n 0, 1) := by decide +kernel
theorem dX8_netOf_32 : decode cX8_netOf 32 = .ok (.getfield 16, 3) := by decide +kernel
theorem dX8_netOf_35 : decode cX8_netOf 35 = .ok (.iload_n 3, 1) := by decide +kernel
theorem dX8_netOf_36 : decode cX8_netOf 36 = .ok (.iaload, 1) := by decide +kernel
theorem dX8_netOf_37 : decode cX8_netOf 37 = .ok (.iload_n 1, 1) := by decide +kernel
theorem dX8_netOf_38 : decode cX8_netOf 38 = .ok (.if_icmp .ne 12, 3) := by decide +kernel
theorem dX8_netOf_41 : decode cX8_netOf 41 = .ok (.iload_n 2, 1) := by decide +kernel
theorem dX8_netOf_42 : decode cX8_netOf 42 = .ok (.aload_n 0, 1) := by decide +kernel
theorem dX8_netOf_43 : decode cX8_netOf 43 = .ok (.getfield 37, 3) := by decide +kernel
theorem dX8_netOf_46 : decode cX8_netOf 46 = .ok (.iload_n 3, 1) := by decide +kernel
theorem dX8_netOf_47 : decode cX8_netOf 47 = .ok (.iaload, 1) := by decide +kernel
theorem dX8_netOf_48 : decode cX8_netOf 48 = .ok (.isub, 1) := by decide +kernel
theorem dX8_netOf_49 : decode cX8_netOf 49 = .ok (.istore_n 2, 1) := by decide +kernel
theorem dX8_netOf_50 : decode cX8_netOf 50 = .ok (.iinc 3 1, 3) := by decide +kernel
theorem dX8_netOf_53 : decode cX8_netOf 53 = .ok (.goto (-49), 3) := by decide +kernel
theorem dX8_netOf_56 : decode cX8_netOf 56 = .ok (.iload_n 2, 1) := by decide +kernel
theorem dX8_netOf_57 : decode cX8_netOf 57 = .ok (.ireturn, 1) := by decide +kernel
set_option maxRecDepth 20000 in
theorem ggX8_net_X8_isMan : GoodIn wsX8_net wsX8_isMan := goodIn_r _ [7, 8, 17, 18, 19, 20, 21, 22, 23, 24, 25, 26, 27, 28, 29, 30, 31, 32, 33, 34, 35, 36, 37, 38, 39, 40, 41, 42, 43, 44, 45, 46, 47, 48, 49, 50, 51, 52, 53, 54, 55, 56, 57, 58, 59, 60] (by decide +kernel) (by decide +kernel)
set_option maxRecDepth 20000 in
theorem gX8_net_X8_isMan : GoodIn wsX8_net (wsV RX8 97 RX8 yX8_isMan wsX8_isMan) := goodIn_app (goodIn_of _ (by decide +kernel)) ggX8_net_X8_isMan
set_option maxRecDepth 20000 in
theorem ggX8_net_X8_netOf : GoodIn wsX8_net wsX8_netOf := goodIn_r _ [12, 13, 14, 15, 16, 17, 18, 19, 20, 21, 22, 23, 24, 25, 26, 27, 28, 29, 30, 31, 32, 33, 34, 35, 36, 37, 38, 39, 40, 41, 42, 43, 44, 45, 46, 47, 48, 49, 50, 51, 52, 53, 54, 55, 56, 57, 58, 59, 60] (by decide +kernel) (by decide +kernel)
set_option maxRecDepth 20000 in
theorem gX8_net_X8_netOf : GoodIn wsX8_net (wsV RX8 111 RX8 yX8_netOf wsX8_netOf) := goodIn_app (goodIn_of _ (by decide +kernel)) ggX8_net_X8_netOf
theorem dX8_net_0 : decode cX8_net 0 = .ok (.aload_n 0, 1) := by decide +kernel
theorem dX8_net_1 : decode cX8_net 1 = .ok (.iconst 0, 1) := by decide +kernel
theorem dX8_net_2 : decode cX8_net 2 = .ok (.putfield 87, 3) := by decide +kernel
theorem dX8_net_5 : decode cX8_net 5 = .ok (.aload_n 0, 1) := by decide +kernel
theorem dX8_net_6 : decode cX8_net 6 = .ok (.iload_n 1, 1) := by decide +kernel
theorem dX8_net_7 : decode cX8_net 7 = .ok (.invokevirtual 97, 3) := by decide +kernel
theorem dX8_net_10 : decode cX8_net 10 = .ok (.ifCond .eq 11, 3) := by decide +kernel
theorem dX8_net_13 : decode cX8_net 13 = .ok (.aload_n 0, 1) := by decide +kernel
theorem dX8_net_14 : decode cX8_net 14 = .ok (.iload_n 1, 1) := by decide +kernel
theorem dX8_net_15 : decode cX8_net 15 = .ok (.invokevirtual 111, 3) := by decide +kernel
theorem dX8_net_18 : decode cX8_net 18 = .ok (.goto 5, 3) := by decide +kernel
theorem dX8_net_21 : decode cX8_net 21 = .ok (.ldc 114, 2) := by decide +kernel
theorem dX8_net_23 : decode cX8_net 23 = .ok (.ireturn, 1) := by decide +kernel
set_option maxRecDepth 20000 in
theorem ggX8_thread_X8_netOf : GoodIn wsX8_thread wsX8_netOf := goodIn_r _ [7, 8, 9, 10, 11, 12, 13, 14, 15, 16, 17, 18, 19, 20, 21, 22, 23, 24, 25, 26, 27, 28, 29, 30, 31, 32, 33, 34, 35, 36, 37, 38, 39, 40, 41, 42, 43, 44, 45, 46, 47, 48, 49, 50, 51, 52, 53, 54, 55] (by decide +kernel) (by decide +kernel)
set_option maxRecDepth 20000 in
theorem gX8_thread_X8_netOf : GoodIn wsX8_thread (wsV RX8 111 RX8 yX8_netOf wsX8_netOf) := goodIn_app (goodIn_of _ (by decide +kernel)) ggX8_thread_X8_netOf
theorem dX8_thread_0 : decode cX8_thread 0 = .ok (.aload_n 0, 1) := by decide +kernel
theorem dX8_thread_1 : decode cX8_thread 1 = .ok (.iconst 0, 1) := by decide +kernel
theorem dX8_thread_2 : decode cX8_thread 2 = .ok (.putfield 87, 3) := by decide +kernel
theorem dX8_thread_5 : decode cX8_thread 5 = .ok (.iconst 0, 1) := by decide +kernel
theorem dX8_thread_6 : decode cX8_thread 6 = .ok (.istore_n 1, 1) := by decide +kernel
theorem dX8_thread_7 : decode cX8_thread 7 = .ok (.iconst 0, 1) := by decide +kernel
theorem dX8_thread_8 : decode cX8_thread 8 = .ok (.istore_n 2, 1) := by decide +kernel
theorem dX8_thread_9 : decode cX8_thread 9 = .ok (.iload_n 2, 1) := by decide +kernel
theorem dX8_thread_10 : decode cX8_thread 10 = .ok (.aload_n 0, 1) := by decide +kernel
theorem dX8_thread_11 : decode cX8_thread 11 = .ok (.getfield 94, 3) := by decide +kernel
theorem dX8_thread_14 : decode cX8_thread 14 = .ok (.if_icmp .ge 29, 3) := by decide +kernel
theorem dX8_thread_17 : decode cX8_thread 17 = .ok (.iload_n 1, 1) := by decide +kernel
theorem dX8_thread_18 : decode cX8_thread 18 = .ok (.aload_n 0, 1) := by decide +kernel
theorem dX8_thread_19 : decode cX8_thread 19 = .ok (.iload_n 2, 1) := by decide +kernel
theorem dX8_thread_20 : decode cX8_thread 20 = .ok (.invokevirtual 111, 3) := by decide +kernel
theorem dX8_thread_23 : decode cX8_thread 23 = .ok (.ifCond .le 11, 3) := by decide +kernel
theorem dX8_thread_26 : decode cX8_thread 26 = .ok (.aload_n 0, 1) := by decide +kernel
theorem dX8_thread_27 : decode cX8_thread 27 = .ok (.iload_n 2, 1) := by decide +kernel
theorem dX8_thread_28 : decode cX8_thread 28 = .ok (.invokevirtual 111, 3) := by decide +kernel
theorem dX8_thread_31 : decode cX8_thread 31 = .ok (.goto 4, 3) := by decide +kernel
theorem dX8_thread_34 : decode cX8_thread 34 = .ok (.iconst 0, 1) := by decide +kernel
theorem dX8_thread_35 : decode cX8_thread 35 = .ok (.iadd, 1) := by decide +kernel
theorem dX8_thread_36 : decode cX8_thread 36 = .ok (.istore_n 1, 1) := by decide +kernel
theorem dX8_thread_37 : decode cX8_thread 37 = .ok (.iinc 2 1, 3) := by decide +kernel
theorem dX8_thread_40 : decode cX8_thread 40 = .ok (.goto (-31), 3) := by decide +kernel
theorem dX8_thread_43 : decode cX8_thread 43 = .ok (.iload_n 1, 1) := by decide +kernel
theorem dX8_thread_44 : decode cX8_thread 44 = .ok (.ireturn, 1) := by decide +kernel
set_option maxRecDepth 20000 in
theorem ggX8_move_X8_netOf : GoodIn wsX8_move wsX8_netOf := goodIn_r _ [8, 9, 10, 11, 12, 13, 14, 15, 16, 17, 18, 19, 20, 21, 22, 23, 24, 25, 26, 27, 28, 29, 30, 31, 32, 33, 34, 35, 36, 37, 38, 39, 40, 41, 42, 43, 44, 45, 46, 47, 48, 49, 50, 51, 52, 53, 54, 55, 56] (by decide +kernel) (by decide +kernel)
set_option maxRecDepth 20000 in
theorem gX8_move_X8_netOf : GoodIn wsX8_move (wsV RX8 111 RX8 yX8_netOf wsX8_netOf) := goodIn_app (goodIn_of _ (by decide +kernel)) ggX8_move_X8_netOf
theorem dX8_move_0 : decode cX8_move 0 = .ok (.aload_n 0, 1) := by decide +kernel
theorem dX8_move_1 : decode cX8_move 1 = .ok (.iconst 0, 1) := by decide +kernel
theorem dX8_move_2 : decode cX8_move 2 = .ok (.putfield 87, 3) := by decide +kernel
theorem dX8_move_5 : decode cX8_move 5 = .ok (.iload_n 1, 1) := by decide +kernel
theorem dX8_move_6 : decode cX8_move 6 = .ok (.ifCond .lt 12, 3) := by decide +kernel
theorem dX8_move_9 : decode cX8_move 9 = .ok (.iload_n 2, 1) := by decide +kernel
theorem dX8_move_10 : decode cX8_move 10 = .ok (.ifCond .lt 8, 3) := by decide +kernel
theorem dX8_move_13 : decode cX8_move 13 = .ok (.iload_n 2, 1) := by decide +kernel
theorem dX8_move_14 : decode cX8_move 14 = .ok (.iconst 2, 1) := by decide +kernel
theorem dX8_move_15 : decode cX8_move 15 = .ok (.if_icmp .le 5, 3) := by decide +kernel
theorem dX8_move_18 : decode cX8_move 18 = .ok (.iconst (-1), 1) := by decide +kernel
theorem dX8_move_19 : decode cX8_move 19 = .ok (.ireturn, 1) := by decide +kernel
theorem dX8_move_20 : decode cX8_move 20 = .ok (.iconst 0, 1) := by decide +kernel
theorem dX8_move_21 : decode cX8_move 21 = .ok (.istore_n 3, 1) := by decide +kernel
theorem dX8_move_22 : decode cX8_move 22 = .ok (.iload_n 3, 1) := by decide +kernel
theorem dX8_move_23 : decode cX8_move 23 = .ok (.aload_n 0, 1) := by decide +kernel
theorem dX8_move_24 : decode cX8_move 24 = .ok (.getfield 94, 3) := by decide +kernel
theorem dX8_move_27 : decode cX8_move 27 = .ok (.if_icmp .ge 20, 3) := by decide +kernel
theorem dX8_move_30 : decode cX8_move 30 = .ok (.aload_n 0, 1) := by decide +kernel
theorem dX8_move_31 : decode cX8_move 31 = .ok (.getfield 54, 3) := by decide +kernel
theorem dX8_move_34 : decode cX8_move 34 = .ok (.iload_n 3, 1) := by decide +kernel
theorem dX8_move_35 : decode cX8_move 35 = .ok (.aload_n 0, 1) := by decide +kernel
theorem dX8_move_36 : decode cX8_move 36 = .ok (.iload_n 3, 1) := by decide +kernel
theorem dX8_move_37 : decode cX8_move 37 = .ok (.invokevirtual 111, 3) := by decide +kernel
theorem dX8_move_40 : decode cX8_move 40 = .ok (.iastore, 1) := by decide +kernel
theorem dX8_move_41 : decode cX8_move 41 = .ok (.iinc 3 1, 3) := by decide +kernel
theorem dX8_move_44 : decode cX8_move 44 = .ok (.goto (-22), 3) := by decide +kernel
theorem dX8_move_47 : decode cX8_move 47 = .ok (.iconst 0, 1) := by decide +kernel
theorem dX8_move_48 : decode cX8_move 48 = .ok (.istore_n 3, 1) := by decide +kernel
theorem dX8_move_49 : decode cX8_move 49 = .ok (.iconst 0, 1) := by decide +kernel
theorem dX8_move_50 : decode cX8_move 50 = .ok (.istore 4, 2) := by decide +kernel
theorem dX8_move_52 : decode cX8_move 52 = .ok (.iconst 0, 1) := by decide +kernel
theorem dX8_move_53 : decode cX8_move 53 = .ok (.istore 5, 2) := by decide +kernel
theorem dX8_move_55 : decode cX8_move 55 = .ok (.iload 4, 2) := by decide +kernel
theorem dX8_move_57 : decode cX8_move 57 = .ok (.aload_n 0, 1) := by decide +kernel
theorem dX8_move_58 : decode cX8_move 58 = .ok (.getfield 94, 3) := by decide +kernel
theorem dX8_move_61 : decode cX8_move 61 = .ok (.if_icmp .ge 139, 3) := by decide +kernel
theorem dX8_move_64 : decode cX8_move 64 = .ok (.iload 5, 2) := by decide +kernel
theorem dX8_move_66 : decode cX8_move 66 = .ok (.aload_n 0, 1) := by decide +kernel
theorem dX8_move_67 : decode cX8_move 67 = .ok (.getfield 94, 3) := by decide +kernel
theorem dX8_move_70 : decode cX8_move 70 = .ok (.if_icmp .ge 130, 3) := by decide +kernel
theorem dX8_move_73 : decode cX8_move 73 = .ok (.aload_n 0, 1) := by decide +kernel
theorem dX8_move_74 : decode cX8_move 74 = .ok (.getfield 54, 3) := by decide +kernel
theorem dX8_move_77 : decode cX8_move 77 = .ok (.iload 4, 2) := by decide +kernel
theorem dX8_move_79 : decode cX8_move 79 = .ok (.iaload, 1) := by decide +kernel
theorem dX8_move_80 : decode cX8_move 80 = .ok (.ifCond .lt 9, 3) := by decide +kernel
theorem dX8_move_83 : decode cX8_move 83 = .ok (.iinc 4 1, 3) := by decide +kernel
theorem dX8_move_86 : decode cX8_move 86 = .ok (.goto (-31), 3) := by decide +kernel
theorem dX8_move_89 : decode cX8_move 89 = .ok (.aload_n 0, 1) := by decide +kernel
theorem dX8_move_90 : decode cX8_move 90 = .ok (.getfield 54, 3) := by decide +kernel
theorem dX8_move_93 : decode cX8_move 93 = .ok (.iload 5, 2) := by decide +kernel
theorem dX8_move_95 : decode cX8_move 95 = .ok (.iaload, 1) := by decide +kernel
theorem dX8_move_96 : decode cX8_move 96 = .ok (.ifCond .gt 9, 3) := by decide +kernel
theorem dX8_move_99 : decode cX8_move 99 = .ok (.iinc 5 1, 3) := by decide +kernel
theorem dX8_move_102 : decode cX8_move 102 = .ok (.goto (-47), 3) := by decide +kernel
theorem dX8_move_105 : decode cX8_move 105 = .ok (.aload_n 0, 1) := by decide +kernel
theorem dX8_move_106 : decode cX8_move 106 = .ok (.getfield 54, 3) := by decide +kernel
theorem dX8_move_109 : decode cX8_move 109 = .ok (.iload 4, 2) := by decide +kernel
theorem dX8_move_111 : decode cX8_move 111 = .ok (.iaload, 1) := by decide +kernel
theorem dX8_move_112 : decode cX8_move 112 = .ok (.ineg, 1) := by decide +kernel
theorem dX8_move_113 : decode cX8_move 113 = .ok (.aload_n 0, 1) := by decide +kernel
theorem dX8_move_114 : decode cX8_move 114 = .ok (.getfield 54, 3) := by decide +kernel
theorem dX8_move_117 : decode cX8_move 117 = .ok (.iload 5, 2) := by decide +kernel
theorem dX8_move_119 : decode cX8_move 119 = .ok (.iaload, 1) := by decide +kernel
theorem dX8_move_120 : decode cX8_move 120 = .ok (.if_icmp .ge 14, 3) := by decide +kernel
theorem dX8_move_123 : decode cX8_move 123 = .ok (.aload_n 0, 1) := by decide +kernel
theorem dX8_move_124 : decode cX8_move 124 = .ok (.getfield 54, 3) := by decide +kernel
theorem dX8_move_127 : decode cX8_move 127 = .ok (.iload 4, 2) := by decide +kernel
theorem dX8_move_129 : decode cX8_move 129 = .ok (.iaload, 1) := by decide +kernel
theorem dX8_move_130 : decode cX8_move 130 = .ok (.ineg, 1) := by decide +kernel
theorem dX8_move_131 : decode cX8_move 131 = .ok (.goto 10, 3) := by decide +kernel
theorem dX8_move_134 : decode cX8_move 134 = .ok (.aload_n 0, 1) := by decide +kernel
theorem dX8_move_135 : decode cX8_move 135 = .ok (.getfield 54, 3) := by decide +kernel
theorem dX8_move_138 : decode cX8_move 138 = .ok (.iload 5, 2) := by decide +kernel
theorem dX8_move_140 : decode cX8_move 140 = .ok (.iaload, 1) := by decide +kernel
theorem dX8_move_141 : decode cX8_move 141 = .ok (.istore 6, 2) := by decide +kernel
theorem dX8_move_143 : decode cX8_move 143 = .ok (.iload_n 3, 1) := by decide +kernel
theorem dX8_move_144 : decode cX8_move 144 = .ok (.iload_n 1, 1) := by decide +kernel
theorem dX8_move_145 : decode cX8_move 145 = .ok (.if_icmp .ne 25, 3) := by decide +kernel
theorem dX8_move_148 : decode cX8_move 148 = .ok (.iload_n 2, 1) := by decide +kernel
theorem dX8_move_149 : decode cX8_move 149 = .ok (.ifCond .ne 8, 3) := by decide +kernel
theorem dX8_move_152 : decode cX8_move 152 = .ok (.iload 4, 2) := by decide +kernel
theorem dX8_move_154 : decode cX8_move 154 = .ok (.goto 15, 3) := by decide +kernel
theorem dX8_move_157 : decode cX8_move 157 = .ok (.iload_n 2, 1) := by decide +kernel
theorem dX8_move_158 : decode cX8_move 158 = .ok (.iconst 1, 1) := by decide +kernel
theorem dX8_move_159 : decode cX8_move 159 = .ok (.if_icmp .ne 8, 3) := by decide +kernel
theorem dX8_move_162 : decode cX8_move 162 = .ok (.iload 5, 2) := by decide +kernel
theorem dX8_move_164 : decode cX8_move 164 = .ok (.goto 5, 3) := by decide +kernel
theorem dX8_move_167 : decode cX8_move 167 = .ok (.iload 6, 2) := by decide +kernel
theorem dX8_move_169 : decode cX8_move 169 = .ok (.ireturn, 1) := by decide +kernel
theorem dX8_move_170 : decode cX8_move 170 = .ok (.aload_n 0, 1) := by decide +kernel
theorem dX8_move_171 : decode cX8_move 171 = .ok (.getfield 54, 3) := by decide +kernel
theorem dX8_move_174 : decode cX8_move 174 = .ok (.iload 4, 2) := by decide +kernel
theorem dX8_move_176 : decode cX8_move 176 = .ok (.dup2, 1) := by decide +kernel
theorem dX8_move_177 : decode cX8_move 177 = .ok (.iaload, 1) := by decide +kernel
theorem dX8_move_178 : decode cX8_move 178 = .ok (.iload 6, 2) := by decide +kernel
theorem dX8_move_180 : decode cX8_move 180 = .ok (.iadd, 1) := by decide +kernel
theorem dX8_move_181 : decode cX8_move 181 = .ok (.iastore, 1) := by decide +kernel
theorem dX8_move_182 : decode cX8_move 182 = .ok (.aload_n 0, 1) := by decide +kernel
theorem dX8_move_183 : decode cX8_move 183 = .ok (.getfield 54, 3) := by decide +kernel
theorem dX8_move_186 : decode cX8_move 186 = .ok (.iload 5, 2) := by decide +kernel
theorem dX8_move_188 : decode cX8_move 188 = .ok (.dup2, 1) := by decide +kernel
theorem dX8_move_189 : decode cX8_move 189 = .ok (.iaload, 1) := by decide +kernel
theorem dX8_move_190 : decode cX8_move 190 = .ok (.iload 6, 2) := by decide +kernel
theorem dX8_move_192 : decode cX8_move 192 = .ok (.isub, 1) := by decide +kernel
theorem dX8_move_193 : decode cX8_move 193 = .ok (.iastore, 1) := by decide +kernel
theorem dX8_move_194 : decode cX8_move 194 = .ok (.iinc 3 1, 3) := by decide +kernel
theorem dX8_move_197 : decode cX8_move 197 = .ok (.goto (-142), 3) := by decide +kernel
theorem dX8_move_200 : decode cX8_move 200 = .ok (.iconst (-1), 1) := by decide +kernel
theorem dX8_move_201 : decode cX8_move 201 = .ok (.ireturn, 1) := by decide +kernel
set_option maxRecDepth 20000 in
theorem ggX8_boat_X8_isMan : GoodIn wsX8_boat wsX8_isMan := goodIn_r _ [8, 2, 9, 10, 11, 12, 13, 14, 15, 16, 17, 18, 19, 20, 21, 22, 23, 24, 25, 26, 27, 28, 29, 30, 31, 32, 33, 34, 35, 36, 37, 38, 39, 40, 41, 42, 43, 44, 45, 46, 47, 48, 49, 50, 51, 52] (by decide +kernel) (by decide +kernel)
set_option maxRecDepth 20000 in
theorem gX8_boat_X8_isMan : GoodIn wsX8_boat (wsV RX8 97 RX8 yX8_isMan wsX8_isMan) := goodIn_app (goodIn_of _ (by decide +kernel)) ggX8_boat_X8_isMan
theorem dX8_boat_0 : decode cX8_boat 0 = .ok (.aload_n 0, 1) := by decide +kernel
end
section
theorem dX8_boat_1 : decode cX8_boat 1 = .ok (.iconst 0, 1) := by decide +kernel
theorem dX8_boat_2 : decode cX8_boat 2 = .ok (.putfield 87, 3) := by decide +kernel
theorem dX8_boat_5 : decode cX8_boat 5 = .ok (.iload_n 1, 1) := by decide +kernel
theorem dX8_boat_6 : decode cX8_boat 6 = .ok (.ifCond .lt 55, 3) := by decide +kernel
theorem dX8_boat_9 : decode cX8_boat 9 = .ok (.iload_n 1, 1) := by decide +kernel
theorem dX8_boat_10 : decode cX8_boat 10 = .ok (.sipush 9999, 3) := by decide +kernel
theorem dX8_boat_13 : decode cX8_boat 13 = .ok (.if_icmp .gt 48, 3) := by decide +kernel
theorem dX8_boat_16 : decode cX8_boat 16 = .ok (.aload_n 0, 1) := by decide +kernel
theorem dX8_boat_17 : decode cX8_boat 17 = .ok (.iload_n 2, 1) := by decide +kernel
theorem dX8_boat_18 : decode cX8_boat 18 = .ok (.invokevirtual 97, 3) := by decide +kernel
theorem dX8_boat_21 : decode cX8_boat 21 = .ok (.ifCond .eq 40, 3) := by decide +kernel
theorem dX8_boat_24 : decode cX8_boat 24 = .ok (.iload_n 3, 1) := by decide +kernel
theorem dX8_boat_25 : decode cX8_boat 25 = .ok (.iconst 1, 1) := by decide +kernel
theorem dX8_boat_26 : decode cX8_boat 26 = .ok (.if_icmp .lt 35, 3) := by decide +kernel
theorem dX8_boat_29 : decode cX8_boat 29 = .ok (.iload_n 3, 1) := by decide +kernel
theorem dX8_boat_30 : decode cX8_boat 30 = .ok (.bipush 9, 2) := by decide +kernel
theorem dX8_boat_32 : decode cX8_boat 32 = .ok (.if_icmp .gt 29, 3) := by decide +kernel
theorem dX8_boat_35 : decode cX8_boat 35 = .ok (.iload 4, 2) := by decide +kernel
theorem dX8_boat_37 : decode cX8_boat 37 = .ok (.ifCond .lt 24, 3) := by decide +kernel
theorem dX8_boat_40 : decode cX8_boat 40 = .ok (.iload 4, 2) := by decide +kernel
theorem dX8_boat_42 : decode cX8_boat 42 = .ok (.iconst 1, 1) := by decide +kernel
theorem dX8_boat_43 : decode cX8_boat 43 = .ok (.aload_n 0, 1) := by decide +kernel
theorem dX8_boat_44 : decode cX8_boat 44 = .ok (.getfield 94, 3) := by decide +kernel
theorem dX8_boat_47 : decode cX8_boat 47 = .ok (.ishl, 1) := by decide +kernel
theorem dX8_boat_48 : decode cX8_boat 48 = .ok (.if_icmp .ge 13, 3) := by decide +kernel
theorem dX8_boat_51 : decode cX8_boat 51 = .ok (.iload 4, 2) := by decide +kernel
theorem dX8_boat_53 : decode cX8_boat 53 = .ok (.iload_n 2, 1) := by decide +kernel
theorem dX8_boat_54 : decode cX8_boat 54 = .ok (.ishr, 1) := by decide +kernel
theorem dX8_boat_55 : decode cX8_boat 55 = .ok (.iconst 1, 1) := by decide +kernel
theorem dX8_boat_56 : decode cX8_boat 56 = .ok (.iand, 1) := by decide +kernel
theorem dX8_boat_57 : decode cX8_boat 57 = .ok (.iconst 1, 1) := by decide +kernel
theorem dX8_boat_58 : decode cX8_boat 58 = .ok (.if_icmp .ne 5, 3) := by decide +kernel
theorem dX8_boat_61 : decode cX8_boat 61 = .ok (.iconst (-1), 1) := by decide +kernel
theorem dX8_boat_62 : decode cX8_boat 62 = .ok (.ireturn, 1) := by decide +kernel
theorem dX8_boat_63 : decode cX8_boat 63 = .ok (.iload_n 3, 1) := by decide +kernel
theorem dX8_boat_64 : decode cX8_boat 64 = .ok (.istore 5, 2) := by decide +kernel
theorem dX8_boat_66 : decode cX8_boat 66 = .ok (.iconst 0, 1) := by decide +kernel
theorem dX8_boat_67 : decode cX8_boat 67 = .ok (.istore 6, 2) := by decide +kernel
theorem dX8_boat_69 : decode cX8_boat 69 = .ok (.iload 6, 2) := by decide +kernel
theorem dX8_boat_71 : decode cX8_boat 71 = .ok (.aload_n 0, 1) := by decide +kernel
theorem dX8_boat_72 : decode cX8_boat 72 = .ok (.getfield 94, 3) := by decide +kernel
theorem dX8_boat_75 : decode cX8_boat 75 = .ok (.if_icmp .ge 21, 3) := by decide +kernel
theorem dX8_boat_78 : decode cX8_boat 78 = .ok (.iload 5, 2) := by decide +kernel
theorem dX8_boat_80 : decode cX8_boat 80 = .ok (.iload 4, 2) := by decide +kernel
theorem dX8_boat_82 : decode cX8_boat 82 = .ok (.iload 6, 2) := by decide +kernel
theorem dX8_boat_84 : decode cX8_boat 84 = .ok (.ishr, 1) := by decide +kernel
theorem dX8_boat_85 : decode cX8_boat 85 = .ok (.iconst 1, 1) := by decide +kernel
theorem dX8_boat_86 : decode cX8_boat 86 = .ok (.iand, 1) := by decide +kernel
theorem dX8_boat_87 : decode cX8_boat 87 = .ok (.iadd, 1) := by decide +kernel
theorem dX8_boat_88 : decode cX8_boat 88 = .ok (.istore 5, 2) := by decide +kernel
theorem dX8_boat_90 : decode cX8_boat 90 = .ok (.iinc 6 1, 3) := by decide +kernel
theorem dX8_boat_93 : decode cX8_boat 93 = .ok (.goto (-24), 3) := by decide +kernel
theorem dX8_boat_96 : decode cX8_boat 96 = .ok (.iload_n 1, 1) := by decide +kernel
theorem dX8_boat_97 : decode cX8_boat 97 = .ok (.iload 5, 2) := by decide +kernel
theorem dX8_boat_99 : decode cX8_boat 99 = .ok (.idiv, 1) := by decide +kernel
theorem dX8_boat_100 : decode cX8_boat 100 = .ok (.istore 6, 2) := by decide +kernel
theorem dX8_boat_102 : decode cX8_boat 102 = .ok (.iconst 0, 1) := by decide +kernel
theorem dX8_boat_103 : decode cX8_boat 103 = .ok (.istore 7, 2) := by decide +kernel
theorem dX8_boat_105 : decode cX8_boat 105 = .ok (.iload 7, 2) := by decide +kernel
theorem dX8_boat_107 : decode cX8_boat 107 = .ok (.aload_n 0, 1) := by decide +kernel
theorem dX8_boat_108 : decode cX8_boat 108 = .ok (.getfield 94, 3) := by decide +kernel
theorem dX8_boat_111 : decode cX8_boat 111 = .ok (.if_icmp .ge 29, 3) := by decide +kernel
theorem dX8_boat_114 : decode cX8_boat 114 = .ok (.aload_n 0, 1) := by decide +kernel
theorem dX8_boat_115 : decode cX8_boat 115 = .ok (.getfield 13, 3) := by decide +kernel
theorem dX8_boat_118 : decode cX8_boat 118 = .ok (.iload 7, 2) := by decide +kernel
theorem dX8_boat_120 : decode cX8_boat 120 = .ok (.dup2, 1) := by decide +kernel
theorem dX8_boat_121 : decode cX8_boat 121 = .ok (.iaload, 1) := by decide +kernel
theorem dX8_boat_122 : decode cX8_boat 122 = .ok (.iload 4, 2) := by decide +kernel
theorem dX8_boat_124 : decode cX8_boat 124 = .ok (.iload 7, 2) := by decide +kernel
theorem dX8_boat_126 : decode cX8_boat 126 = .ok (.ishr, 1) := by decide +kernel
theorem dX8_boat_127 : decode cX8_boat 127 = .ok (.iconst 1, 1) := by decide +kernel
theorem dX8_boat_128 : decode cX8_boat 128 = .ok (.iand, 1) := by decide +kernel
theorem dX8_boat_129 : decode cX8_boat 129 = .ok (.iload 6, 2) := by decide +kernel
theorem dX8_boat_131 : decode cX8_boat 131 = .ok (.imul, 1) := by decide +kernel
theorem dX8_boat_132 : decode cX8_boat 132 = .ok (.iadd, 1) := by decide +kernel
theorem dX8_boat_133 : decode cX8_boat 133 = .ok (.iastore, 1) := by decide +kernel
theorem dX8_boat_134 : decode cX8_boat 134 = .ok (.iinc 7 1, 3) := by decide +kernel
theorem dX8_boat_137 : decode cX8_boat 137 = .ok (.goto (-32), 3) := by decide +kernel
theorem dX8_boat_140 : decode cX8_boat 140 = .ok (.aload_n 0, 1) := by decide +kernel
theorem dX8_boat_141 : decode cX8_boat 141 = .ok (.getfield 13, 3) := by decide +kernel
theorem dX8_boat_144 : decode cX8_boat 144 = .ok (.iload_n 2, 1) := by decide +kernel
theorem dX8_boat_145 : decode cX8_boat 145 = .ok (.dup2, 1) := by decide +kernel
theorem dX8_boat_146 : decode cX8_boat 146 = .ok (.iaload, 1) := by decide +kernel
theorem dX8_boat_147 : decode cX8_boat 147 = .ok (.iload_n 1, 1) := by decide +kernel
theorem dX8_boat_148 : decode cX8_boat 148 = .ok (.iload 6, 2) := by decide +kernel
theorem dX8_boat_150 : decode cX8_boat 150 = .ok (.iload 5, 2) := by decide +kernel
theorem dX8_boat_152 : decode cX8_boat 152 = .ok (.iload_n 3, 1) := by decide +kernel
theorem dX8_boat_153 : decode cX8_boat 153 = .ok (.isub, 1) := by decide +kernel
theorem dX8_boat_154 : decode cX8_boat 154 = .ok (.imul, 1) := by decide +kernel
theorem dX8_boat_155 : decode cX8_boat 155 = .ok (.isub, 1) := by decide +kernel
theorem dX8_boat_156 : decode cX8_boat 156 = .ok (.iadd, 1) := by decide +kernel
theorem dX8_boat_157 : decode cX8_boat 157 = .ok (.iastore, 1) := by decide +kernel
theorem dX8_boat_158 : decode cX8_boat 158 = .ok (.iload 6, 2) := by decide +kernel
theorem dX8_boat_160 : decode cX8_boat 160 = .ok (.ireturn, 1) := by decide +kernel
set_option maxRecDepth 20000 in
theorem ggX8_heir_X8_isMan : GoodIn wsX8_heir wsX8_isMan := goodIn_r _ [11, 12, 13, 14, 15, 16, 17, 18, 19, 20, 21, 22, 23, 24, 25, 26, 27, 28, 29, 30, 31, 32, 33, 34, 35, 36, 37, 38, 39, 40, 41, 42, 43, 44, 45, 46, 47, 48, 49, 50, 51, 52, 53, 54, 55, 56] (by decide +kernel) (by decide +kernel)
set_option maxRecDepth 20000 in
theorem gX8_heir_X8_isMan : GoodIn wsX8_heir (wsV RX8 97 RX8 yX8_isMan wsX8_isMan) := goodIn_app (goodIn_of _ (by decide +kernel)) ggX8_heir_X8_isMan
theorem dX8_heir_0 : decode cX8_heir 0 = .ok (.aload_n 0, 1) := by decide +kernel
theorem dX8_heir_1 : decode cX8_heir 1 = .ok (.iconst 0, 1) := by decide +kernel
theorem dX8_heir_2 : decode cX8_heir 2 = .ok (.putfield 87, 3) := by decide +kernel
theorem dX8_heir_5 : decode cX8_heir 5 = .ok (.aload_n 0, 1) := by decide +kernel
theorem dX8_heir_6 : decode cX8_heir 6 = .ok (.iload_n 1, 1) := by decide +kernel
theorem dX8_heir_7 : decode cX8_heir 7 = .ok (.invokevirtual 97, 3) := by decide +kernel
theorem dX8_heir_10 : decode cX8_heir 10 = .ok (.ifCond .eq 16, 3) := by decide +kernel
theorem dX8_heir_13 : decode cX8_heir 13 = .ok (.aload_n 0, 1) := by decide +kernel
theorem dX8_heir_14 : decode cX8_heir 14 = .ok (.iload_n 2, 1) := by decide +kernel
theorem dX8_heir_15 : decode cX8_heir 15 = .ok (.invokevirtual 97, 3) := by decide +kernel
theorem dX8_heir_18 : decode cX8_heir 18 = .ok (.ifCond .eq 8, 3) := by decide +kernel
theorem dX8_heir_21 : decode cX8_heir 21 = .ok (.iload_n 1, 1) := by decide +kernel
theorem dX8_heir_22 : decode cX8_heir 22 = .ok (.iload_n 2, 1) := by decide +kernel
theorem dX8_heir_23 : decode cX8_heir 23 = .ok (.if_icmp .ne 5, 3) := by decide +kernel
theorem dX8_heir_26 : decode cX8_heir 26 = .ok (.iconst 0, 1) := by decide +kernel
theorem dX8_heir_27 : decode cX8_heir 27 = .ok (.ireturn, 1) := by decide +kernel
theorem dX8_heir_28 : decode cX8_heir 28 = .ok (.aload_n 0, 1) := by decide +kernel
theorem dX8_heir_29 : decode cX8_heir 29 = .ok (.getfield 13, 3) := by decide +kernel
theorem dX8_heir_32 : decode cX8_heir 32 = .ok (.iload_n 2, 1) := by decide +kernel
theorem dX8_heir_33 : decode cX8_heir 33 = .ok (.dup2, 1) := by decide +kernel
theorem dX8_heir_34 : decode cX8_heir 34 = .ok (.iaload, 1) := by decide +kernel
theorem dX8_heir_35 : decode cX8_heir 35 = .ok (.aload_n 0, 1) := by decide +kernel
theorem dX8_heir_36 : decode cX8_heir 36 = .ok (.getfield 13, 3) := by decide +kernel
theorem dX8_heir_39 : decode cX8_heir 39 = .ok (.iload_n 1, 1) := by decide +kernel
theorem dX8_heir_40 : decode cX8_heir 40 = .ok (.iaload, 1) := by decide +kernel
theorem dX8_heir_41 : decode cX8_heir 41 = .ok (.iadd, 1) := by decide +kernel
theorem dX8_heir_42 : decode cX8_heir 42 = .ok (.iastore, 1) := by decide +kernel
theorem dX8_heir_43 : decode cX8_heir 43 = .ok (.aload_n 0, 1) := by decide +kernel
theorem dX8_heir_44 : decode cX8_heir 44 = .ok (.getfield 13, 3) := by decide +kernel
theorem dX8_heir_47 : decode cX8_heir 47 = .ok (.iload_n 1, 1) := by decide +kernel
theorem dX8_heir_48 : decode cX8_heir 48 = .ok (.iconst 0, 1) := by decide +kernel
theorem dX8_heir_49 : decode cX8_heir 49 = .ok (.iastore, 1) := by decide +kernel
theorem dX8_heir_50 : decode cX8_heir 50 = .ok (.iconst 0, 1) := by decide +kernel
theorem dX8_heir_51 : decode cX8_heir 51 = .ok (.istore_n 3, 1) := by decide +kernel
theorem dX8_heir_52 : decode cX8_heir 52 = .ok (.iload_n 3, 1) := by decide +kernel
theorem dX8_heir_53 : decode cX8_heir 53 = .ok (.aload_n 0, 1) := by decide +kernel
theorem dX8_heir_54 : decode cX8_heir 54 = .ok (.getfield 101, 3) := by decide +kernel
theorem dX8_heir_57 : decode cX8_heir 57 = .ok (.if_icmp .ge 102, 3) := by decide +kernel
theorem dX8_heir_60 : decode cX8_heir 60 = .ok (.aload_n 0, 1) := by decide +kernel
theorem dX8_heir_61 : decode cX8_heir 61 = .ok (.getfield 16, 3) := by decide +kernel
theorem dX8_heir_64 : decode cX8_heir 64 = .ok (.iload_n 3, 1) := by decide +kernel
theorem dX8_heir_65 : decode cX8_heir 65 = .ok (.iaload, 1) := by decide +kernel
theorem dX8_heir_66 : decode cX8_heir 66 = .ok (.iload_n 1, 1) := by decide +kernel
theorem dX8_heir_67 : decode cX8_heir 67 = .ok (.if_icmp .ne 13, 3) := by decide +kernel
theorem dX8_heir_70 : decode cX8_heir 70 = .ok (.aload_n 0, 1) := by decide +kernel
theorem dX8_heir_71 : decode cX8_heir 71 = .ok (.getfield 19, 3) := by decide +kernel
theorem dX8_heir_74 : decode cX8_heir 74 = .ok (.iload_n 3, 1) := by decide +kernel
theorem dX8_heir_75 : decode cX8_heir 75 = .ok (.iaload, 1) := by decide +kernel
theorem dX8_heir_76 : decode cX8_heir 76 = .ok (.iload_n 2, 1) := by decide +kernel
theorem dX8_heir_77 : decode cX8_heir 77 = .ok (.if_icmp .eq 23, 3) := by decide +kernel
theorem dX8_heir_80 : decode cX8_heir 80 = .ok (.aload_n 0, 1) := by decide +kernel
theorem dX8_heir_81 : decode cX8_heir 81 = .ok (.getfield 16, 3) := by decide +kernel
theorem dX8_heir_84 : decode cX8_heir 84 = .ok (.iload_n 3, 1) := by decide +kernel
theorem dX8_heir_85 : decode cX8_heir 85 = .ok (.iaload, 1) := by decide +kernel
theorem dX8_heir_86 : decode cX8_heir 86 = .ok (.iload_n 2, 1) := by decide +kernel
theorem dX8_heir_87 : decode cX8_heir 87 = .ok (.if_icmp .ne 17, 3) := by decide +kernel
theorem dX8_heir_90 : decode cX8_heir 90 = .ok (.aload_n 0, 1) := by decide +kernel
theorem dX8_heir_91 : decode cX8_heir 91 = .ok (.getfield 19, 3) := by decide +kernel
theorem dX8_heir_94 : decode cX8_heir 94 = .ok (.iload_n 3, 1) := by decide +kernel
theorem dX8_heir_95 : decode cX8_heir 95 = .ok (.iaload, 1) := by decide +kernel
theorem dX8_heir_96 : decode cX8_heir 96 = .ok (.iload_n 1, 1) := by decide +kernel
theorem dX8_heir_97 : decode cX8_heir 97 = .ok (.if_icmp .ne 7, 3) := by decide +kernel
theorem dX8_heir_100 : decode cX8_heir 100 = .ok (.iconst 1, 1) := by decide +kernel
theorem dX8_heir_101 : decode cX8_heir 101 = .ok (.goto 4, 3) := by decide +kernel
theorem dX8_heir_104 : decode cX8_heir 104 = .ok (.iconst 0, 1) := by decide +kernel
theorem dX8_heir_105 : decode cX8_heir 105 = .ok (.istore 4, 2) := by decide +kernel
theorem dX8_heir_107 : decode cX8_heir 107 = .ok (.iload 4, 2) := by decide +kernel
theorem dX8_heir_109 : decode cX8_heir 109 = .ok (.ifCond .eq 10, 3) := by decide +kernel
theorem dX8_heir_112 : decode cX8_heir 112 = .ok (.aload_n 0, 1) := by decide +kernel
theorem dX8_heir_113 : decode cX8_heir 113 = .ok (.getfield 37, 3) := by decide +kernel
theorem dX8_heir_116 : decode cX8_heir 116 = .ok (.iload_n 3, 1) := by decide +kernel
theorem dX8_heir_117 : decode cX8_heir 117 = .ok (.iconst 0, 1) := by decide +kernel
theorem dX8_heir_118 : decode cX8_heir 118 = .ok (.iastore, 1) := by decide +kernel
theorem dX8_heir_119 : decode cX8_heir 119 = .ok (.aload_n 0, 1) := by decide +kernel
theorem dX8_heir_120 : decode cX8_heir 120 = .ok (.getfield 16, 3) := by decide +kernel
theorem dX8_heir_123 : decode cX8_heir 123 = .ok (.iload_n 3, 1) := by decide +kernel
theorem dX8_heir_124 : decode cX8_heir 124 = .ok (.iaload, 1) := by decide +kernel
theorem dX8_heir_125 : decode cX8_heir 125 = .ok (.iload_n 1, 1) := by decide +kernel
theorem dX8_heir_126 : decode cX8_heir 126 = .ok (.if_icmp .ne 10, 3) := by decide +kernel
theorem dX8_heir_129 : decode cX8_heir 129 = .ok (.aload_n 0, 1) := by decide +kernel
theorem dX8_heir_130 : decode cX8_heir 130 = .ok (.getfield 16, 3) := by decide +kernel
theorem dX8_heir_133 : decode cX8_heir 133 = .ok (.iload_n 3, 1) := by decide +kernel
theorem dX8_heir_134 : decode cX8_heir 134 = .ok (.iload_n 2, 1) := by decide +kernel
theorem dX8_heir_135 : decode cX8_heir 135 = .ok (.iastore, 1) := by decide +kernel
theorem dX8_heir_136 : decode cX8_heir 136 = .ok (.aload_n 0, 1) := by decide +kernel
theorem dX8_heir_137 : decode cX8_heir 137 = .ok (.getfield 19, 3) := by decide +kernel
theorem dX8_heir_140 : decode cX8_heir 140 = .ok (.iload_n 3, 1) := by decide +kernel
theorem dX8_heir_141 : decode cX8_heir 141 = .ok (.iaload, 1) := by decide +kernel
theorem dX8_heir_142 : decode cX8_heir 142 = .ok (.iload_n 1, 1) := by decide +kernel
theorem dX8_heir_143 : decode cX8_heir 143 = .ok (.if_icmp .ne 10, 3) := by decide +kernel
theorem dX8_heir_146 : decode cX8_heir 146 = .ok (.aload_n 0, 1) := by decide +kernel
theorem dX8_heir_147 : decode cX8_heir 147 = .ok (.getfield 19, 3) := by decide +kernel
theorem dX8_heir_150 : decode cX8_heir 150 = .ok (.iload_n 3, 1) := by decide +kernel
theorem dX8_heir_151 : decode cX8_heir 151 = .ok (.iload_n 2, 1) := by decide +kernel
theorem dX8_heir_152 : decode cX8_heir 152 = .ok (.iastore, 1) := by decide +kernel
theorem dX8_heir_153 : decode cX8_heir 153 = .ok (.iinc 3 1, 3) := by decide +kernel
theorem dX8_heir_156 : decode cX8_heir 156 = .ok (.goto (-104), 3) := by decide +kernel
theorem dX8_heir_159 : decode cX8_heir 159 = .ok (.iconst 1, 1) := by decide +kernel
theorem dX8_heir_160 : decode cX8_heir 160 = .ok (.ireturn, 1) := by decide +kernel
theorem dX8_wrong_0 : decode cX8_wrong 0 = .ok (.aload_n 0, 1) := by decide +kernel
theorem dX8_wrong_1 : decode cX8_wrong 1 = .ok (.iload_n 1, 1) := by decide +kernel
theorem dX8_wrong_2 : decode cX8_wrong 2 = .ok (.putfield 115, 3) := by decide +kernel
theorem dX8_wrong_5 : decode cX8_wrong 5 = .ok (.aload_n 0, 1) := by decide +kernel
theorem dX8_wrong_6 : decode cX8_wrong 6 = .ok (.iload_n 2, 1) := by decide +kernel
theorem dX8_wrong_7 : decode cX8_wrong 7 = .ok (.putfield 50, 3) := by decide +kernel
theorem dX8_wrong_10 : decode cX8_wrong 10 = .ok (.iconst 0, 1) := by decide +kernel
theorem dX8_wrong_11 : decode cX8_wrong 11 = .ok (.ireturn, 1) := by decide +kernel
theorem dX8_wordAt_0 : decode cX8_wordAt 0 = .ok (.iconst 0, 1) := by decide +kernel
theorem dX8_wordAt_1 : decode cX8_wordAt 1 = .ok (.istore_n 3, 1) := by decide +kernel
theorem dX8_wordAt_2 : decode cX8_wordAt 2 = .ok (.iconst 0, 1) := by decide +kernel
theorem dX8_wordAt_3 : decode cX8_wordAt 3 = .ok (.istore 4, 2) := by decide +kernel
theorem dX8_wordAt_5 : decode cX8_wordAt 5 = .ok (.iload 4, 2) := by decide +kernel
theorem dX8_wordAt_7 : decode cX8_wordAt 7 = .ok (.aload_n 0, 1) := by decide +kernel
theorem dX8_wordAt_8 : decode cX8_wordAt 8 = .ok (.getfield 57, 3) := by decide +kernel
theorem dX8_wordAt_11 : decode cX8_wordAt 11 = .ok (.arraylength, 1) := by decide +kernel
theorem dX8_wordAt_12 : decode cX8_wordAt 12 = .ok (.if_icmp .ge 114, 3) := by decide +kernel
theorem dX8_wordAt_15 : decode cX8_wordAt 15 = .ok (.iconst 0, 1) := by decide +kernel
theorem dX8_wordAt_16 : decode cX8_wordAt 16 = .ok (.istore 5, 2) := by decide +kernel
theorem dX8_wordAt_18 : decode cX8_wordAt 18 = .ok (.aload_n 0, 1) := by decide +kernel
theorem dX8_wordAt_19 : decode cX8_wordAt 19 = .ok (.getfield 57, 3) := by decide +kernel
theorem dX8_wordAt_22 : decode cX8_wordAt 22 = .ok (.iload 4, 2) := by decide +kernel
theorem dX8_wordAt_24 : decode cX8_wordAt 24 = .ok (.iload 5, 2) := by decide +kernel
theorem dX8_wordAt_26 : decode cX8_wordAt 26 = .ok (.iadd, 1) := by decide +kernel
theorem dX8_wordAt_27 : decode cX8_wordAt 27 = .ok (.iaload, 1) := by decide +kernel
theorem dX8_wordAt_28 : decode cX8_wordAt 28 = .ok (.bipush 32, 2) := by decide +kernel
theorem dX8_wordAt_30 : decode cX8_wordAt 30 = .ok (.if_icmp .eq 9, 3) := by decide +kernel
theorem dX8_wordAt_33 : decode cX8_wordAt 33 = .ok (.iinc 5 1, 3) := by decide +kernel
theorem dX8_wordAt_36 : decode cX8_wordAt 36 = .ok (.goto (-18), 3) := by decide +kernel
theorem dX8_wordAt_39 : decode cX8_wordAt 39 = .ok (.iload 5, 2) := by decide +kernel
theorem dX8_wordAt_41 : decode cX8_wordAt 41 = .ok (.iload_n 2, 1) := by decide +kernel
theorem dX8_wordAt_42 : decode cX8_wordAt 42 = .ok (.iload_n 1, 1) := by decide +kernel
theorem dX8_wordAt_43 : decode cX8_wordAt 43 = .ok (.isub, 1) := by decide +kernel
theorem dX8_wordAt_44 : decode cX8_wordAt 44 = .ok (.if_icmp .ne 7, 3) := by decide +kernel
theorem dX8_wordAt_47 : decode cX8_wordAt 47 = .ok (.iconst 1, 1) := by decide +kernel
theorem dX8_wordAt_48 : decode cX8_wordAt 48 = .ok (.goto 4, 3) := by decide +kernel
theorem dX8_wordAt_51 : decode cX8_wordAt 51 = .ok (.iconst 0, 1) := by decide +kernel
theorem dX8_wordAt_52 : decode cX8_wordAt 52 = .ok (.istore 6, 2) := by decide +kernel
theorem dX8_wordAt_54 : decode cX8_wordAt 54 = .ok (.iconst 0, 1) := by decide +kernel
theorem dX8_wordAt_55 : decode cX8_wordAt 55 = .ok (.istore 7, 2) := by decide +kernel
theorem dX8_wordAt_57 : decode cX8_wordAt 57 = .ok (.iload 7, 2) := by decide +kernel
theorem dX8_wordAt_59 : decode cX8_wordAt 59 = .ok (.iload 5, 2) := by decide +kernel
theorem dX8_wordAt_61 : decode cX8_wordAt 61 = .ok (.if_icmp .ge 43, 3) := by decide +kernel
theorem dX8_wordAt_64 : decode cX8_wordAt 64 = .ok (.iload 6, 2) := by decide +kernel
theorem dX8_wordAt_66 : decode cX8_wordAt 66 = .ok (.ifCond .eq 38, 3) := by decide +kernel
theorem dX8_wordAt_69 : decode cX8_wordAt 69 = .ok (.aload_n 0, 1) := by decide +kernel
theorem dX8_wordAt_70 : decode cX8_wordAt 70 = .ok (.getfield 57, 3) := by decide +kernel
theorem dX8_wordAt_73 : decode cX8_wordAt 73 = .ok (.iload 4, 2) := by decide +kernel
theorem dX8_wordAt_75 : decode cX8_wordAt 75 = .ok (.iload 7, 2) := by decide +kernel
theorem dX8_wordAt_77 : decode cX8_wordAt 77 = .ok (.iadd, 1) := by decide +kernel
theorem dX8_wordAt_78 : decode cX8_wordAt 78 = .ok (.iaload, 1) := by decide +kernel
theorem dX8_wordAt_79 : decode cX8_wordAt 79 = .ok (.aload_n 0, 1) := by decide +kernel
theorem dX8_wordAt_80 : decode cX8_wordAt 80 = .ok (.getfield 7, 3) := by decide +kernel
theorem dX8_wordAt_83 : decode cX8_wordAt 83 = .ok (.iload_n 1, 1) := by decide +kernel
theorem dX8_wordAt_84 : decode cX8_wordAt 84 = .ok (.iload 7, 2) := by decide +kernel
theorem dX8_wordAt_86 : decode cX8_wordAt 86 = .ok (.iadd, 1) := by decide +kernel
theorem dX8_wordAt_87 : decode cX8_wordAt 87 = .ok (.iaload, 1) := by decide +kernel
theorem dX8_wordAt_88 : decode cX8_wordAt 88 = .ok (.if_icmp .ne 7, 3) := by decide +kernel
theorem dX8_wordAt_91 : decode cX8_wordAt 91 = .ok (.iconst 1, 1) := by decide +kernel
theorem dX8_wordAt_92 : decode cX8_wordAt 92 = .ok (.goto 4, 3) := by decide +kernel
theorem dX8_wordAt_95 : decode cX8_wordAt 95 = .ok (.iconst 0, 1) := by decide +kernel
theorem dX8_wordAt_96 : decode cX8_wordAt 96 = .ok (.istore 6, 2) := by decide +kernel
theorem dX8_wordAt_98 : decode cX8_wordAt 98 = .ok (.iinc 7 1, 3) := by decide +kernel
theorem dX8_wordAt_101 : decode cX8_wordAt 101 = .ok (.goto (-44), 3) := by decide +kernel
theorem dX8_wordAt_104 : decode cX8_wordAt 104 = .ok (.iload 6, 2) := by decide +kernel
theorem dX8_wordAt_106 : decode cX8_wordAt 106 = .ok (.ifCond .eq 5, 3) := by decide +kernel
theorem dX8_wordAt_109 : decode cX8_wordAt 109 = .ok (.iload_n 3, 1) := by decide +kernel
theorem dX8_wordAt_110 : decode cX8_wordAt 110 = .ok (.ireturn, 1) := by decide +kernel
theorem dX8_wordAt_111 : decode cX8_wordAt 111 = .ok (.iload 4, 2) := by decide +kernel
theorem dX8_wordAt_113 : decode cX8_wordAt 113 = .ok (.iload 5, 2) := by decide +kernel
theorem dX8_wordAt_115 : decode cX8_wordAt 115 = .ok (.iconst 1, 1) := by decide +kernel
theorem dX8_wordAt_116 : decode cX8_wordAt 116 = .ok (.iadd, 1) := by decide +kernel
theorem dX8_wordAt_117 : decode cX8_wordAt 117 = .ok (.iadd, 1) := by decide +kernel
theorem dX8_wordAt_118 : decode cX8_wordAt 118 = .ok (.istore 4, 2) := by decide +kernel
theorem dX8_wordAt_120 : decode cX8_wordAt 120 = .ok (.iinc 3 1, 3) := by decide +kernel
theorem dX8_wordAt_123 : decode cX8_wordAt 123 = .ok (.goto (-118), 3) := by decide +kernel
theorem dX8_wordAt_126 : decode cX8_wordAt 126 = .ok (.iconst (-1), 1) := by decide +kernel
theorem dX8_wordAt_127 : decode cX8_wordAt 127 = .ok (.ireturn, 1) := by decide +kernel
theorem dX8_isSmall_0 : decode cX8_isSmall 0 = .ok (.iload_n 1, 1) := by decide +kernel
theorem dX8_isSmall_1 : decode cX8_isSmall 1 = .ok (.aload_n 0, 1) := by decide +kernel
theorem dX8_isSmall_2 : decode cX8_isSmall 2 = .ok (.getfield 118, 3) := by decide +kernel
theorem dX8_isSmall_5 : decode cX8_isSmall 5 = .ok (.if_icmp .ge 29, 3) := by decide +kernel
theorem dX8_isSmall_8 : decode cX8_isSmall 8 = .ok (.aload_n 0, 1) := by decide +kernel
theorem dX8_isSmall_9 : decode cX8_isSmall 9 = .ok (.getfield 7, 3) := by decide +kernel
theorem dX8_isSmall_12 : decode cX8_isSmall 12 = .ok (.iload_n 1, 1) := by decide +kernel
theorem dX8_isSmall_13 : decode cX8_isSmall 13 = .ok (.iaload, 1) := by decide +kernel
theorem dX8_isSmall_14 : decode cX8_isSmall 14 = .ok (.bipush 97, 2) := by decide +kernel
theorem dX8_isSmall_16 : decode cX8_isSmall 16 = .ok (.if_icmp .lt 18, 3) := by decide +kernel
theorem dX8_isSmall_19 : decode cX8_isSmall 19 = .ok (.aload_n 0, 1) := by decide +kernel
theorem dX8_isSmall_20 : decode cX8_isSmall 20 = .ok (.getfield 7, 3) := by decide +kernel
theorem dX8_isSmall_23 : decode cX8_isSmall 23 = .ok (.iload_n 1, 1) := by decide +kernel
theorem dX8_isSmall_24 : decode cX8_isSmall 24 = .ok (.iaload, 1) := by decide +kernel
theorem dX8_isSmall_25 : decode cX8_isSmall 25 = .ok (.bipush 122, 2) := by decide +kernel
theorem dX8_isSmall_27 : decode cX8_isSmall 27 = .ok (.if_icmp .gt 7, 3) := by decide +kernel
theorem dX8_isSmall_30 : decode cX8_isSmall 30 = .ok (.iconst 1, 1) := by decide +kernel
theorem dX8_isSmall_31 : decode cX8_isSmall 31 = .ok (.goto 4, 3) := by decide +kernel
theorem dX8_isSmall_34 : decode cX8_isSmall 34 = .ok (.iconst 0, 1) := by decide +kernel
theorem dX8_isSmall_35 : decode cX8_isSmall 35 = .ok (.ireturn, 1) := by decide +kernel
theorem dX8_isDigit_0 : decode cX8_isDigit 0 = .ok (.iload_n 1, 1) := by decide +kernel
theorem dX8_isDigit_1 : decode cX8_isDigit 1 = .ok (.aload_n 0, 1) := by decide +kernel
theorem dX8_isDigit_2 : decode cX8_isDigit 2 = .ok (.getfield 118, 3) := by decide +kernel
theorem dX8_isDigit_5 : decode cX8_isDigit 5 = .ok (.if_icmp .ge 29, 3) := by decide +kernel
theorem dX8_isDigit_8 : decode cX8_isDigit 8 = .ok (.aload_n 0, 1) := by decide +kernel
theorem dX8_isDigit_9 : decode cX8_isDigit 9 = .ok (.getfield 7, 3) := by decide +kernel
theorem dX8_isDigit_12 : decode cX8_isDigit 12 = .ok (.iload_n 1, 1) := by decide +kernel
theorem dX8_isDigit_13 : decode cX8_isDigit 13 = .ok (.iaload, 1) := by decide +kernel
theorem dX8_isDigit_14 : decode cX8_isDigit 14 = .ok (.bipush 48, 2) := by decide +kernel
theorem dX8_isDigit_16 : decode cX8_isDigit 16 = .ok (.if_icmp .lt 18, 3) := by decide +kernel
theorem dX8_isDigit_19 : decode cX8_isDigit 19 = .ok (.aload_n 0, 1) := by decide +kernel
theorem dX8_isDigit_20 : decode cX8_isDigit 20 = .ok (.getfield 7, 3) := by decide +kernel
theorem dX8_isDigit_23 : decode cX8_isDigit 23 = .ok (.iload_n 1, 1) := by decide +kernel
theorem dX8_isDigit_24 : decode cX8_isDigit 24 = .ok (.iaload, 1) := by decide +kernel
theorem dX8_isDigit_25 : decode cX8_isDigit 25 = .ok (.bipush 57, 2) := by decide +kernel
theorem dX8_isDigit_27 : decode cX8_isDigit 27 = .ok (.if_icmp .gt 7, 3) := by decide +kernel
theorem dX8_isDigit_30 : decode cX8_isDigit 30 = .ok (.iconst 1, 1) := by decide +kernel
theorem dX8_isDigit_31 : decode cX8_isDigit 31 = .ok (.goto 4, 3) := by decide +kernel
theorem dX8_isDigit_34 : decode cX8_isDigit 34 = .ok (.iconst 0, 1) := by decide +kernel
theorem dX8_isDigit_35 : decode cX8_isDigit 35 = .ok (.ireturn, 1) := by decide +kernel
set_option maxRecDepth 20000 in
theorem ggX8_take_X8_isSmall : GoodIn wsX8_take wsX8_isSmall := goodIn_r _ [11, 2, 3, 21, 22, 23, 24, 25, 26, 27, 28, 29, 30, 31, 32, 33, 34, 35, 36, 37, 38, 39, 40, 41, 42, 43, 44, 45, 46, 47, 48, 49, 50, 51, 52, 53, 54, 55, 56, 57, 58, 59, 60, 61, 62, 63, 64] (by decide +kernel) (by decide +kernel)
set_option maxRecDepth 20000 in
theorem gX8_take_X8_isSmall : GoodIn wsX8_take (wsV RX8 130 RX8 yX8_isSmall wsX8_isSmall) := goodIn_app (goodIn_of _ (by decide +kernel)) ggX8_take_X8_isSmall
set_option maxRecDepth 20000 in
theorem ggX8_take_X8_wordAt : GoodIn wsX8_take wsX8_wordAt := goodIn_r _ [15, 16, 3, 21, 22, 23, 24, 25, 26, 27, 28, 29, 30, 31, 32, 33, 34, 35, 36, 37, 38, 39, 40, 41, 42, 43, 44, 45, 46, 47, 48, 49, 50, 51, 52, 53, 54, 55, 56, 57, 58, 59, 60, 61, 62, 63, 64] (by decide +kernel) (by decide +kernel)
set_option maxRecDepth 20000 in
theorem gX8_take_X8_wordAt : GoodIn wsX8_take (wsV RX8 133 RX8 yX8_wordAt wsX8_wordAt) := goodIn_app (goodIn_of _ (by decide +kernel)) ggX8_take_X8_wordAt
set_option maxRecDepth 20000 in
theorem ggX8_take_X8_isDigit : GoodIn wsX8_take wsX8_isDigit := goodIn_r _ [20, 2, 3, 21, 22, 23, 24, 25, 26, 27, 28, 29, 30, 31, 32, 33, 34, 35, 36, 37, 38, 39, 40, 41, 42, 43, 44, 45, 46, 47, 48, 49, 50, 51, 52, 53, 54, 55, 56, 57, 58, 59, 60, 61, 62, 63, 64] (by decide +kernel) (by decide +kernel)
set_option maxRecDepth 20000 in
theorem gX8_take_X8_isDigit : GoodIn wsX8_take (wsV RX8 140 RX8 yX8_isDigit wsX8_isDigit) := goodIn_app (goodIn_of _ (by decide +kernel)) ggX8_take_X8_isDigit
theorem dX8_take_0 : decode cX8_take 0 = .ok (.aload_n 0, 1) := by decide +kernel
theorem dX8_take_1 : decode cX8_take 1 = .ok (.getfield 121, 3) := by decide +kernel
theorem dX8_take_4 : decode cX8_take 4 = .ok (.aload_n 0, 1) := by decide +kernel
theorem dX8_take_5 : decode cX8_take 5 = .ok (.getfield 118, 3) := by decide +kernel
theorem dX8_take_8 : decode cX8_take 8 = .ok (.if_icmp .ge 44, 3) := by decide +kernel
theorem dX8_take_11 : decode cX8_take 11 = .ok (.aload_n 0, 1) := by decide +kernel
theorem dX8_take_12 : decode cX8_take 12 = .ok (.getfield 7, 3) := by decide +kernel
theorem dX8_take_15 : decode cX8_take 15 = .ok (.aload_n 0, 1) := by decide +kernel
theorem dX8_take_16 : decode cX8_take 16 = .ok (.getfield 121, 3) := by decide +kernel
theorem dX8_take_19 : decode cX8_take 19 = .ok (.iaload, 1) := by decide +kernel
theorem dX8_take_20 : decode cX8_take 20 = .ok (.bipush 10, 2) := by decide +kernel
theorem dX8_take_22 : decode cX8_take 22 = .ok (.if_icmp .eq 17, 3) := by decide +kernel
theorem dX8_take_25 : decode cX8_take 25 = .ok (.aload_n 0, 1) := by decide +kernel
theorem dX8_take_26 : decode cX8_take 26 = .ok (.getfield 7, 3) := by decide +kernel
theorem dX8_take_29 : decode cX8_take 29 = .ok (.aload_n 0, 1) := by decide +kernel
theorem dX8_take_30 : decode cX8_take 30 = .ok (.getfield 121, 3) := by decide +kernel
theorem dX8_take_33 : decode cX8_take 33 = .ok (.iaload, 1) := by decide +kernel
theorem dX8_take_34 : decode cX8_take 34 = .ok (.bipush 32, 2) := by decide +kernel
theorem dX8_take_36 : decode cX8_take 36 = .ok (.if_icmp .ne 16, 3) := by decide +kernel
theorem dX8_take_39 : decode cX8_take 39 = .ok (.aload_n 0, 1) := by decide +kernel
theorem dX8_take_40 : decode cX8_take 40 = .ok (.dup, 1) := by decide +kernel
theorem dX8_take_41 : decode cX8_take 41 = .ok (.getfield 121, 3) := by decide +kernel
theorem dX8_take_44 : decode cX8_take 44 = .ok (.iconst 1, 1) := by decide +kernel
theorem dX8_take_45 : decode cX8_take 45 = .ok (.iadd, 1) := by decide +kernel
theorem dX8_take_46 : decode cX8_take 46 = .ok (.putfield 121, 3) := by decide +kernel
theorem dX8_take_49 : decode cX8_take 49 = .ok (.goto (-49), 3) := by decide +kernel
theorem dX8_take_52 : decode cX8_take 52 = .ok (.aload_n 0, 1) := by decide +kernel
theorem dX8_take_53 : decode cX8_take 53 = .ok (.aload_n 0, 1) := by decide +kernel
theorem dX8_take_54 : decode cX8_take 54 = .ok (.getfield 121, 3) := by decide +kernel
theorem dX8_take_57 : decode cX8_take 57 = .ok (.putfield 124, 3) := by decide +kernel
theorem dX8_take_60 : decode cX8_take 60 = .ok (.aload_n 0, 1) := by decide +kernel
theorem dX8_take_61 : decode cX8_take 61 = .ok (.getfield 121, 3) := by decide +kernel
theorem dX8_take_64 : decode cX8_take 64 = .ok (.aload_n 0, 1) := by decide +kernel
theorem dX8_take_65 : decode cX8_take 65 = .ok (.getfield 118, 3) := by decide +kernel
theorem dX8_take_68 : decode cX8_take 68 = .ok (.if_icmp .ne 11, 3) := by decide +kernel
theorem dX8_take_71 : decode cX8_take 71 = .ok (.aload_n 0, 1) := by decide +kernel
theorem dX8_take_72 : decode cX8_take 72 = .ok (.iconst 0, 1) := by decide +kernel
theorem dX8_take_73 : decode cX8_take 73 = .ok (.putfield 127, 3) := by decide +kernel
theorem dX8_take_76 : decode cX8_take 76 = .ok (.goto 192, 3) := by decide +kernel
theorem dX8_take_79 : decode cX8_take 79 = .ok (.aload_n 0, 1) := by decide +kernel
theorem dX8_take_80 : decode cX8_take 80 = .ok (.aload_n 0, 1) := by decide +kernel
theorem dX8_take_81 : decode cX8_take 81 = .ok (.getfield 121, 3) := by decide +kernel
theorem dX8_take_84 : decode cX8_take 84 = .ok (.invokevirtual 130, 3) := by decide +kernel
theorem dX8_take_87 : decode cX8_take 87 = .ok (.ifCond .eq 62, 3) := by decide +kernel
theorem dX8_take_90 : decode cX8_take 90 = .ok (.aload_n 0, 1) := by decide +kernel
theorem dX8_take_91 : decode cX8_take 91 = .ok (.aload_n 0, 1) := by decide +kernel
theorem dX8_take_92 : decode cX8_take 92 = .ok (.getfield 121, 3) := by decide +kernel
theorem dX8_take_95 : decode cX8_take 95 = .ok (.invokevirtual 130, 3) := by decide +kernel
theorem dX8_take_98 : decode cX8_take 98 = .ok (.ifCond .eq 16, 3) := by decide +kernel
theorem dX8_take_101 : decode cX8_take 101 = .ok (.aload_n 0, 1) := by decide +kernel
theorem dX8_take_102 : decode cX8_take 102 = .ok (.dup, 1) := by decide +kernel
theorem dX8_take_103 : decode cX8_take 103 = .ok (.getfield 121, 3) := by decide +kernel
theorem dX8_take_106 : decode cX8_take 106 = .ok (.iconst 1, 1) := by decide +kernel
theorem dX8_take_107 : decode cX8_take 107 = .ok (.iadd, 1) := by decide +kernel
theorem dX8_take_108 : decode cX8_take 108 = .ok (.putfield 121, 3) := by decide +kernel
theorem dX8_take_111 : decode cX8_take 111 = .ok (.goto (-21), 3) := by decide +kernel
theorem dX8_take_114 : decode cX8_take 114 = .ok (.aload_n 0, 1) := by decide +kernel
theorem dX8_take_115 : decode cX8_take 115 = .ok (.aload_n 0, 1) := by decide +kernel
theorem dX8_take_116 : decode cX8_take 116 = .ok (.aload_n 0, 1) := by decide +kernel
theorem dX8_take_117 : decode cX8_take 117 = .ok (.getfield 124, 3) := by decide +kernel
theorem dX8_take_120 : decode cX8_take 120 = .ok (.aload_n 0, 1) := by decide +kernel
theorem dX8_take_121 : decode cX8_take 121 = .ok (.getfield 121, 3) := by decide +kernel
theorem dX8_take_124 : decode cX8_take 124 = .ok (.invokevirtual 133, 3) := by decide +kernel
theorem dX8_take_127 : decode cX8_take 127 = .ok (.putfield 137, 3) := by decide +kernel
theorem dX8_take_130 : decode cX8_take 130 = .ok (.aload_n 0, 1) := by decide +kernel
theorem dX8_take_131 : decode cX8_take 131 = .ok (.aload_n 0, 1) := by decide +kernel
theorem dX8_take_132 : decode cX8_take 132 = .ok (.getfield 137, 3) := by decide +kernel
theorem dX8_take_135 : decode cX8_take 135 = .ok (.ifCond .ge 7, 3) := by decide +kernel
theorem dX8_take_138 : decode cX8_take 138 = .ok (.iconst 4, 1) := by decide +kernel
theorem dX8_take_139 : decode cX8_take 139 = .ok (.goto 4, 3) := by decide +kernel
theorem dX8_take_142 : decode cX8_take 142 = .ok (.iconst 1, 1) := by decide +kernel
theorem dX8_take_143 : decode cX8_take 143 = .ok (.putfield 127, 3) := by decide +kernel
theorem dX8_take_146 : decode cX8_take 146 = .ok (.goto 122, 3) := by decide +kernel
theorem dX8_take_149 : decode cX8_take 149 = .ok (.aload_n 0, 1) := by decide +kernel
theorem dX8_take_150 : decode cX8_take 150 = .ok (.aload_n 0, 1) := by decide +kernel
theorem dX8_take_151 : decode cX8_take 151 = .ok (.getfield 121, 3) := by decide +kernel
theorem dX8_take_154 : decode cX8_take 154 = .ok (.invokevirtual 140, 3) := by decide +kernel
theorem dX8_take_157 : decode cX8_take 157 = .ok (.ifCond .eq 78, 3) := by decide +kernel
theorem dX8_take_160 : decode cX8_take 160 = .ok (.aload_n 0, 1) := by decide +kernel
theorem dX8_take_161 : decode cX8_take 161 = .ok (.iconst 2, 1) := by decide +kernel
theorem dX8_take_162 : decode cX8_take 162 = .ok (.putfield 127, 3) := by decide +kernel
theorem dX8_take_165 : decode cX8_take 165 = .ok (.aload_n 0, 1) := by decide +kernel
theorem dX8_take_166 : decode cX8_take 166 = .ok (.iconst 0, 1) := by decide +kernel
theorem dX8_take_167 : decode cX8_take 167 = .ok (.putfield 137, 3) := by decide +kernel
theorem dX8_take_170 : decode cX8_take 170 = .ok (.aload_n 0, 1) := by decide +kernel
theorem dX8_take_171 : decode cX8_take 171 = .ok (.aload_n 0, 1) := by decide +kernel
theorem dX8_take_172 : decode cX8_take 172 = .ok (.getfield 121, 3) := by decide +kernel
theorem dX8_take_175 : decode cX8_take 175 = .ok (.invokevirtual 140, 3) := by decide +kernel
theorem dX8_take_178 : decode cX8_take 178 = .ok (.ifCond .eq 90, 3) := by decide +kernel
theorem dX8_take_181 : decode cX8_take 181 = .ok (.aload_n 0, 1) := by decide +kernel
theorem dX8_take_182 : decode cX8_take 182 = .ok (.aload_n 0, 1) := by decide +kernel
theorem dX8_take_183 : decode cX8_take 183 = .ok (.getfield 137, 3) := by decide +kernel
theorem dX8_take_186 : decode cX8_take 186 = .ok (.sipush 9999, 3) := by decide +kernel
theorem dX8_take_189 : decode cX8_take 189 = .ok (.if_icmp .le 10, 3) := by decide +kernel
theorem dX8_take_192 : decode cX8_take 192 = .ok (.aload_n 0, 1) := by decide +kernel
theorem dX8_take_193 : decode cX8_take 193 = .ok (.getfield 137, 3) := by decide +kernel
theorem dX8_take_196 : decode cX8_take 196 = .ok (.goto 23, 3) := by decide +kernel
theorem dX8_take_199 : decode cX8_take 199 = .ok (.bipush 10, 2) := by decide +kernel
theorem dX8_take_201 : decode cX8_take 201 = .ok (.aload_n 0, 1) := by decide +kernel
theorem dX8_take_202 : decode cX8_take 202 = .ok (.getfield 137, 3) := by decide +kernel
theorem dX8_take_205 : decode cX8_take 205 = .ok (.imul, 1) := by decide +kernel
theorem dX8_take_206 : decode cX8_take 206 = .ok (.aload_n 0, 1) := by decide +kernel
theorem dX8_take_207 : decode cX8_take 207 = .ok (.getfield 7, 3) := by decide +kernel
theorem dX8_take_210 : decode cX8_take 210 = .ok (.aload_n 0, 1) := by decide +kernel
theorem dX8_take_211 : decode cX8_take 211 = .ok (.getfield 121, 3) := by decide +kernel
theorem dX8_take_214 : decode cX8_take 214 = .ok (.iaload, 1) := by decide +kernel
theorem dX8_take_215 : decode cX8_take 215 = .ok (.iadd, 1) := by decide +kernel
theorem dX8_take_216 : decode cX8_take 216 = .ok (.bipush 48, 2) := by decide +kernel
theorem dX8_take_218 : decode cX8_take 218 = .ok (.isub, 1) := by decide +kernel
theorem dX8_take_219 : decode cX8_take 219 = .ok (.putfield 137, 3) := by decide +kernel
theorem dX8_take_222 : decode cX8_take 222 = .ok (.aload_n 0, 1) := by decide +kernel
theorem dX8_take_223 : decode cX8_take 223 = .ok (.dup, 1) := by decide +kernel
theorem dX8_take_224 : decode cX8_take 224 = .ok (.getfield 121, 3) := by decide +kernel
theorem dX8_take_227 : decode cX8_take 227 = .ok (.iconst 1, 1) := by decide +kernel
theorem dX8_take_228 : decode cX8_take 228 = .ok (.iadd, 1) := by decide +kernel
theorem dX8_take_229 : decode cX8_take 229 = .ok (.putfield 121, 3) := by decide +kernel
theorem dX8_take_232 : decode cX8_take 232 = .ok (.goto (-62), 3) := by decide +kernel
theorem dX8_take_235 : decode cX8_take 235 = .ok (.aload_n 0, 1) := by decide +kernel
theorem dX8_take_236 : decode cX8_take 236 = .ok (.aload_n 0, 1) := by decide +kernel
theorem dX8_take_237 : decode cX8_take 237 = .ok (.getfield 7, 3) := by decide +kernel
theorem dX8_take_240 : decode cX8_take 240 = .ok (.aload_n 0, 1) := by decide +kernel
theorem dX8_take_241 : decode cX8_take 241 = .ok (.getfield 121, 3) := by decide +kernel
theorem dX8_take_244 : decode cX8_take 244 = .ok (.iaload, 1) := by decide +kernel
theorem dX8_take_245 : decode cX8_take 245 = .ok (.bipush 59, 2) := by decide +kernel
theorem dX8_take_247 : decode cX8_take 247 = .ok (.if_icmp .ne 7, 3) := by decide +kernel
theorem dX8_take_250 : decode cX8_take 250 = .ok (.iconst 3, 1) := by decide +kernel
theorem dX8_take_251 : decode cX8_take 251 = .ok (.goto 4, 3) := by decide +kernel
theorem dX8_take_254 : decode cX8_take 254 = .ok (.iconst 4, 1) := by decide +kernel
theorem dX8_take_255 : decode cX8_take 255 = .ok (.putfield 127, 3) := by decide +kernel
theorem dX8_take_258 : decode cX8_take 258 = .ok (.aload_n 0, 1) := by decide +kernel
theorem dX8_take_259 : decode cX8_take 259 = .ok (.dup, 1) := by decide +kernel
end
section
theorem dX8_take_260 : decode cX8_take 260 = .ok (.getfield 121, 3) := by decide +kernel
theorem dX8_take_263 : decode cX8_take 263 = .ok (.iconst 1, 1) := by decide +kernel
theorem dX8_take_264 : decode cX8_take 264 = .ok (.iadd, 1) := by decide +kernel
theorem dX8_take_265 : decode cX8_take 265 = .ok (.putfield 121, 3) := by decide +kernel
theorem dX8_take_268 : decode cX8_take 268 = .ok (.return_, 1) := by decide +kernel
set_option maxRecDepth 20000 in
theorem ggX8_number_X8_wrong : GoodIn wsX8_number wsX8_wrong := goodIn_r _ [9, 10, 11, 32, 33, 34, 35, 36, 37, 38, 39, 40, 41, 42, 43, 44, 45, 46, 47, 48, 49, 50, 51, 52, 53, 54, 55, 56, 57, 58, 59, 60, 61, 62, 63, 64, 65, 66, 67, 68, 69, 70, 71, 72, 73, 74, 75] (by decide +kernel) (by decide +kernel)
set_option maxRecDepth 20000 in
theorem gX8_number_X8_wrong : GoodIn wsX8_number (wsV RX8 143 RX8 yX8_wrong wsX8_wrong) := goodIn_app (goodIn_of _ (by decide +kernel)) ggX8_number_X8_wrong
set_option maxRecDepth 20000 in
theorem ggX8_number_X8_take : GoodIn wsX8_number wsX8_take := goodIn_r _ [15, 16, 17, 18, 2, 1, 3, 19, 20, 21, 8, 22, 23, 24, 25, 26, 27, 28, 29, 30, 31, 32, 33, 34, 35, 36, 37, 38, 39, 40, 41, 42, 43, 44, 45, 46, 47, 48, 49, 50, 51, 52, 53, 54, 55, 56, 57, 58, 59, 60, 61, 62, 63, 64, 65, 66, 67, 68, 69, 70, 71, 72, 73, 74, 75] (by decide +kernel) (by decide +kernel)
set_option maxRecDepth 20000 in
theorem gX8_number_X8_take : GoodIn wsX8_number (wsV RX8 150 RX8 yX8_take wsX8_take) := goodIn_app (goodIn_of _ (by decide +kernel)) ggX8_number_X8_take
theorem dX8_number_0 : decode cX8_number 0 = .ok (.aload_n 0, 1) := by decide +kernel
theorem dX8_number_1 : decode cX8_number 1 = .ok (.getfield 127, 3) := by decide +kernel
theorem dX8_number_4 : decode cX8_number 4 = .ok (.iconst 2, 1) := by decide +kernel
theorem dX8_number_5 : decode cX8_number 5 = .ok (.if_icmp .eq 13, 3) := by decide +kernel
theorem dX8_number_8 : decode cX8_number 8 = .ok (.aload_n 0, 1) := by decide +kernel
theorem dX8_number_9 : decode cX8_number 9 = .ok (.iconst 1, 1) := by decide +kernel
theorem dX8_number_10 : decode cX8_number 10 = .ok (.aload_n 0, 1) := by decide +kernel
theorem dX8_number_11 : decode cX8_number 11 = .ok (.getfield 124, 3) := by decide +kernel
theorem dX8_number_14 : decode cX8_number 14 = .ok (.invokevirtual 143, 3) := by decide +kernel
theorem dX8_number_17 : decode cX8_number 17 = .ok (.ireturn, 1) := by decide +kernel
theorem dX8_number_18 : decode cX8_number 18 = .ok (.aload_n 0, 1) := by decide +kernel
theorem dX8_number_19 : decode cX8_number 19 = .ok (.getfield 137, 3) := by decide +kernel
theorem dX8_number_22 : decode cX8_number 22 = .ok (.iload_n 1, 1) := by decide +kernel
theorem dX8_number_23 : decode cX8_number 23 = .ok (.if_icmp .le 13, 3) := by decide +kernel
theorem dX8_number_26 : decode cX8_number 26 = .ok (.aload_n 0, 1) := by decide +kernel
theorem dX8_number_27 : decode cX8_number 27 = .ok (.iconst 2, 1) := by decide +kernel
theorem dX8_number_28 : decode cX8_number 28 = .ok (.aload_n 0, 1) := by decide +kernel
theorem dX8_number_29 : decode cX8_number 29 = .ok (.getfield 124, 3) := by decide +kernel
theorem dX8_number_32 : decode cX8_number 32 = .ok (.invokevirtual 143, 3) := by decide +kernel
theorem dX8_number_35 : decode cX8_number 35 = .ok (.ireturn, 1) := by decide +kernel
theorem dX8_number_36 : decode cX8_number 36 = .ok (.aload_n 0, 1) := by decide +kernel
theorem dX8_number_37 : decode cX8_number 37 = .ok (.aload_n 0, 1) := by decide +kernel
theorem dX8_number_38 : decode cX8_number 38 = .ok (.getfield 137, 3) := by decide +kernel
theorem dX8_number_41 : decode cX8_number 41 = .ok (.putfield 147, 3) := by decide +kernel
theorem dX8_number_44 : decode cX8_number 44 = .ok (.aload_n 0, 1) := by decide +kernel
theorem dX8_number_45 : decode cX8_number 45 = .ok (.invokevirtual 150, 3) := by decide +kernel
theorem dX8_number_48 : decode cX8_number 48 = .ok (.iconst 1, 1) := by decide +kernel
theorem dX8_number_49 : decode cX8_number 49 = .ok (.ireturn, 1) := by decide +kernel
set_option maxRecDepth 20000 in
theorem ggX8_line_X8_wrong : GoodIn wsX8_line wsX8_wrong := goodIn_r _ [10, 11, 12, 37, 38, 39, 40, 41, 42, 43, 44, 45, 46, 47, 48, 49, 50, 51, 52, 53, 54, 55, 56, 57, 58, 59, 60, 61, 62, 63, 64, 65, 66, 67, 68, 69, 70, 71, 72, 73, 74, 75, 76, 77, 78, 79, 80] (by decide +kernel) (by decide +kernel)
set_option maxRecDepth 20000 in
theorem gX8_line_X8_wrong : GoodIn wsX8_line (wsV RX8 143 RX8 yX8_wrong wsX8_wrong) := goodIn_app (goodIn_of _ (by decide +kernel)) ggX8_line_X8_wrong
set_option maxRecDepth 20000 in
theorem ggX8_line_X8_take : GoodIn wsX8_line wsX8_take := goodIn_r _ [16, 17, 18, 19, 2, 1, 3, 20, 21, 22, 9, 23, 24, 25, 26, 27, 28, 29, 30, 31, 32, 37, 38, 39, 40, 41, 42, 43, 44, 45, 46, 47, 48, 49, 50, 51, 52, 53, 54, 55, 56, 57, 58, 59, 60, 61, 62, 63, 64, 65, 66, 67, 68, 69, 70, 71, 72, 73, 74, 75, 76, 77, 78, 79, 80] (by decide +kernel) (by decide +kernel)
set_option maxRecDepth 20000 in
theorem gX8_line_X8_take : GoodIn wsX8_line (wsV RX8 150 RX8 yX8_take wsX8_take) := goodIn_app (goodIn_of _ (by decide +kernel)) ggX8_line_X8_take
set_option maxRecDepth 20000 in
theorem ggX8_line_X8_number : GoodIn wsX8_line wsX8_number := goodIn_r _ [36, 1, 2, 3, 5, 6, 7, 8, 9, 10, 11, 12, 13, 14, 15, 16, 17, 18, 19, 20, 21, 22, 23, 24, 25, 26, 27, 28, 29, 30, 31, 32, 37, 38, 39, 40, 41, 42, 43, 44, 45, 46, 47, 48, 49, 50, 51, 52, 53, 54, 55, 56, 57, 58, 59, 60, 61, 62, 63, 64, 65, 66, 67, 68, 69, 70, 71, 72, 73, 74, 75, 76, 77, 78, 79, 80] (by decide +kernel) (by decide +kernel)
set_option maxRecDepth 20000 in
theorem gX8_line_X8_number : GoodIn wsX8_line (wsV RX8 153 RX8 yX8_number wsX8_number) := goodIn_app (goodIn_of _ (by decide +kernel)) ggX8_line_X8_number
theorem dX8_line_0 : decode cX8_line 0 = .ok (.aload_n 0, 1) := by decide +kernel
theorem dX8_line_1 : decode cX8_line 1 = .ok (.getfield 127, 3) := by decide +kernel
theorem dX8_line_4 : decode cX8_line 4 = .ok (.iconst 1, 1) := by decide +kernel
theorem dX8_line_5 : decode cX8_line 5 = .ok (.if_icmp .eq 13, 3) := by decide +kernel
theorem dX8_line_8 : decode cX8_line 8 = .ok (.aload_n 0, 1) := by decide +kernel
theorem dX8_line_9 : decode cX8_line 9 = .ok (.iconst 1, 1) := by decide +kernel
theorem dX8_line_10 : decode cX8_line 10 = .ok (.aload_n 0, 1) := by decide +kernel
theorem dX8_line_11 : decode cX8_line 11 = .ok (.getfield 124, 3) := by decide +kernel
theorem dX8_line_14 : decode cX8_line 14 = .ok (.invokevirtual 143, 3) := by decide +kernel
theorem dX8_line_17 : decode cX8_line 17 = .ok (.ireturn, 1) := by decide +kernel
theorem dX8_line_18 : decode cX8_line 18 = .ok (.aload_n 0, 1) := by decide +kernel
theorem dX8_line_19 : decode cX8_line 19 = .ok (.getfield 137, 3) := by decide +kernel
theorem dX8_line_22 : decode cX8_line 22 = .ok (.istore_n 1, 1) := by decide +kernel
theorem dX8_line_23 : decode cX8_line 23 = .ok (.aload_n 0, 1) := by decide +kernel
theorem dX8_line_24 : decode cX8_line 24 = .ok (.getfield 124, 3) := by decide +kernel
theorem dX8_line_27 : decode cX8_line 27 = .ok (.istore_n 2, 1) := by decide +kernel
theorem dX8_line_28 : decode cX8_line 28 = .ok (.iload_n 1, 1) := by decide +kernel
theorem dX8_line_29 : decode cX8_line 29 = .ok (.iconst 1, 1) := by decide +kernel
theorem dX8_line_30 : decode cX8_line 30 = .ok (.if_icmp .le 53, 3) := by decide +kernel
theorem dX8_line_33 : decode cX8_line 33 = .ok (.bipush 16, 2) := by decide +kernel
theorem dX8_line_35 : decode cX8_line 35 = .ok (.iload_n 1, 1) := by decide +kernel
theorem dX8_line_36 : decode cX8_line 36 = .ok (.iadd, 1) := by decide +kernel
theorem dX8_line_37 : decode cX8_line 37 = .ok (.istore_n 3, 1) := by decide +kernel
theorem dX8_line_38 : decode cX8_line 38 = .ok (.aload_n 0, 1) := by decide +kernel
theorem dX8_line_39 : decode cX8_line 39 = .ok (.getfield 47, 3) := by decide +kernel
theorem dX8_line_42 : decode cX8_line 42 = .ok (.iload_n 3, 1) := by decide +kernel
theorem dX8_line_43 : decode cX8_line 43 = .ok (.iaload, 1) := by decide +kernel
theorem dX8_line_44 : decode cX8_line 44 = .ok (.ifCond .lt 10, 3) := by decide +kernel
theorem dX8_line_47 : decode cX8_line 47 = .ok (.aload_n 0, 1) := by decide +kernel
theorem dX8_line_48 : decode cX8_line 48 = .ok (.iconst 3, 1) := by decide +kernel
theorem dX8_line_49 : decode cX8_line 49 = .ok (.iload_n 2, 1) := by decide +kernel
theorem dX8_line_50 : decode cX8_line 50 = .ok (.invokevirtual 143, 3) := by decide +kernel
theorem dX8_line_53 : decode cX8_line 53 = .ok (.ireturn, 1) := by decide +kernel
theorem dX8_line_54 : decode cX8_line 54 = .ok (.aload_n 0, 1) := by decide +kernel
theorem dX8_line_55 : decode cX8_line 55 = .ok (.invokevirtual 150, 3) := by decide +kernel
theorem dX8_line_58 : decode cX8_line 58 = .ok (.aload_n 0, 1) := by decide +kernel
theorem dX8_line_59 : decode cX8_line 59 = .ok (.sipush 999, 3) := by decide +kernel
theorem dX8_line_62 : decode cX8_line 62 = .ok (.invokevirtual 153, 3) := by decide +kernel
theorem dX8_line_65 : decode cX8_line 65 = .ok (.ifCond .ne 5, 3) := by decide +kernel
theorem dX8_line_68 : decode cX8_line 68 = .ok (.iconst 0, 1) := by decide +kernel
theorem dX8_line_69 : decode cX8_line 69 = .ok (.ireturn, 1) := by decide +kernel
theorem dX8_line_70 : decode cX8_line 70 = .ok (.aload_n 0, 1) := by decide +kernel
theorem dX8_line_71 : decode cX8_line 71 = .ok (.getfield 47, 3) := by decide +kernel
theorem dX8_line_74 : decode cX8_line 74 = .ok (.iload_n 3, 1) := by decide +kernel
theorem dX8_line_75 : decode cX8_line 75 = .ok (.aload_n 0, 1) := by decide +kernel
theorem dX8_line_76 : decode cX8_line 76 = .ok (.getfield 147, 3) := by decide +kernel
theorem dX8_line_79 : decode cX8_line 79 = .ok (.iastore, 1) := by decide +kernel
theorem dX8_line_80 : decode cX8_line 80 = .ok (.goto 105, 3) := by decide +kernel
theorem dX8_line_83 : decode cX8_line 83 = .ok (.aload_n 0, 1) := by decide +kernel
theorem dX8_line_84 : decode cX8_line 84 = .ok (.invokevirtual 150, 3) := by decide +kernel
theorem dX8_line_87 : decode cX8_line 87 = .ok (.aload_n 0, 1) := by decide +kernel
theorem dX8_line_88 : decode cX8_line 88 = .ok (.getfield 124, 3) := by decide +kernel
theorem dX8_line_91 : decode cX8_line 91 = .ok (.istore_n 2, 1) := by decide +kernel
theorem dX8_line_92 : decode cX8_line 92 = .ok (.aload_n 0, 1) := by decide +kernel
theorem dX8_line_93 : decode cX8_line 93 = .ok (.getfield 127, 3) := by decide +kernel
theorem dX8_line_96 : decode cX8_line 96 = .ok (.iconst 2, 1) := by decide +kernel
theorem dX8_line_97 : decode cX8_line 97 = .ok (.if_icmp .ne 37, 3) := by decide +kernel
theorem dX8_line_100 : decode cX8_line 100 = .ok (.aload_n 0, 1) := by decide +kernel
theorem dX8_line_101 : decode cX8_line 101 = .ok (.getfield 137, 3) := by decide +kernel
theorem dX8_line_104 : decode cX8_line 104 = .ok (.iconst 3, 1) := by decide +kernel
theorem dX8_line_105 : decode cX8_line 105 = .ok (.if_icmp .gt 29, 3) := by decide +kernel
theorem dX8_line_108 : decode cX8_line 108 = .ok (.aload_n 0, 1) := by decide +kernel
theorem dX8_line_109 : decode cX8_line 109 = .ok (.getfield 47, 3) := by decide +kernel
theorem dX8_line_112 : decode cX8_line 112 = .ok (.bipush 10, 2) := by decide +kernel
theorem dX8_line_114 : decode cX8_line 114 = .ok (.iconst 4, 1) := by decide +kernel
theorem dX8_line_115 : decode cX8_line 115 = .ok (.iload_n 1, 1) := by decide +kernel
theorem dX8_line_116 : decode cX8_line 116 = .ok (.imul, 1) := by decide +kernel
theorem dX8_line_117 : decode cX8_line 117 = .ok (.iadd, 1) := by decide +kernel
theorem dX8_line_118 : decode cX8_line 118 = .ok (.aload_n 0, 1) := by decide +kernel
theorem dX8_line_119 : decode cX8_line 119 = .ok (.getfield 137, 3) := by decide +kernel
theorem dX8_line_122 : decode cX8_line 122 = .ok (.iadd, 1) := by decide +kernel
theorem dX8_line_123 : decode cX8_line 123 = .ok (.iaload, 1) := by decide +kernel
theorem dX8_line_124 : decode cX8_line 124 = .ok (.ifCond .lt 10, 3) := by decide +kernel
theorem dX8_line_127 : decode cX8_line 127 = .ok (.aload_n 0, 1) := by decide +kernel
theorem dX8_line_128 : decode cX8_line 128 = .ok (.iconst 3, 1) := by decide +kernel
theorem dX8_line_129 : decode cX8_line 129 = .ok (.iload_n 2, 1) := by decide +kernel
theorem dX8_line_130 : decode cX8_line 130 = .ok (.invokevirtual 143, 3) := by decide +kernel
theorem dX8_line_133 : decode cX8_line 133 = .ok (.ireturn, 1) := by decide +kernel
theorem dX8_line_134 : decode cX8_line 134 = .ok (.aload_n 0, 1) := by decide +kernel
theorem dX8_line_135 : decode cX8_line 135 = .ok (.iconst 3, 1) := by decide +kernel
theorem dX8_line_136 : decode cX8_line 136 = .ok (.invokevirtual 153, 3) := by decide +kernel
theorem dX8_line_139 : decode cX8_line 139 = .ok (.ifCond .ne 5, 3) := by decide +kernel
theorem dX8_line_142 : decode cX8_line 142 = .ok (.iconst 0, 1) := by decide +kernel
theorem dX8_line_143 : decode cX8_line 143 = .ok (.ireturn, 1) := by decide +kernel
theorem dX8_line_144 : decode cX8_line 144 = .ok (.bipush 10, 2) := by decide +kernel
theorem dX8_line_146 : decode cX8_line 146 = .ok (.iconst 4, 1) := by decide +kernel
theorem dX8_line_147 : decode cX8_line 147 = .ok (.iload_n 1, 1) := by decide +kernel
theorem dX8_line_148 : decode cX8_line 148 = .ok (.imul, 1) := by decide +kernel
theorem dX8_line_149 : decode cX8_line 149 = .ok (.iadd, 1) := by decide +kernel
theorem dX8_line_150 : decode cX8_line 150 = .ok (.aload_n 0, 1) := by decide +kernel
theorem dX8_line_151 : decode cX8_line 151 = .ok (.getfield 147, 3) := by decide +kernel
theorem dX8_line_154 : decode cX8_line 154 = .ok (.iadd, 1) := by decide +kernel
theorem dX8_line_155 : decode cX8_line 155 = .ok (.istore_n 3, 1) := by decide +kernel
theorem dX8_line_156 : decode cX8_line 156 = .ok (.aload_n 0, 1) := by decide +kernel
theorem dX8_line_157 : decode cX8_line 157 = .ok (.iload_n 1, 1) := by decide +kernel
theorem dX8_line_158 : decode cX8_line 158 = .ok (.ifCond .ne 8, 3) := by decide +kernel
theorem dX8_line_161 : decode cX8_line 161 = .ok (.bipush 100, 2) := by decide +kernel
theorem dX8_line_163 : decode cX8_line 163 = .ok (.goto 4, 3) := by decide +kernel
theorem dX8_line_166 : decode cX8_line 166 = .ok (.iconst 3, 1) := by decide +kernel
theorem dX8_line_167 : decode cX8_line 167 = .ok (.invokevirtual 153, 3) := by decide +kernel
theorem dX8_line_170 : decode cX8_line 170 = .ok (.ifCond .ne 5, 3) := by decide +kernel
theorem dX8_line_173 : decode cX8_line 173 = .ok (.iconst 0, 1) := by decide +kernel
theorem dX8_line_174 : decode cX8_line 174 = .ok (.ireturn, 1) := by decide +kernel
theorem dX8_line_175 : decode cX8_line 175 = .ok (.aload_n 0, 1) := by decide +kernel
theorem dX8_line_176 : decode cX8_line 176 = .ok (.getfield 47, 3) := by decide +kernel
theorem dX8_line_179 : decode cX8_line 179 = .ok (.iload_n 3, 1) := by decide +kernel
theorem dX8_line_180 : decode cX8_line 180 = .ok (.aload_n 0, 1) := by decide +kernel
theorem dX8_line_181 : decode cX8_line 181 = .ok (.getfield 147, 3) := by decide +kernel
theorem dX8_line_184 : decode cX8_line 184 = .ok (.iastore, 1) := by decide +kernel
theorem dX8_line_185 : decode cX8_line 185 = .ok (.iconst 1, 1) := by decide +kernel
theorem dX8_line_186 : decode cX8_line 186 = .ok (.ireturn, 1) := by decide +kernel
set_option maxRecDepth 20000 in
theorem ggX8_decree_X8_take : GoodIn wsX8_decree wsX8_take := goodIn_r _ [16, 7, 3, 17, 9, 8, 18, 19, 20, 21, 15, 22, 23, 24, 25, 26, 27, 28, 29, 30, 31, 45, 46, 47, 48, 49, 50, 51, 52, 53, 54, 55, 56, 57, 58, 59, 60, 61, 62, 63, 64, 65, 66, 67, 68, 69, 70, 71, 72, 73, 74, 75, 76, 77, 78, 79, 80, 81, 82, 83, 84, 85, 86, 87, 88] (by decide +kernel) (by decide +kernel)
set_option maxRecDepth 20000 in
theorem gX8_decree_X8_take : GoodIn wsX8_decree (wsV RX8 150 RX8 yX8_take wsX8_take) := goodIn_app (goodIn_of _ (by decide +kernel)) ggX8_decree_X8_take
set_option maxRecDepth 20000 in
theorem ggX8_decree_X8_line : GoodIn wsX8_decree wsX8_line := goodIn_r _ [35, 8, 9, 18, 6, 36, 37, 38, 39, 15, 40, 4, 5, 12, 13, 14, 16, 7, 3, 17, 19, 20, 21, 22, 23, 24, 25, 26, 27, 28, 29, 30, 31, 41, 42, 43, 44, 45, 46, 47, 48, 49, 50, 51, 52, 53, 54, 55, 56, 57, 58, 59, 60, 61, 62, 63, 64, 65, 66, 67, 68, 69, 70, 71, 72, 73, 74, 75, 76, 77, 78, 79, 80, 81, 82, 83, 84, 85, 86, 87, 88] (by decide +kernel) (by decide +kernel)
set_option maxRecDepth 20000 in
theorem gX8_decree_X8_line : GoodIn wsX8_decree (wsV RX8 156 RX8 yX8_line wsX8_line) := goodIn_app (goodIn_of _ (by decide +kernel)) ggX8_decree_X8_line
set_option maxRecDepth 20000 in
theorem ggX8_decree_X8_wrong : GoodIn wsX8_decree wsX8_wrong := goodIn_r _ [40, 4, 5, 45, 46, 47, 48, 49, 50, 51, 52, 53, 54, 55, 56, 57, 58, 59, 60, 61, 62, 63, 64, 65, 66, 67, 68, 69, 70, 71, 72, 73, 74, 75, 76, 77, 78, 79, 80, 81, 82, 83, 84, 85, 86, 87, 88] (by decide +kernel) (by decide +kernel)
set_option maxRecDepth 20000 in
theorem gX8_decree_X8_wrong : GoodIn wsX8_decree (wsV RX8 143 RX8 yX8_wrong wsX8_wrong) := goodIn_app (goodIn_of _ (by decide +kernel)) ggX8_decree_X8_wrong
theorem dX8_decree_0 : decode cX8_decree 0 = .ok (.aload_n 0, 1) := by decide +kernel
theorem dX8_decree_1 : decode cX8_decree 1 = .ok (.iconst 0, 1) := by decide +kernel
theorem dX8_decree_2 : decode cX8_decree 2 = .ok (.putfield 87, 3) := by decide +kernel
theorem dX8_decree_5 : decode cX8_decree 5 = .ok (.iload_n 1, 1) := by decide +kernel
theorem dX8_decree_6 : decode cX8_decree 6 = .ok (.ifCond .lt 11, 3) := by decide +kernel
theorem dX8_decree_9 : decode cX8_decree 9 = .ok (.iload_n 1, 1) := by decide +kernel
theorem dX8_decree_10 : decode cX8_decree 10 = .ok (.aload_n 0, 1) := by decide +kernel
theorem dX8_decree_11 : decode cX8_decree 11 = .ok (.getfield 90, 3) := by decide +kernel
theorem dX8_decree_14 : decode cX8_decree 14 = .ok (.if_icmp .le 6, 3) := by decide +kernel
theorem dX8_decree_17 : decode cX8_decree 17 = .ok (.bipush (-2), 2) := by decide +kernel
theorem dX8_decree_19 : decode cX8_decree 19 = .ok (.ireturn, 1) := by decide +kernel
theorem dX8_decree_20 : decode cX8_decree 20 = .ok (.aload_n 0, 1) := by decide +kernel
theorem dX8_decree_21 : decode cX8_decree 21 = .ok (.iload_n 1, 1) := by decide +kernel
theorem dX8_decree_22 : decode cX8_decree 22 = .ok (.putfield 118, 3) := by decide +kernel
theorem dX8_decree_25 : decode cX8_decree 25 = .ok (.aload_n 0, 1) := by decide +kernel
theorem dX8_decree_26 : decode cX8_decree 26 = .ok (.iconst 0, 1) := by decide +kernel
theorem dX8_decree_27 : decode cX8_decree 27 = .ok (.putfield 90, 3) := by decide +kernel
theorem dX8_decree_30 : decode cX8_decree 30 = .ok (.aload_n 0, 1) := by decide +kernel
theorem dX8_decree_31 : decode cX8_decree 31 = .ok (.iconst 0, 1) := by decide +kernel
theorem dX8_decree_32 : decode cX8_decree 32 = .ok (.putfield 115, 3) := by decide +kernel
theorem dX8_decree_35 : decode cX8_decree 35 = .ok (.aload_n 0, 1) := by decide +kernel
theorem dX8_decree_36 : decode cX8_decree 36 = .ok (.iconst (-1), 1) := by decide +kernel
theorem dX8_decree_37 : decode cX8_decree 37 = .ok (.putfield 50, 3) := by decide +kernel
theorem dX8_decree_40 : decode cX8_decree 40 = .ok (.bipush 10, 2) := by decide +kernel
theorem dX8_decree_42 : decode cX8_decree 42 = .ok (.istore_n 2, 1) := by decide +kernel
theorem dX8_decree_43 : decode cX8_decree 43 = .ok (.iload_n 2, 1) := by decide +kernel
theorem dX8_decree_44 : decode cX8_decree 44 = .ok (.bipush 20, 2) := by decide +kernel
theorem dX8_decree_46 : decode cX8_decree 46 = .ok (.if_icmp .ge 16, 3) := by decide +kernel
theorem dX8_decree_49 : decode cX8_decree 49 = .ok (.aload_n 0, 1) := by decide +kernel
theorem dX8_decree_50 : decode cX8_decree 50 = .ok (.getfield 47, 3) := by decide +kernel
theorem dX8_decree_53 : decode cX8_decree 53 = .ok (.iload_n 2, 1) := by decide +kernel
theorem dX8_decree_54 : decode cX8_decree 54 = .ok (.iconst (-1), 1) := by decide +kernel
theorem dX8_decree_55 : decode cX8_decree 55 = .ok (.iastore, 1) := by decide +kernel
theorem dX8_decree_56 : decode cX8_decree 56 = .ok (.iinc 2 1, 3) := by decide +kernel
theorem dX8_decree_59 : decode cX8_decree 59 = .ok (.goto (-16), 3) := by decide +kernel
theorem dX8_decree_62 : decode cX8_decree 62 = .ok (.aload_n 0, 1) := by decide +kernel
theorem dX8_decree_63 : decode cX8_decree 63 = .ok (.iconst 0, 1) := by decide +kernel
theorem dX8_decree_64 : decode cX8_decree 64 = .ok (.putfield 121, 3) := by decide +kernel
theorem dX8_decree_67 : decode cX8_decree 67 = .ok (.iconst 0, 1) := by decide +kernel
theorem dX8_decree_68 : decode cX8_decree 68 = .ok (.istore_n 2, 1) := by decide +kernel
theorem dX8_decree_69 : decode cX8_decree 69 = .ok (.aload_n 0, 1) := by decide +kernel
theorem dX8_decree_70 : decode cX8_decree 70 = .ok (.invokevirtual 150, 3) := by decide +kernel
theorem dX8_decree_73 : decode cX8_decree 73 = .ok (.aload_n 0, 1) := by decide +kernel
theorem dX8_decree_74 : decode cX8_decree 74 = .ok (.getfield 127, 3) := by decide +kernel
theorem dX8_decree_77 : decode cX8_decree 77 = .ok (.ifCond .eq 42, 3) := by decide +kernel
theorem dX8_decree_80 : decode cX8_decree 80 = .ok (.aload_n 0, 1) := by decide +kernel
theorem dX8_decree_81 : decode cX8_decree 81 = .ok (.invokevirtual 156, 3) := by decide +kernel
theorem dX8_decree_84 : decode cX8_decree 84 = .ok (.ifCond .ne 5, 3) := by decide +kernel
theorem dX8_decree_87 : decode cX8_decree 87 = .ok (.iconst (-1), 1) := by decide +kernel
theorem dX8_decree_88 : decode cX8_decree 88 = .ok (.ireturn, 1) := by decide +kernel
theorem dX8_decree_89 : decode cX8_decree 89 = .ok (.aload_n 0, 1) := by decide +kernel
theorem dX8_decree_90 : decode cX8_decree 90 = .ok (.getfield 127, 3) := by decide +kernel
theorem dX8_decree_93 : decode cX8_decree 93 = .ok (.iconst 3, 1) := by decide +kernel
theorem dX8_decree_94 : decode cX8_decree 94 = .ok (.if_icmp .eq 15, 3) := by decide +kernel
theorem dX8_decree_97 : decode cX8_decree 97 = .ok (.aload_n 0, 1) := by decide +kernel
theorem dX8_decree_98 : decode cX8_decree 98 = .ok (.iconst 1, 1) := by decide +kernel
theorem dX8_decree_99 : decode cX8_decree 99 = .ok (.aload_n 0, 1) := by decide +kernel
theorem dX8_decree_100 : decode cX8_decree 100 = .ok (.getfield 124, 3) := by decide +kernel
theorem dX8_decree_103 : decode cX8_decree 103 = .ok (.invokevirtual 143, 3) := by decide +kernel
theorem dX8_decree_106 : decode cX8_decree 106 = .ok (.istore_n 3, 1) := by decide +kernel
theorem dX8_decree_107 : decode cX8_decree 107 = .ok (.iconst (-1), 1) := by decide +kernel
theorem dX8_decree_108 : decode cX8_decree 108 = .ok (.ireturn, 1) := by decide +kernel
theorem dX8_decree_109 : decode cX8_decree 109 = .ok (.iinc 2 1, 3) := by decide +kernel
theorem dX8_decree_112 : decode cX8_decree 112 = .ok (.aload_n 0, 1) := by decide +kernel
theorem dX8_decree_113 : decode cX8_decree 113 = .ok (.invokevirtual 150, 3) := by decide +kernel
theorem dX8_decree_116 : decode cX8_decree 116 = .ok (.goto (-43), 3) := by decide +kernel
theorem dX8_decree_119 : decode cX8_decree 119 = .ok (.iconst 0, 1) := by decide +kernel
theorem dX8_decree_120 : decode cX8_decree 120 = .ok (.istore_n 3, 1) := by decide +kernel
theorem dX8_decree_121 : decode cX8_decree 121 = .ok (.iload_n 3, 1) := by decide +kernel
theorem dX8_decree_122 : decode cX8_decree 122 = .ok (.bipush 10, 2) := by decide +kernel
theorem dX8_decree_124 : decode cX8_decree 124 = .ok (.if_icmp .ge 24, 3) := by decide +kernel
theorem dX8_decree_127 : decode cX8_decree 127 = .ok (.aload_n 0, 1) := by decide +kernel
theorem dX8_decree_128 : decode cX8_decree 128 = .ok (.getfield 47, 3) := by decide +kernel
theorem dX8_decree_131 : decode cX8_decree 131 = .ok (.iload_n 3, 1) := by decide +kernel
theorem dX8_decree_132 : decode cX8_decree 132 = .ok (.aload_n 0, 1) := by decide +kernel
theorem dX8_decree_133 : decode cX8_decree 133 = .ok (.getfield 47, 3) := by decide +kernel
theorem dX8_decree_136 : decode cX8_decree 136 = .ok (.bipush 10, 2) := by decide +kernel
theorem dX8_decree_138 : decode cX8_decree 138 = .ok (.iload_n 3, 1) := by decide +kernel
theorem dX8_decree_139 : decode cX8_decree 139 = .ok (.iadd, 1) := by decide +kernel
theorem dX8_decree_140 : decode cX8_decree 140 = .ok (.iaload, 1) := by decide +kernel
theorem dX8_decree_141 : decode cX8_decree 141 = .ok (.iastore, 1) := by decide +kernel
theorem dX8_decree_142 : decode cX8_decree 142 = .ok (.iinc 3 1, 3) := by decide +kernel
theorem dX8_decree_145 : decode cX8_decree 145 = .ok (.goto (-24), 3) := by decide +kernel
theorem dX8_decree_148 : decode cX8_decree 148 = .ok (.aload_n 0, 1) := by decide +kernel
theorem dX8_decree_149 : decode cX8_decree 149 = .ok (.iconst 1, 1) := by decide +kernel
theorem dX8_decree_150 : decode cX8_decree 150 = .ok (.putfield 160, 3) := by decide +kernel
theorem dX8_decree_153 : decode cX8_decree 153 = .ok (.aload_n 0, 1) := by decide +kernel
theorem dX8_decree_154 : decode cX8_decree 154 = .ok (.iload_n 2, 1) := by decide +kernel
theorem dX8_decree_155 : decode cX8_decree 155 = .ok (.putfield 164, 3) := by decide +kernel
theorem dX8_decree_158 : decode cX8_decree 158 = .ok (.iload_n 2, 1) := by decide +kernel
theorem dX8_decree_159 : decode cX8_decree 159 = .ok (.ireturn, 1) := by decide +kernel
theorem dX8_fault_0 : decode cX8_fault 0 = .ok (.aload_n 0, 1) := by decide +kernel
theorem dX8_fault_1 : decode cX8_fault 1 = .ok (.iconst 0, 1) := by decide +kernel
theorem dX8_fault_2 : decode cX8_fault 2 = .ok (.putfield 87, 3) := by decide +kernel
theorem dX8_fault_5 : decode cX8_fault 5 = .ok (.iload_n 1, 1) := by decide +kernel
theorem dX8_fault_6 : decode cX8_fault 6 = .ok (.ifCond .ne 10, 3) := by decide +kernel
theorem dX8_fault_9 : decode cX8_fault 9 = .ok (.aload_n 0, 1) := by decide +kernel
theorem dX8_fault_10 : decode cX8_fault 10 = .ok (.getfield 115, 3) := by decide +kernel
theorem dX8_fault_13 : decode cX8_fault 13 = .ok (.goto 16, 3) := by decide +kernel
theorem dX8_fault_16 : decode cX8_fault 16 = .ok (.iload_n 1, 1) := by decide +kernel
theorem dX8_fault_17 : decode cX8_fault 17 = .ok (.iconst 1, 1) := by decide +kernel
theorem dX8_fault_18 : decode cX8_fault 18 = .ok (.if_icmp .ne 10, 3) := by decide +kernel
theorem dX8_fault_21 : decode cX8_fault 21 = .ok (.aload_n 0, 1) := by decide +kernel
theorem dX8_fault_22 : decode cX8_fault 22 = .ok (.getfield 50, 3) := by decide +kernel
theorem dX8_fault_25 : decode cX8_fault 25 = .ok (.goto 4, 3) := by decide +kernel
theorem dX8_fault_28 : decode cX8_fault 28 = .ok (.iconst (-1), 1) := by decide +kernel
theorem dX8_fault_29 : decode cX8_fault 29 = .ok (.ireturn, 1) := by decide +kernel
theorem dX8_isMeant_0 : decode cX8_isMeant 0 = .ok (.aload_n 0, 1) := by decide +kernel
theorem dX8_isMeant_1 : decode cX8_isMeant 1 = .ok (.getfield 47, 3) := by decide +kernel
theorem dX8_isMeant_4 : decode cX8_isMeant 4 = .ok (.bipush 9, 2) := by decide +kernel
theorem dX8_isMeant_6 : decode cX8_isMeant 6 = .ok (.iaload, 1) := by decide +kernel
theorem dX8_isMeant_7 : decode cX8_isMeant 7 = .ok (.ifCond .lt 19, 3) := by decide +kernel
theorem dX8_isMeant_10 : decode cX8_isMeant 10 = .ok (.aload_n 0, 1) := by decide +kernel
theorem dX8_isMeant_11 : decode cX8_isMeant 11 = .ok (.getfield 40, 3) := by decide +kernel
theorem dX8_isMeant_14 : decode cX8_isMeant 14 = .ok (.iload_n 1, 1) := by decide +kernel
theorem dX8_isMeant_15 : decode cX8_isMeant 15 = .ok (.iaload, 1) := by decide +kernel
theorem dX8_isMeant_16 : decode cX8_isMeant 16 = .ok (.aload_n 0, 1) := by decide +kernel
theorem dX8_isMeant_17 : decode cX8_isMeant 17 = .ok (.getfield 47, 3) := by decide +kernel
theorem dX8_isMeant_20 : decode cX8_isMeant 20 = .ok (.bipush 9, 2) := by decide +kernel
theorem dX8_isMeant_22 : decode cX8_isMeant 22 = .ok (.iaload, 1) := by decide +kernel
theorem dX8_isMeant_23 : decode cX8_isMeant 23 = .ok (.if_icmp .ge 7, 3) := by decide +kernel
theorem dX8_isMeant_26 : decode cX8_isMeant 26 = .ok (.iconst 1, 1) := by decide +kernel
theorem dX8_isMeant_27 : decode cX8_isMeant 27 = .ok (.goto 4, 3) := by decide +kernel
theorem dX8_isMeant_30 : decode cX8_isMeant 30 = .ok (.iconst 0, 1) := by decide +kernel
theorem dX8_isMeant_31 : decode cX8_isMeant 31 = .ok (.ireturn, 1) := by decide +kernel
set_option maxRecDepth 20000 in
theorem ggX8_leftBy_X8_isMeant : GoodIn wsX8_leftBy wsX8_isMeant := goodIn_r _ [8, 1, 9, 10, 11, 12, 13, 14, 15, 16, 17, 18, 19, 20, 21, 22, 23, 24, 25, 26, 27, 28, 29, 30, 31, 32, 33, 34, 35, 36, 37, 38, 39, 40, 41, 42, 43, 44, 45, 46, 47, 48, 49, 50, 51, 52, 53] (by decide +kernel) (by decide +kernel)
set_option maxRecDepth 20000 in
theorem gX8_leftBy_X8_isMeant : GoodIn wsX8_leftBy (wsV RX8 167 RX8 yX8_isMeant wsX8_isMeant) := goodIn_app (goodIn_of _ (by decide +kernel)) ggX8_leftBy_X8_isMeant
theorem dX8_leftBy_0 : decode cX8_leftBy 0 = .ok (.aload_n 0, 1) := by decide +kernel
theorem dX8_leftBy_1 : decode cX8_leftBy 1 = .ok (.iload_n 1, 1) := by decide +kernel
theorem dX8_leftBy_2 : decode cX8_leftBy 2 = .ok (.invokevirtual 167, 3) := by decide +kernel
theorem dX8_leftBy_5 : decode cX8_leftBy 5 = .ok (.ifCond .eq 17, 3) := by decide +kernel
theorem dX8_leftBy_8 : decode cX8_leftBy 8 = .ok (.aload_n 0, 1) := by decide +kernel
theorem dX8_leftBy_9 : decode cX8_leftBy 9 = .ok (.getfield 47, 3) := by decide +kernel
theorem dX8_leftBy_12 : decode cX8_leftBy 12 = .ok (.aload_n 0, 1) := by decide +kernel
theorem dX8_leftBy_13 : decode cX8_leftBy 13 = .ok (.getfield 34, 3) := by decide +kernel
theorem dX8_leftBy_16 : decode cX8_leftBy 16 = .ok (.iload_n 1, 1) := by decide +kernel
theorem dX8_leftBy_17 : decode cX8_leftBy 17 = .ok (.iaload, 1) := by decide +kernel
theorem dX8_leftBy_18 : decode cX8_leftBy 18 = .ok (.iaload, 1) := by decide +kernel
theorem dX8_leftBy_19 : decode cX8_leftBy 19 = .ok (.ifCond .ge 10, 3) := by decide +kernel
theorem dX8_leftBy_22 : decode cX8_leftBy 22 = .ok (.aload_n 0, 1) := by decide +kernel
theorem dX8_leftBy_23 : decode cX8_leftBy 23 = .ok (.getfield 37, 3) := by decide +kernel
theorem dX8_leftBy_26 : decode cX8_leftBy 26 = .ok (.iload_n 1, 1) := by decide +kernel
theorem dX8_leftBy_27 : decode cX8_leftBy 27 = .ok (.iaload, 1) := by decide +kernel
theorem dX8_leftBy_28 : decode cX8_leftBy 28 = .ok (.ireturn, 1) := by decide +kernel
theorem dX8_leftBy_29 : decode cX8_leftBy 29 = .ok (.aload_n 0, 1) := by decide +kernel
theorem dX8_leftBy_30 : decode cX8_leftBy 30 = .ok (.getfield 37, 3) := by decide +kernel
theorem dX8_leftBy_33 : decode cX8_leftBy 33 = .ok (.iload_n 1, 1) := by decide +kernel
theorem dX8_leftBy_34 : decode cX8_leftBy 34 = .ok (.iaload, 1) := by decide +kernel
theorem dX8_leftBy_35 : decode cX8_leftBy 35 = .ok (.aload_n 0, 1) := by decide +kernel
theorem dX8_leftBy_36 : decode cX8_leftBy 36 = .ok (.getfield 47, 3) := by decide +kernel
theorem dX8_leftBy_39 : decode cX8_leftBy 39 = .ok (.bipush 8, 2) := by decide +kernel
theorem dX8_leftBy_41 : decode cX8_leftBy 41 = .ok (.iaload, 1) := by decide +kernel
theorem dX8_leftBy_42 : decode cX8_leftBy 42 = .ok (.ifCond .ge 7, 3) := by decide +kernel
theorem dX8_leftBy_45 : decode cX8_leftBy 45 = .ok (.iconst 0, 1) := by decide +kernel
theorem dX8_leftBy_46 : decode cX8_leftBy 46 = .ok (.goto 10, 3) := by decide +kernel
theorem dX8_leftBy_49 : decode cX8_leftBy 49 = .ok (.aload_n 0, 1) := by decide +kernel
theorem dX8_leftBy_50 : decode cX8_leftBy 50 = .ok (.getfield 47, 3) := by decide +kernel
theorem dX8_leftBy_53 : decode cX8_leftBy 53 = .ok (.bipush 8, 2) := by decide +kernel
theorem dX8_leftBy_55 : decode cX8_leftBy 55 = .ok (.iaload, 1) := by decide +kernel
theorem dX8_leftBy_56 : decode cX8_leftBy 56 = .ok (.isub, 1) := by decide +kernel
theorem dX8_leftBy_57 : decode cX8_leftBy 57 = .ok (.istore_n 2, 1) := by decide +kernel
theorem dX8_leftBy_58 : decode cX8_leftBy 58 = .ok (.iload_n 2, 1) := by decide +kernel
theorem dX8_leftBy_59 : decode cX8_leftBy 59 = .ok (.ifCond .gt 12, 3) := by decide +kernel
theorem dX8_leftBy_62 : decode cX8_leftBy 62 = .ok (.aload_n 0, 1) := by decide +kernel
theorem dX8_leftBy_63 : decode cX8_leftBy 63 = .ok (.getfield 37, 3) := by decide +kernel
theorem dX8_leftBy_66 : decode cX8_leftBy 66 = .ok (.iload_n 1, 1) := by decide +kernel
theorem dX8_leftBy_67 : decode cX8_leftBy 67 = .ok (.iaload, 1) := by decide +kernel
theorem dX8_leftBy_68 : decode cX8_leftBy 68 = .ok (.goto 26, 3) := by decide +kernel
theorem dX8_leftBy_71 : decode cX8_leftBy 71 = .ok (.aload_n 0, 1) := by decide +kernel
theorem dX8_leftBy_72 : decode cX8_leftBy 72 = .ok (.getfield 37, 3) := by decide +kernel
theorem dX8_leftBy_75 : decode cX8_leftBy 75 = .ok (.iload_n 1, 1) := by decide +kernel
theorem dX8_leftBy_76 : decode cX8_leftBy 76 = .ok (.iaload, 1) := by decide +kernel
theorem dX8_leftBy_77 : decode cX8_leftBy 77 = .ok (.iload_n 2, 1) := by decide +kernel
theorem dX8_leftBy_78 : decode cX8_leftBy 78 = .ok (.aload_n 0, 1) := by decide +kernel
theorem dX8_leftBy_79 : decode cX8_leftBy 79 = .ok (.getfield 47, 3) := by decide +kernel
theorem dX8_leftBy_82 : decode cX8_leftBy 82 = .ok (.aload_n 0, 1) := by decide +kernel
theorem dX8_leftBy_83 : decode cX8_leftBy 83 = .ok (.getfield 34, 3) := by decide +kernel
theorem dX8_leftBy_86 : decode cX8_leftBy 86 = .ok (.iload_n 1, 1) := by decide +kernel
theorem dX8_leftBy_87 : decode cX8_leftBy 87 = .ok (.iaload, 1) := by decide +kernel
theorem dX8_leftBy_88 : decode cX8_leftBy 88 = .ok (.iaload, 1) := by decide +kernel
theorem dX8_leftBy_89 : decode cX8_leftBy 89 = .ok (.imul, 1) := by decide +kernel
theorem dX8_leftBy_90 : decode cX8_leftBy 90 = .ok (.bipush 100, 2) := by decide +kernel
theorem dX8_leftBy_92 : decode cX8_leftBy 92 = .ok (.idiv, 1) := by decide +kernel
theorem dX8_leftBy_93 : decode cX8_leftBy 93 = .ok (.isub, 1) := by decide +kernel
theorem dX8_leftBy_94 : decode cX8_leftBy 94 = .ok (.ireturn, 1) := by decide +kernel
set_option maxRecDepth 20000 in
theorem ggX8_rankBy_X8_isMeant : GoodIn wsX8_rankBy wsX8_isMeant := goodIn_r _ [7, 1, 8, 9, 10, 11, 12, 13, 14, 15, 16, 17, 18, 19, 20, 21, 22, 23, 24, 25, 26, 27, 28, 29, 30, 31, 32, 33, 34, 35, 36, 37, 38, 39, 40, 41, 42, 43, 44, 45, 46, 47, 48, 49, 50, 51, 52] (by decide +kernel) (by decide +kernel)
set_option maxRecDepth 20000 in
theorem gX8_rankBy_X8_isMeant : GoodIn wsX8_rankBy (wsV RX8 167 RX8 yX8_isMeant wsX8_isMeant) := goodIn_app (goodIn_of _ (by decide +kernel)) ggX8_rankBy_X8_isMeant
theorem dX8_rankBy_0 : decode cX8_rankBy 0 = .ok (.aload_n 0, 1) := by decide +kernel
theorem dX8_rankBy_1 : decode cX8_rankBy 1 = .ok (.iload_n 1, 1) := by decide +kernel
theorem dX8_rankBy_2 : decode cX8_rankBy 2 = .ok (.invokevirtual 167, 3) := by decide +kernel
theorem dX8_rankBy_5 : decode cX8_rankBy 5 = .ok (.ifCond .eq 35, 3) := by decide +kernel
theorem dX8_rankBy_8 : decode cX8_rankBy 8 = .ok (.aload_n 0, 1) := by decide +kernel
theorem dX8_rankBy_9 : decode cX8_rankBy 9 = .ok (.getfield 47, 3) := by decide +kernel
theorem dX8_rankBy_12 : decode cX8_rankBy 12 = .ok (.iconst 4, 1) := by decide +kernel
theorem dX8_rankBy_13 : decode cX8_rankBy 13 = .ok (.aload_n 0, 1) := by decide +kernel
theorem dX8_rankBy_14 : decode cX8_rankBy 14 = .ok (.getfield 34, 3) := by decide +kernel
theorem dX8_rankBy_17 : decode cX8_rankBy 17 = .ok (.iload_n 1, 1) := by decide +kernel
theorem dX8_rankBy_18 : decode cX8_rankBy 18 = .ok (.iaload, 1) := by decide +kernel
theorem dX8_rankBy_19 : decode cX8_rankBy 19 = .ok (.iadd, 1) := by decide +kernel
theorem dX8_rankBy_20 : decode cX8_rankBy 20 = .ok (.iaload, 1) := by decide +kernel
theorem dX8_rankBy_21 : decode cX8_rankBy 21 = .ok (.ifCond .lt 19, 3) := by decide +kernel
theorem dX8_rankBy_24 : decode cX8_rankBy 24 = .ok (.aload_n 0, 1) := by decide +kernel
theorem dX8_rankBy_25 : decode cX8_rankBy 25 = .ok (.getfield 47, 3) := by decide +kernel
theorem dX8_rankBy_28 : decode cX8_rankBy 28 = .ok (.iconst 4, 1) := by decide +kernel
theorem dX8_rankBy_29 : decode cX8_rankBy 29 = .ok (.aload_n 0, 1) := by decide +kernel
theorem dX8_rankBy_30 : decode cX8_rankBy 30 = .ok (.getfield 34, 3) := by decide +kernel
theorem dX8_rankBy_33 : decode cX8_rankBy 33 = .ok (.iload_n 1, 1) := by decide +kernel
theorem dX8_rankBy_34 : decode cX8_rankBy 34 = .ok (.iaload, 1) := by decide +kernel
theorem dX8_rankBy_35 : decode cX8_rankBy 35 = .ok (.iadd, 1) := by decide +kernel
theorem dX8_rankBy_36 : decode cX8_rankBy 36 = .ok (.iaload, 1) := by decide +kernel
theorem dX8_rankBy_37 : decode cX8_rankBy 37 = .ok (.goto 9, 3) := by decide +kernel
theorem dX8_rankBy_40 : decode cX8_rankBy 40 = .ok (.aload_n 0, 1) := by decide +kernel
theorem dX8_rankBy_41 : decode cX8_rankBy 41 = .ok (.getfield 34, 3) := by decide +kernel
theorem dX8_rankBy_44 : decode cX8_rankBy 44 = .ok (.iload_n 1, 1) := by decide +kernel
theorem dX8_rankBy_45 : decode cX8_rankBy 45 = .ok (.iaload, 1) := by decide +kernel
theorem dX8_rankBy_46 : decode cX8_rankBy 46 = .ok (.ireturn, 1) := by decide +kernel
set_option maxRecDepth 20000 in
theorem ggX8_enact_X8_leftBy : GoodIn wsX8_enact wsX8_leftBy := goodIn_r _ [10, 11, 5, 4, 12, 13, 14, 9, 15, 16, 21, 22, 23, 24, 25, 26, 27, 28, 29, 30, 31, 32, 33, 34, 35, 36, 37, 38, 39, 40, 41, 42, 43, 44, 45, 46, 47, 48, 49, 50, 51, 52, 53, 54, 55, 56, 57, 58, 59, 60, 61, 62, 63, 64] (by decide +kernel) (by decide +kernel)
set_option maxRecDepth 20000 in
theorem gX8_enact_X8_leftBy : GoodIn wsX8_enact (wsV RX8 170 RX8 yX8_leftBy wsX8_leftBy) := goodIn_app (goodIn_of _ (by decide +kernel)) ggX8_enact_X8_leftBy
set_option maxRecDepth 20000 in
theorem ggX8_enact_X8_rankBy : GoodIn wsX8_enact wsX8_rankBy := goodIn_r _ [20, 11, 5, 12, 13, 14, 9, 15, 16, 21, 22, 23, 24, 25, 26, 27, 28, 29, 30, 31, 32, 33, 34, 35, 36, 37, 38, 39, 40, 41, 42, 43, 44, 45, 46, 47, 48, 49, 50, 51, 52, 53, 54, 55, 56, 57, 58, 59, 60, 61, 62, 63, 64] (by decide +kernel) (by decide +kernel)
set_option maxRecDepth 20000 in
theorem gX8_enact_X8_rankBy : GoodIn wsX8_enact (wsV RX8 173 RX8 yX8_rankBy wsX8_rankBy) := goodIn_app (goodIn_of _ (by decide +kernel)) ggX8_enact_X8_rankBy
theorem dX8_enact_0 : decode cX8_enact 0 = .ok (.aload_n 0, 1) := by decide +kernel
theorem dX8_enact_1 : decode cX8_enact 1 = .ok (.iconst 0, 1) := by decide +kernel
theorem dX8_enact_2 : decode cX8_enact 2 = .ok (.putfield 87, 3) := by decide +kernel
theorem dX8_enact_5 : decode cX8_enact 5 = .ok (.aload_n 0, 1) := by decide +kernel
theorem dX8_enact_6 : decode cX8_enact 6 = .ok (.getfield 160, 3) := by decide +kernel
theorem dX8_enact_9 : decode cX8_enact 9 = .ok (.ifCond .ne 5, 3) := by decide +kernel
theorem dX8_enact_12 : decode cX8_enact 12 = .ok (.iconst (-1), 1) := by decide +kernel
theorem dX8_enact_13 : decode cX8_enact 13 = .ok (.ireturn, 1) := by decide +kernel
theorem dX8_enact_14 : decode cX8_enact 14 = .ok (.iconst 0, 1) := by decide +kernel
theorem dX8_enact_15 : decode cX8_enact 15 = .ok (.istore_n 1, 1) := by decide +kernel
theorem dX8_enact_16 : decode cX8_enact 16 = .ok (.iconst 0, 1) := by decide +kernel
theorem dX8_enact_17 : decode cX8_enact 17 = .ok (.istore_n 2, 1) := by decide +kernel
theorem dX8_enact_18 : decode cX8_enact 18 = .ok (.iload_n 2, 1) := by decide +kernel
theorem dX8_enact_19 : decode cX8_enact 19 = .ok (.aload_n 0, 1) := by decide +kernel
theorem dX8_enact_20 : decode cX8_enact 20 = .ok (.getfield 101, 3) := by decide +kernel
theorem dX8_enact_23 : decode cX8_enact 23 = .ok (.if_icmp .ge 48, 3) := by decide +kernel
theorem dX8_enact_26 : decode cX8_enact 26 = .ok (.aload_n 0, 1) := by decide +kernel
theorem dX8_enact_27 : decode cX8_enact 27 = .ok (.iload_n 2, 1) := by decide +kernel
theorem dX8_enact_28 : decode cX8_enact 28 = .ok (.invokevirtual 170, 3) := by decide +kernel
theorem dX8_enact_31 : decode cX8_enact 31 = .ok (.istore_n 3, 1) := by decide +kernel
theorem dX8_enact_32 : decode cX8_enact 32 = .ok (.aload_n 0, 1) := by decide +kernel
theorem dX8_enact_33 : decode cX8_enact 33 = .ok (.iload_n 2, 1) := by decide +kernel
theorem dX8_enact_34 : decode cX8_enact 34 = .ok (.invokevirtual 173, 3) := by decide +kernel
theorem dX8_enact_37 : decode cX8_enact 37 = .ok (.istore 4, 2) := by decide +kernel
theorem dX8_enact_39 : decode cX8_enact 39 = .ok (.iload_n 1, 1) := by decide +kernel
theorem dX8_enact_40 : decode cX8_enact 40 = .ok (.aload_n 0, 1) := by decide +kernel
theorem dX8_enact_41 : decode cX8_enact 41 = .ok (.getfield 37, 3) := by decide +kernel
theorem dX8_enact_44 : decode cX8_enact 44 = .ok (.iload_n 2, 1) := by decide +kernel
theorem dX8_enact_45 : decode cX8_enact 45 = .ok (.iaload, 1) := by decide +kernel
theorem dX8_enact_46 : decode cX8_enact 46 = .ok (.iload_n 3, 1) := by decide +kernel
theorem dX8_enact_47 : decode cX8_enact 47 = .ok (.isub, 1) := by decide +kernel
theorem dX8_enact_48 : decode cX8_enact 48 = .ok (.iadd, 1) := by decide +kernel
theorem dX8_enact_49 : decode cX8_enact 49 = .ok (.istore_n 1, 1) := by decide +kernel
theorem dX8_enact_50 : decode cX8_enact 50 = .ok (.aload_n 0, 1) := by decide +kernel
theorem dX8_enact_51 : decode cX8_enact 51 = .ok (.getfield 37, 3) := by decide +kernel
theorem dX8_enact_54 : decode cX8_enact 54 = .ok (.iload_n 2, 1) := by decide +kernel
theorem dX8_enact_55 : decode cX8_enact 55 = .ok (.iload_n 3, 1) := by decide +kernel
theorem dX8_enact_56 : decode cX8_enact 56 = .ok (.iastore, 1) := by decide +kernel
theorem dX8_enact_57 : decode cX8_enact 57 = .ok (.aload_n 0, 1) := by decide +kernel
theorem dX8_enact_58 : decode cX8_enact 58 = .ok (.getfield 34, 3) := by decide +kernel
theorem dX8_enact_61 : decode cX8_enact 61 = .ok (.iload_n 2, 1) := by decide +kernel
theorem dX8_enact_62 : decode cX8_enact 62 = .ok (.iload 4, 2) := by decide +kernel
theorem dX8_enact_64 : decode cX8_enact 64 = .ok (.iastore, 1) := by decide +kernel
theorem dX8_enact_65 : decode cX8_enact 65 = .ok (.iinc 2 1, 3) := by decide +kernel
theorem dX8_enact_68 : decode cX8_enact 68 = .ok (.goto (-50), 3) := by decide +kernel
theorem dX8_enact_71 : decode cX8_enact 71 = .ok (.aload_n 0, 1) := by decide +kernel
theorem dX8_enact_72 : decode cX8_enact 72 = .ok (.iconst 0, 1) := by decide +kernel
theorem dX8_enact_73 : decode cX8_enact 73 = .ok (.putfield 160, 3) := by decide +kernel
theorem dX8_enact_76 : decode cX8_enact 76 = .ok (.iload_n 1, 1) := by decide +kernel
theorem dX8_enact_77 : decode cX8_enact 77 = .ok (.ireturn, 1) := by decide +kernel
set_option maxRecDepth 20000 in
theorem ggX8_works_X8_leftBy : GoodIn wsX8_works wsX8_leftBy := goodIn_r _ [15, 16, 5, 3, 17, 18, 19, 14, 20, 21, 33, 34, 35, 36, 37, 38, 39, 40, 41, 42, 43, 44, 45, 46, 47, 48, 49, 50, 51, 52, 53, 54, 55, 56, 57, 58, 59, 60, 61, 62, 63, 64, 65, 66, 67, 68, 69, 70, 71, 72, 73, 74, 75, 76] (by decide +kernel) (by decide +kernel)
set_option maxRecDepth 20000 in
theorem gX8_works_X8_leftBy : GoodIn wsX8_works (wsV RX8 170 RX8 yX8_leftBy wsX8_leftBy) := goodIn_app (goodIn_of _ (by decide +kernel)) ggX8_works_X8_leftBy
set_option maxRecDepth 20000 in
theorem ggX8_works_X8_rankBy : GoodIn wsX8_works wsX8_rankBy := goodIn_r _ [25, 16, 5, 17, 18, 19, 14, 20, 21, 33, 34, 35, 36, 37, 38, 39, 40, 41, 42, 43, 44, 45, 46, 47, 48, 49, 50, 51, 52, 53, 54, 55, 56, 57, 58, 59, 60, 61, 62, 63, 64, 65, 66, 67, 68, 69, 70, 71, 72, 73, 74, 75, 76] (by decide +kernel) (by decide +kernel)
set_option maxRecDepth 20000 in
theorem gX8_works_X8_rankBy : GoodIn wsX8_works (wsV RX8 173 RX8 yX8_rankBy wsX8_rankBy) := goodIn_app (goodIn_of _ (by decide +kernel)) ggX8_works_X8_rankBy
set_option maxRecDepth 20000 in
theorem ggX8_works_X8_pays : GoodIn wsX8_works wsX8_pays := goodIn_r _ [29, 30, 1, 31, 10, 32, 4, 2, 6, 8, 33, 34, 35, 36, 37, 38, 39, 40, 41, 42, 43, 44, 45, 46, 47, 48, 49, 50, 51, 52, 53, 54, 55, 56, 57, 58, 59, 60, 61, 62, 63, 64, 65, 66, 67, 68, 69, 70, 71, 72, 73, 74, 75, 76] (by decide +kernel) (by decide +kernel)
set_option maxRecDepth 20000 in
theorem gX8_works_X8_pays : GoodIn wsX8_works (wsV RX8 179 RX8 yX8_pays wsX8_pays) := goodIn_app (goodIn_of _ (by decide +kernel)) ggX8_works_X8_pays
theorem dX8_works_0 : decode cX8_works 0 = .ok (.iconst 0, 1) := by decide +kernel
theorem dX8_works_1 : decode cX8_works 1 = .ok (.istore_n 2, 1) := by decide +kernel
theorem dX8_works_2 : decode cX8_works 2 = .ok (.iload_n 2, 1) := by decide +kernel
theorem dX8_works_3 : decode cX8_works 3 = .ok (.aload_n 0, 1) := by decide +kernel
theorem dX8_works_4 : decode cX8_works 4 = .ok (.getfield 101, 3) := by decide +kernel
theorem dX8_works_7 : decode cX8_works 7 = .ok (.if_icmp .ge 69, 3) := by decide +kernel
theorem dX8_works_10 : decode cX8_works 10 = .ok (.aload_n 0, 1) := by decide +kernel
theorem dX8_works_11 : decode cX8_works 11 = .ok (.getfield 60, 3) := by decide +kernel
theorem dX8_works_14 : decode cX8_works 14 = .ok (.iload_n 2, 1) := by decide +kernel
theorem dX8_works_15 : decode cX8_works 15 = .ok (.iload_n 1, 1) := by decide +kernel
theorem dX8_works_16 : decode cX8_works 16 = .ok (.ifCond .eq 11, 3) := by decide +kernel
theorem dX8_works_19 : decode cX8_works 19 = .ok (.aload_n 0, 1) := by decide +kernel
theorem dX8_works_20 : decode cX8_works 20 = .ok (.iload_n 2, 1) := by decide +kernel
theorem dX8_works_21 : decode cX8_works 21 = .ok (.invokevirtual 170, 3) := by decide +kernel
end
section
abbrev vwCl : List vw_C := [(RX0, TX0, 5), (RX1, TX1, 10), (RX2, TX2, 5), (RX3, TX3, 11), (RX4, TX4, 7), (RX5, TX5, 2), (RX6, TX6, 4), (RX7, TX7, 10), (RX8, TX8, 44)]
/-! the words of the nest (private members reached from the nest's other classes), the form of a contract, entry, return, call -/
def nestF : List (String × Nat × String × String × String × String) := [("AdvanceBook", 64, "AdvanceBook$Tape", "length", "I", "AdvanceBook"), ("AdvanceBook", 81, "AdvanceBook$Town", "papers", "LAdvanceBook$Papers;", "AdvanceBook"), ("AdvanceBook", 85, "AdvanceBook$Town", "today", "I", "AdvanceBook"), ("AdvanceBook", 113, "AdvanceBook$Town", "purses", "[I", "AdvanceBook"), ("AdvanceBook", 148, "AdvanceBook$Reader", "fault", "I", "AdvanceBook"), ("AdvanceBook", 151, "AdvanceBook$Decree", "lines", "I", "AdvanceBook"), ("AdvanceBook", 154, "AdvanceBook$Reader", "faultPlace", "I", "AdvanceBook"), ("AdvanceBook", 176, "AdvanceBook$Town", "men", "I", "AdvanceBook"), ("AdvanceBook", 179, "AdvanceBook$Papers", "size", "I", "AdvanceBook"), ("AdvanceBook", 188, "AdvanceBook$Clearing", "rounds", "I", "AdvanceBook"), ("AdvanceBook$Balance", 28, "AdvanceBook$Town", "men", "I", "AdvanceBook"), ("AdvanceBook$Balance", 33, "AdvanceBook$Town", "papers", "LAdvanceBook$Papers;", "AdvanceBook"), ("AdvanceBook$Clearing", 47, "AdvanceBook$Town", "papers", "LAdvanceBook$Papers;", "AdvanceBook"), ("AdvanceBook$Clearing", 64, "AdvanceBook$Town", "men", "I", "AdvanceBook"), ("AdvanceBook$Clearing", 65, "AdvanceBook$Papers", "size", "I", "AdvanceBook"), ("AdvanceBook$Clearing", 70, "AdvanceBook$Town", "purses", "[I", "AdvanceBook"), ("AdvanceBook$Clearing", 73, "AdvanceBook$Papers", "lefts", "[I", "AdvanceBook"), ("AdvanceBook$Clearing", 76, "AdvanceBook$Papers", "ranks", "[I", "AdvanceBook"), ("AdvanceBook$Clearing", 79, "AdvanceBook$Papers", "days", "[I", "AdvanceBook"), ("AdvanceBook$Clearing", 88, "AdvanceBook$Papers", "debtors", "[I", "AdvanceBook"), ("AdvanceBook$Clearing", 91, "AdvanceBook$Papers", "creditors", "[I", "AdvanceBook"), ("AdvanceBook$Reader", 34, "AdvanceBook$Tape", "length", "I", "AdvanceBook"), ("AdvanceBook$Reader", 43, "AdvanceBook$Tape", "bytes", "[I", "AdvanceBook"), ("AdvanceBook$Reader", 89, "AdvanceBook$Decree", "lines", "I", "AdvanceBook"), ("AdvanceBook$Reader", 92, "AdvanceBook$Decree", "cuts", "[I", "AdvanceBook"), ("AdvanceBook$Reader", 103, "AdvanceBook$Decree", "moves", "[I", "AdvanceBook"), ("AdvanceBook$Reader", 106, "AdvanceBook$Decree", "spare", "I", "AdvanceBook"), ("AdvanceBook$Reader", 108, "AdvanceBook$Decree", "before", "I", "AdvanceBook"), ("AdvanceBook$Town", 39, "AdvanceBook$Clearing", "has", "[I", "AdvanceBook"), ("AdvanceBook$Town", 44, "AdvanceBook$Papers", "size", "I", "AdvanceBook"), ("AdvanceBook$Town", 47, "AdvanceBook$Papers", "lefts", "[I", "AdvanceBook"), ("AdvanceBook$Town", 50, "AdvanceBook$Clearing", "paid", "[I", "AdvanceBook")]
def nestM : List (String × Nat × MethodName × String) := [("AdvanceBook", 9, ⟨"AdvanceBook$Town", "<init>", "()V"⟩, "AdvanceBook"), ("AdvanceBook", 18, ⟨"AdvanceBook$Tape", "<init>", "()V"⟩, "AdvanceBook"), ("AdvanceBook", 25, ⟨"AdvanceBook$Reader", "<init>", "()V"⟩, "AdvanceBook"), ("AdvanceBook", 32, ⟨"AdvanceBook$Balance", "<init>", "()V"⟩, "AdvanceBook"), ("AdvanceBook", 46, ⟨"AdvanceBook$Clearing", "<init>", "()V"⟩, "AdvanceBook"), ("AdvanceBook$Town", 17, ⟨"AdvanceBook$Papers", "<init>", "()V"⟩, "AdvanceBook")]
def nestWs : List Cond := nestF.map (fun q => Cond.fieldLinkNest q.1 q.2.1 q.2.2.1 q.2.2.2.1 q.2.2.2.2.1 q.2.2.2.2.2) ++ nestM.map (fun q => Cond.methodLinkNest q.1 q.2.1 q.2.2.1 q.2.2.2)
def nest (U : State) : Prop := ∀ w ∈ nestWs, va_Nw w U
theorem nest_warm {s U : State} (hW : s.WarmedH U.vm) (h : nest s) : nest U := by
  intro w hw
  have h1 := h w hw
  rcases List.mem_append.mp hw with hw | hw
  · obtain ⟨q, -, rfl⟩ := List.mem_map.mp hw
    exact va_Nw.warmF hW h1
  · obtain ⟨q, -, rfl⟩ := List.mem_map.mp hw
    exact va_Nw.warmM hW h1
theorem nest_same {u U : State} (hv : u.vm = U.vm) (h : nest u) : nest U := by
  intro w hw
  have h1 := h w hw
  rcases List.mem_append.mp hw with hw | hw
  · obtain ⟨q, -, rfl⟩ := List.mem_map.mp hw
    exact va_Nw.same rfl hv h1
  · obtain ⟨q, -, rfl⟩ := List.mem_map.mp hw
    exact va_Nw.same rfl hv h1
theorem nest_useF {s : State} {args : Array Value} (h : nest s) {a b n d o : String} {i : Nat} (hm : (a, i, b, n, d, o) ∈ nestF) : (Cond.fieldLinkNest a i b n d o).before args s = true :=
  va_Nw.use rfl (h _ (List.mem_append_left _ (List.mem_map.mpr ⟨_, hm, rfl⟩)))
theorem nest_useM {s : State} (h : nest s) {a o : String} {i : Nat} {y : MethodName} (hm : (a, i, y, o) ∈ nestM) : va_Nw (.methodLinkNest a i y o) s :=
  h _ (List.mem_append_right _ (List.mem_map.mpr ⟨_, hm, rfl⟩))
abbrev tyL (cI cZ : ClassId) : List (ClassId × FieldType) := [(cI, .int), (cZ, .boolean)]
abbrev ob (a ci : Nat) (fs : List Value) : Nat × va_E := (a, .inr (ci, fs))
abbrev ar (cI : ClassId) (a n : Nat) (f : Nat → Int32) : Nat × va_E := (a, .inl (cI, n, .inl f))
def mPc (D : va_G) (cI cZ : ClassId) (av : List Value) (sz : Nat) (ws : va_W) : Array Value → State → Prop :=
  va_Pc av (fun U => U.heap.size = sz ∧ nest U ∧ va_P D vwCl ws U.heap ∧ va_K D vwCl (tyL cI cZ) U ∧ va_D (fun _ => True) ws)
def mB {S : Type} (D : va_G) (cI cZ : ClassId) (A : Nat → Prop) (w : S → va_W) (u : S) (t : State) : Prop := va_P D vwCl (w u) t.heap ∧ va_K D vwCl (tyL cI cZ) t ∧ va_D A (w u)
/-- a method that answers an int: its world wc, behind it the world w u, with post -/
def MI (l : Launch) (y : MethodName) (ws : List Cond) (rm : Room) (D : va_G) (cI cZ : ClassId) (av : List Value) (wc : va_W) {S : Type} (post : Int32 → S → Prop) (w : S → va_W) (mc ms : Nat) : Prop :=
  ∀ sz : Nat, Met l y ws rm (mPc D cI cZ av sz wc) (va_Qi post (mB D cI cZ (va_A wc sz) w) (va_A wc sz)) mc ms (va_A wc sz)
def MV (l : Launch) (y : MethodName) (ws : List Cond) (rm : Room) (D : va_G) (cI cZ : ClassId) (av : List Value) (wc : va_W) {S : Type} (post : S → Prop) (w : S → va_W) (mc ms : Nat) : Prop :=
  ∀ sz : Nat, Met l y ws rm (mPc D cI cZ av sz wc) (va_Qv post (mB D cI cZ (va_A wc sz) w) (va_A wc sz)) mc ms (va_A wc sz)
theorem mPc_blind {D : va_G} {cI cZ : ClassId} {av : List Value} {sz : Nat} {ws : va_W} : FrameBlind (mPc D cI cZ av sz ws) := by
  intro a U g mk q
  obtain ⟨q0, q1, qN, qP, qK, qD⟩ := q
  exact ⟨q0, q1, nest_same (u := U) (U := U.calling g mk a) rfl qN, qP, va_K.moved (u := U) (U := U.calling g mk a) (Vm.Alike.refl U.vm) qK, qD⟩
section MOF
variable {l : Launch} {y : MethodName} {ws ws' : List Cond} {rm : Room} {D : va_G} {cI cZ : ClassId} {av : List Value} {wc : va_W} {S : Type} {w : S → va_W} {mc ms : Nat} {cc : ByteArray} {maxL : Nat}
theorem MI.of {post : Int32 → S → Prop} (hy : plainName y.cls = true) (hw : ws = Cond.code y cc maxL (some .int) :: ws') (hlen : (lg_sl av).length ≤ maxL)
    (body : ∀ (p : Program) (e : Env) (s : State) (m : MethodId) (below : List Frame) (meth : Method) (c : Code) (A : Nat → Prop) (Q : State → Prop),
      p.tables.exec = Jvm.exec → c.code = cc → c.maxLocals = maxL → s.vm.findClass y.cls = some m.cls → (∀ w ∈ ws, w.before av.toArray s = true) → nest s → va_K D vwCl (tyL cI cZ) s → (∀ q : Nat, s.heap.size ≤ q → A q) →
      (∀ (v : Int32) (u : S) (H : Heap) (locs : List Loc) (pc : Nat) (ls : Array Slot), decode cc pc = .ok (.ireturn, 1) → post v u → va_P D vwCl (w u) H → va_D A (w u) → va_S A s.heap H locs → W p l e rm s m av.toArray below meth c H locs mc ms Q (F0 m pc ls [.int v])) →
      va_P D vwCl wc s.heap → va_D A wc → va_S A s.heap s.heap [] → ∀ ls : Array Slot, lv_has ls maxL (lv_args 0 av) → W p l e rm s m av.toArray below meth c s.heap [] 0 0 Q (F0 m 0 ls [])) : MI l y ws rm D cI cZ av wc post w mc ms := by
  intro sz
  refine Met.ofW (cc := cc) (maxL := maxL) (ret := some .int) hy hw ?_
  intro p e s m args below meth c s₁ B hml hv
  obtain ⟨rfl, hsz, hN, hP, hK, hD0⟩ := hv
  have hts := atoms_spec (ws := ws) B.pre
  subst hsz
  have hD := hD0.self (sz := s.heap.size)
  have hl := lv_entry av (n := maxL) hlen
  rw [lg_entry_eq]
  exact body p e s m below meth c (va_A wc s.heap.size) _ B.exec B.bytes hml (findClass_of_methodNamed B.named) hts hN hK (fun q h => Or.inr h)
    (fun v u H locs pc ls hd hp hP hD hS => W.iret B.exec B.bytes B.returns (fun t ht hW => ⟨⟨v, u, rfl, hp, by rw [ht]; exact hP, va_K.moved hW.alike hK, hD⟩, hS.F ht⟩) hS.2.2 hd (hlocks := B.notSynchronized)) hP hD va_S.rf _ hl
theorem MI.ofZ {post : Int32 → S → Prop} (hy : plainName y.cls = true) (hw : ws = Cond.code y cc maxL (some .boolean) :: ws') (hlen : (lg_sl av).length ≤ maxL)
    (body : ∀ (p : Program) (e : Env) (s : State) (m : MethodId) (below : List Frame) (meth : Method) (c : Code) (A : Nat → Prop) (Q : State → Prop),
      p.tables.exec = Jvm.exec → c.code = cc → c.maxLocals = maxL → s.vm.findClass y.cls = some m.cls → (∀ w ∈ ws, w.before av.toArray s = true) → nest s → va_K D vwCl (tyL cI cZ) s → (∀ q : Nat, s.heap.size ≤ q → A q) →
      (∀ (v : Int32) (u : S) (H : Heap) (locs : List Loc) (pc : Nat) (ls : Array Slot), decode cc pc = .ok (.ireturn, 1) → (v = 0 ∨ v = 1) → post v u → va_P D vwCl (w u) H → va_D A (w u) → va_S A s.heap H locs → W p l e rm s m av.toArray below meth c H locs mc ms Q (F0 m pc ls [.int v])) →
      va_P D vwCl wc s.heap → va_D A wc → va_S A s.heap s.heap [] → ∀ ls : Array Slot, lv_has ls maxL (lv_args 0 av) → W p l e rm s m av.toArray below meth c s.heap [] 0 0 Q (F0 m 0 ls [])) : MI l y ws rm D cI cZ av wc post w mc ms := by
  intro sz
  refine Met.ofW (cc := cc) (maxL := maxL) (ret := some .boolean) hy hw ?_
  intro p e s m args below meth c s₁ B hml hv
  obtain ⟨rfl, hsz, hN, hP, hK, hD0⟩ := hv
  have hts := atoms_spec (ws := ws) B.pre
  subst hsz
  have hD := hD0.self (sz := s.heap.size)
  have hl := lv_entry av (n := maxL) hlen
  rw [lg_entry_eq]
  exact body p e s m below meth c (va_A wc s.heap.size) _ B.exec B.bytes hml (findClass_of_methodNamed B.named) hts hN hK (fun q h => Or.inr h)
    (fun v u H locs pc ls hd hz hp hP hD hS => W.zret B.exec B.bytes B.returns (by rcases hz with rfl | rfl <;> rfl) (fun t ht hW => ⟨⟨v, u, rfl, hp, by rw [ht]; exact hP, va_K.moved hW.alike hK, hD⟩, hS.F ht⟩) hS.2.2 hd (hlocks := B.notSynchronized)) hP hD va_S.rf _ hl
theorem MV.of {post : S → Prop} (hy : plainName y.cls = true) (hw : ws = Cond.code y cc maxL none :: ws') (hlen : (lg_sl av).length ≤ maxL)
    (body : ∀ (p : Program) (e : Env) (s : State) (m : MethodId) (below : List Frame) (meth : Method) (c : Code) (A : Nat → Prop) (Q : State → Prop),
      p.tables.exec = Jvm.exec → c.code = cc → c.maxLocals = maxL → s.vm.findClass y.cls = some m.cls → (∀ w ∈ ws, w.before av.toArray s = true) → nest s → va_K D vwCl (tyL cI cZ) s → (∀ q : Nat, s.heap.size ≤ q → A q) →
      (∀ (u : S) (H : Heap) (locs : List Loc) (pc : Nat) (ls : Array Slot), decode cc pc = .ok (.return_, 1) → post u → va_P D vwCl (w u) H → va_D A (w u) → va_S A s.heap H locs → W p l e rm s m av.toArray below meth c H locs mc ms Q (F0 m pc ls [])) →
      va_P D vwCl wc s.heap → va_D A wc → va_S A s.heap s.heap [] → ∀ ls : Array Slot, lv_has ls maxL (lv_args 0 av) → meth.name = y.name → W p l e rm s m av.toArray below meth c s.heap [] 0 0 Q (F0 m 0 ls [])) : MV l y ws rm D cI cZ av wc post w mc ms := by
  intro sz
  refine Met.ofW (cc := cc) (maxL := maxL) (ret := none) hy hw ?_
  intro p e s m args below meth c s₁ B hml hv
  obtain ⟨rfl, hsz, hN, hP, hK, hD0⟩ := hv
  have hts := atoms_spec (ws := ws) B.pre
  subst hsz
  have hD := hD0.self (sz := s.heap.size)
  have hl := lv_entry av (n := maxL) hlen
  rw [lg_entry_eq]
  exact body p e s m below meth c (va_A wc s.heap.size) _ B.exec B.bytes hml (findClass_of_methodNamed B.named) hts hN hK (fun q h => Or.inr h)
    (fun u H locs pc ls hd hp hP hD hS => W.vret B.exec B.bytes B.returns (fun t ht hW => ⟨⟨u, rfl, hp, by rw [ht]; exact hP, va_K.moved hW.alike hK, hD⟩, hS.F ht⟩) hS.2.2 hd (hlocks := B.notSynchronized)) hP hD va_S.rf _ hl (name_of_methodNamed B.named B.method).1
end MOF
theorem fm_of_map {α β : Type} {f : α → Option β} : ∀ {is : List α} {wc : List β}, is.map f = wc.map some → is.filterMap f = wc
  | [], [], _ => rfl
  | [], _ :: _, h => by simp at h
  | _ :: _, [], h => by simp at h
  | i :: is, q :: wc, h => by
    simp only [List.map_cons, List.cons.injEq] at h
    rw [List.filterMap_cons, h.1, fm_of_map h.2]
section MCALL
variable {p : Program} {l : Launch} {e : Env} {R : Room} {s : State} {m : MethodId} {args : Array Value} {below : List Frame} {meth : Method} {c : Code} {H H0 : Heap} {locs : List Loc} {cells slots : Nat} {Q : State → Prop}
variable {y : MethodName} {bytes cc : ByteArray} {maxL nL mc ms n index ci b : Nat} {ret : Option FieldType} {wsM Ts : List Cond} {rm : Room} {own C host : String} {As rest st fs : List Value} {pc : Nat} {ls : Array Slot} {A : Nat → Prop}
variable {D : va_G} {cI cZ : ClassId} {ws wc wr : va_W} {S : Type} {w : S → va_W} {vq : vw_C}
theorem mB_join {t : State} {H1 : Heap} {u : S} (hP : va_P D vwCl ws H) (hD : va_D A ws) (isC isR : List Nat) (hC : isC.map (fun i => ws[i]?) = wc.map some) (hR : isR.map (fun i => ws[i]?) = wr.map some) (hnr : va_nd isR = true) (hdis : ∀ i ∈ isR, i ∉ isC) (hF : ∀ q, va_A wc H.size q → A q)
    (ht : t.heap = H1) (hk : ∀ q : Nat, q < H.size → ¬ va_A wc H.size q → H1[q]? = H[q]?) (hB : mB D cI cZ (va_A wc H.size) w u t) : va_P D vwCl (wr ++ w u) H1 ∧ va_D A (wr ++ w u) := by
  obtain ⟨hP1, -, hD1⟩ := hB
  rw [ht] at hP1
  exact va_join hP hD isC isR hC hR hnr hdis hk hF hP1 hD1
theorem mPc_pre (hN : nest s) (hK : va_K D vwCl (tyL cI cZ) s) (hPc : va_P D vwCl wc H) (hDc : va_D A wc) {av : List Value} : ∀ U : State, U.heap = H → s.WarmedH U.vm → mPc D cI cZ av H.size wc av.toArray U := fun U hU hW =>
  ⟨rfl, by rw [hU], nest_warm hW hN, by rw [hU]; exact hPc, va_K.moved hW.alike hK, hDc.weaken (fun _ _ _ _ => trivial)⟩
theorem m_cVi {post : Int32 → S → Prop} (FX : CallFix p m c cc nL s args Ts own) (hM : MI l y wsM rm D cI cZ (.ref b :: As) wc post w mc ms) (cw : CallW R s args own C index y bytes maxL ret wsM rm mc ms n)
    (hN : nest s) (hK : va_K D vwCl (tyL cI cZ) s) (hP : va_P D vwCl ws H) (hD : va_D A ws) (hS : va_S A H0 H locs) (hA : ∀ q, H0.size ≤ q → A q)
    (isC isR : List Nat) (hC : isC.map (fun i => ws[i]?) = wc.map some) (hR : isR.map (fun i => ws[i]?) = wr.map some) (hnc : va_nd isC = true) (hnr : va_nd isR = true) (hdis : ∀ i ∈ isR, i ∉ isC)
    (q0 : Nat) (hci : vwCl[ci]? = some vq) (hvq : vq.1 = C) (he : wc[q0]? = some (b, .inr (ci, fs)))
    (hn : As.length = n) (hsz : ls.size = nL) (hst : st = As.reverse ++ .ref b :: rest) (hW : (rest.map fun v => v.category).sum ≤ 8) (hdg : decode cc pc = .ok (.invokevirtual index, 3)) (hf : cells + mc ≤ R.cells ∧ slots + ms ≤ R.slots)
    (kk : ∀ (r : Int32) (u : S) (H1 : Heap) (locs1 : List Loc), post r u → va_P D vwCl (wr ++ w u) H1 → va_D A (wr ++ w u) → va_S A H0 H1 locs1 → W p l e R s m args below meth c H1 locs1 (cells + mc) (slots + ms) Q (F0 m (pc + 3) ls (.int r :: rest))) :
    W p l e R s m args below meth c H locs cells slots Q (F0 m pc ls st) := by
  have hPc := hP.sub (ws' := wc) isC (fm_of_map hC)
  have hDc := hD.sub (ws' := wc) isC hnc hC
  have hFc := va_free (wc := wc) hD hS hA isC hC
  subst hvq
  refine va_calli (va_runV (As := As) (rest := rest) FX (hM H.size) cw ⟨mPc_blind, va_recv hK hPc (q := vq) hci he, mPc_pre hN hK hPc hDc⟩ rfl hn hsz hst (lv_room hW) hdg hf) hS (fun q _ h => hFc q h) hFc (fun r u t H1 locs1 ht hvm hw hB hz1 hk1 hS1 => ?_)
  obtain ⟨hP1, hD1⟩ := mB_join hP hD isC isR hC hR hnr hdis hFc ht hk1 hB
  exact kk r u H1 locs1 hw hP1 hD1 hS1
theorem m_cVv {post : S → Prop} (FX : CallFix p m c cc nL s args Ts own) (hM : MV l y wsM rm D cI cZ (.ref b :: As) wc post w mc ms) (cw : CallW R s args own C index y bytes maxL ret wsM rm mc ms n)
    (hN : nest s) (hK : va_K D vwCl (tyL cI cZ) s) (hP : va_P D vwCl ws H) (hD : va_D A ws) (hS : va_S A H0 H locs) (hA : ∀ q, H0.size ≤ q → A q)
    (isC isR : List Nat) (hC : isC.map (fun i => ws[i]?) = wc.map some) (hR : isR.map (fun i => ws[i]?) = wr.map some) (hnc : va_nd isC = true) (hnr : va_nd isR = true) (hdis : ∀ i ∈ isR, i ∉ isC)
    (q0 : Nat) (hci : vwCl[ci]? = some vq) (hvq : vq.1 = C) (he : wc[q0]? = some (b, .inr (ci, fs)))
    (hn : As.length = n) (hsz : ls.size = nL) (hst : st = As.reverse ++ .ref b :: rest) (hW : (rest.map fun v => v.category).sum ≤ 8) (hdg : decode cc pc = .ok (.invokevirtual index, 3)) (hf : cells + mc ≤ R.cells ∧ slots + ms ≤ R.slots)
    (kk : ∀ (u : S) (H1 : Heap) (locs1 : List Loc), post u → va_P D vwCl (wr ++ w u) H1 → va_D A (wr ++ w u) → va_S A H0 H1 locs1 → W p l e R s m args below meth c H1 locs1 (cells + mc) (slots + ms) Q (F0 m (pc + 3) ls rest)) :
    W p l e R s m args below meth c H locs cells slots Q (F0 m pc ls st) := by
  have hPc := hP.sub (ws' := wc) isC (fm_of_map hC)
  have hDc := hD.sub (ws' := wc) isC hnc hC
  have hFc := va_free (wc := wc) hD hS hA isC hC
  subst hvq
  refine va_callv (va_runV (As := As) (rest := rest) FX (hM H.size) cw ⟨mPc_blind, va_recv hK hPc (q := vq) hci he, mPc_pre hN hK hPc hDc⟩ rfl hn hsz hst (lv_room hW) hdg hf) hS (fun q _ h => hFc q h) hFc (fun u t H1 locs1 ht hvm hw hB hz1 hk1 hS1 => ?_)
  obtain ⟨hP1, hD1⟩ := mB_join hP hD isC isR hC hR hnr hdis hFc ht hk1 hB
  exact kk u H1 locs1 hw hP1 hD1 hS1
theorem m_cSi {post : Int32 → S → Prop} (FX : CallFix p m c cc nL s args Ts own) (hM : MI l y wsM rm D cI cZ As wc post w mc ms) (cw : CallB R s args own index y bytes maxL ret wsM rm mc ms n ∧ (Cond.static y).before args s = true)
    (hN : nest s) (hK : va_K D vwCl (tyL cI cZ) s) (hP : va_P D vwCl ws H) (hD : va_D A ws) (hS : va_S A H0 H locs) (hA : ∀ q, H0.size ≤ q → A q)
    (isC isR : List Nat) (hC : isC.map (fun i => ws[i]?) = wc.map some) (hR : isR.map (fun i => ws[i]?) = wr.map some) (hnc : va_nd isC = true) (hnr : va_nd isR = true) (hdis : ∀ i ∈ isR, i ∉ isC)
    (hn : As.length = n) (hsz : ls.size = nL) (hst : st = As.reverse ++ rest) (hW : (rest.map fun v => v.category).sum ≤ 8) (hdg : decode cc pc = .ok (.invokestatic index, 3)) (hf : cells + mc ≤ R.cells ∧ slots + ms ≤ R.slots)
    (kk : ∀ (r : Int32) (u : S) (H1 : Heap) (locs1 : List Loc), post r u → va_P D vwCl (wr ++ w u) H1 → va_D A (wr ++ w u) → va_S A H0 H1 locs1 → W p l e R s m args below meth c H1 locs1 (cells + mc) (slots + ms) Q (F0 m (pc + 3) ls (.int r :: rest))) :
    W p l e R s m args below meth c H locs cells slots Q (F0 m pc ls st) := by
  have hPc := hP.sub (ws' := wc) isC (fm_of_map hC)
  have hDc := hD.sub (ws' := wc) isC hnc hC
  have hFc := va_free (wc := wc) hD hS hA isC hC
  refine va_calli (va_runS (As := As) (rest := rest) FX (hM H.size) cw ⟨mPc_blind, mPc_pre hN hK hPc hDc⟩ rfl hn hsz hst (lv_room hW) hdg hf) hS (fun q _ h => hFc q h) hFc (fun r u t H1 locs1 ht hvm hw hB hz1 hk1 hS1 => ?_)
  obtain ⟨hP1, hD1⟩ := mB_join hP hD isC isR hC hR hnr hdis hFc ht hk1 hB
  exact kk r u H1 locs1 hw hP1 hD1 hS1
theorem m_cSv {post : S → Prop} (FX : CallFix p m c cc nL s args Ts own) (hM : MV l y wsM rm D cI cZ As wc post w mc ms) (cw : CallB R s args own index y bytes maxL ret wsM rm mc ms n ∧ (Cond.static y).before args s = true)
    (hN : nest s) (hK : va_K D vwCl (tyL cI cZ) s) (hP : va_P D vwCl ws H) (hD : va_D A ws) (hS : va_S A H0 H locs) (hA : ∀ q, H0.size ≤ q → A q)
    (isC isR : List Nat) (hC : isC.map (fun i => ws[i]?) = wc.map some) (hR : isR.map (fun i => ws[i]?) = wr.map some) (hnc : va_nd isC = true) (hnr : va_nd isR = true) (hdis : ∀ i ∈ isR, i ∉ isC)
    (hn : As.length = n) (hsz : ls.size = nL) (hst : st = As.reverse ++ rest) (hW : (rest.map fun v => v.category).sum ≤ 8) (hdg : decode cc pc = .ok (.invokestatic index, 3)) (hf : cells + mc ≤ R.cells ∧ slots + ms ≤ R.slots)
    (kk : ∀ (u : S) (H1 : Heap) (locs1 : List Loc), post u → va_P D vwCl (wr ++ w u) H1 → va_D A (wr ++ w u) → va_S A H0 H1 locs1 → W p l e R s m args below meth c H1 locs1 (cells + mc) (slots + ms) Q (F0 m (pc + 3) ls rest)) :
    W p l e R s m args below meth c H locs cells slots Q (F0 m pc ls st) := by
  have hPc := hP.sub (ws' := wc) isC (fm_of_map hC)
  have hDc := hD.sub (ws' := wc) isC hnc hC
  have hFc := va_free (wc := wc) hD hS hA isC hC
  refine va_callv (va_runS (As := As) (rest := rest) FX (hM H.size) cw ⟨mPc_blind, mPc_pre hN hK hPc hDc⟩ rfl hn hsz hst (lv_room hW) hdg hf) hS (fun q _ h => hFc q h) hFc (fun u t H1 locs1 ht hvm hw hB hz1 hk1 hS1 => ?_)
  obtain ⟨hP1, hD1⟩ := mB_join hP hD isC isR hC hR hnr hdis hFc ht hk1 hB
  exact kk u H1 locs1 hw hP1 hD1 hS1
theorem m_cI {post : S → Prop} (FX : CallFix p m c cc nL s args Ts own) (hM : MV l y wsM rm D cI cZ (.ref b :: As) wc post w mc ms) (cw : CallB R s args own index y bytes maxL none wsM rm mc ms n ∧ y.name = "<init>" ∧ (Cond.instanceMethod y).before args s = true)
    (hN : nest s) (hK : va_K D vwCl (tyL cI cZ) s) (hP : va_P D vwCl ws H) (hD : va_D A ws) (hS : va_S A H0 H locs) (hA : ∀ q, H0.size ≤ q → A q)
    (isC isR : List Nat) (hC : isC.map (fun i => ws[i]?) = wc.map some) (hR : isR.map (fun i => ws[i]?) = wr.map some) (hnc : va_nd isC = true) (hnr : va_nd isR = true) (hdis : ∀ i ∈ isR, i ∉ isC)
    (hn : As.length = n) (hsz : ls.size = nL) (hst : st = As.reverse ++ .ref b :: rest) (hW : (rest.map fun v => v.category).sum ≤ 8) (hdg : decode cc pc = .ok (.invokespecial index, 3)) (hf : cells + mc ≤ R.cells ∧ slots + ms ≤ R.slots)
    (kk : ∀ (u : S) (H1 : Heap) (locs1 : List Loc), post u → va_P D vwCl (wr ++ w u) H1 → va_D A (wr ++ w u) → va_S A H0 H1 locs1 → W p l e R s m args below meth c H1 locs1 (cells + mc) (slots + ms) Q (F0 m (pc + 3) ls rest)) :
    W p l e R s m args below meth c H locs cells slots Q (F0 m pc ls st) := by
  have hPc := hP.sub (ws' := wc) isC (fm_of_map hC)
  have hDc := hD.sub (ws' := wc) isC hnc hC
  have hFc := va_free (wc := wc) hD hS hA isC hC
  refine va_callv (va_runI (As := As) (rest := rest) FX (hM H.size) cw ⟨mPc_blind, mPc_pre hN hK hPc hDc⟩ rfl hn hsz hst (lv_room hW) hdg hf) hS (fun q _ h => hFc q h) hFc (fun u t H1 locs1 ht hvm hw hB hz1 hk1 hS1 => ?_)
  obtain ⟨hP1, hD1⟩ := mB_join hP hD isC isR hC hR hnr hdis hFc ht hk1 hB
  exact kk u H1 locs1 hw hP1 hD1 hS1
theorem m_cIN {post : S → Prop} (FX : CallFix p m c cc nL s args Ts own) (hM : MV l y wsM rm D cI cZ (.ref b :: As) wc post w mc ms) (cw : va_CN R s args own index y host bytes maxL none wsM rm mc ms n ∧ y.name = "<init>" ∧ (Cond.instanceMethod y).before args s = true)
    (hN : nest s) (hK : va_K D vwCl (tyL cI cZ) s) (hP : va_P D vwCl ws H) (hD : va_D A ws) (hS : va_S A H0 H locs) (hA : ∀ q, H0.size ≤ q → A q)
    (isC isR : List Nat) (hC : isC.map (fun i => ws[i]?) = wc.map some) (hR : isR.map (fun i => ws[i]?) = wr.map some) (hnc : va_nd isC = true) (hnr : va_nd isR = true) (hdis : ∀ i ∈ isR, i ∉ isC)
    (hn : As.length = n) (hsz : ls.size = nL) (hst : st = As.reverse ++ .ref b :: rest) (hW : (rest.map fun v => v.category).sum ≤ 8) (hdg : decode cc pc = .ok (.invokespecial index, 3)) (hf : cells + mc ≤ R.cells ∧ slots + ms ≤ R.slots)
    (kk : ∀ (u : S) (H1 : Heap) (locs1 : List Loc), post u → va_P D vwCl (wr ++ w u) H1 → va_D A (wr ++ w u) → va_S A H0 H1 locs1 → W p l e R s m args below meth c H1 locs1 (cells + mc) (slots + ms) Q (F0 m (pc + 3) ls rest)) :
    W p l e R s m args below meth c H locs cells slots Q (F0 m pc ls st) := by
  have hPc := hP.sub (ws' := wc) isC (fm_of_map hC)
  have hDc := hD.sub (ws' := wc) isC hnc hC
  have hFc := va_free (wc := wc) hD hS hA isC hC
  refine va_callv (va_runIN (As := As) (rest := rest) FX (hM H.size) cw ⟨mPc_blind, mPc_pre hN hK hPc hDc⟩ rfl hn hsz hst (lv_room hW) hdg hf) hS (fun q _ h => hFc q h) hFc (fun u t H1 locs1 ht hvm hw hB hz1 hk1 hS1 => ?_)
  obtain ⟨hP1, hD1⟩ := mB_join hP hD isC isR hC hR hnr hdis hFc ht hk1 hB
  exact kk u H1 locs1 hw hP1 hD1 hS1
end MCALL
section MROW
variable {p : Program} {l : Launch} {e : Env} {R : Room} {s : State} {m : MethodId} {args : Array Value} {below : List Frame} {meth : Method} {c : Code} {H H0 : Heap} {locs : List Loc} {cells slots : Nat} {Q : State → Prop}
variable {cc : ByteArray} {D : va_G} {cl : List vw_C} {tys : List (ClassId × FieldType)} {ws : va_W} {A : Nat → Prop} {a pc : Nat} {ls : Array Slot} {rest : List Value}
theorem m_iald (hx : p.tables.exec = Jvm.exec) (hb : c.code = cc) (hK : va_K D cl tys s) (hP : va_P D cl ws H) (q0 t0 : Nat) {cA : ClassId} {n : Nat} {f : Nat → Int32} (ha : ws[q0]? = some (a, .inl (cA, n, .inl f))) (ht : tys[t0]? = some (cA, .int)) {k : Nat} (hk : k < n) (hn : n < 2 ^ 31) (hdg : decode cc pc = .ok (.iaload, 1))
    (kk : W p l e R s m args below meth c H locs cells slots Q (F0 m (pc + 1) ls (.int (f k) :: rest))) : W p l e R s m args below meth c H locs cells slots Q (F0 m pc ls (.int (nI k) :: .ref a :: rest)) := by
  refine va_iald hx hb hK hP q0 t0 ha ht (vp_in_nI hk hn) hdg ?_
  rw [nI_clamp (Nat.lt_trans hk hn)]
  exact kk
theorem m_zald (hx : p.tables.exec = Jvm.exec) (hb : c.code = cc) (hK : va_K D cl tys s) (hP : va_P D cl ws H) (q0 t0 : Nat) {cA : ClassId} {n : Nat} {f : Nat → Int32} (ha : ws[q0]? = some (a, .inl (cA, n, .inl f))) (ht : tys[t0]? = some (cA, .boolean)) {k : Nat} (hk : k < n) (hn : n < 2 ^ 31) (hdg : decode cc pc = .ok (.baload, 1))
    (kk : W p l e R s m args below meth c H locs cells slots Q (F0 m (pc + 1) ls (.int (f k) :: rest))) : W p l e R s m args below meth c H locs cells slots Q (F0 m pc ls (.int (nI k) :: .ref a :: rest)) := by
  refine va_zald hx hb hK hP q0 t0 ha ht (vp_in_nI hk hn) hdg ?_
  rw [nI_clamp (Nat.lt_trans hk hn)]
  exact kk
theorem m_iast (hx : p.tables.exec = Jvm.exec) (hb : c.code = cc) (hK : va_K D cl tys s) (hP : va_P D cl ws H) (hD : va_D A ws) (hS : va_S A H0 H locs) (q0 t0 : Nat) {cA : ClassId} {n : Nat} {f : Nat → Int32} (ha : ws[q0]? = some (a, .inl (cA, n, .inl f))) (ht : tys[t0]? = some (cA, .int)) {k : Nat} {x : Int32} (hk : k < n) (hn : n < 2 ^ 31) (hdg : decode cc pc = .ok (.iastore, 1))
    (kk : ∀ (H1 : Heap) (locs1 : List Loc), va_P D cl (ws.set q0 (a, .inl (cA, n, .inl (upd f k x)))) H1 → va_D A (ws.set q0 (a, .inl (cA, n, .inl (upd f k x)))) → va_S A H0 H1 locs1 → W p l e R s m args below meth c H1 locs1 cells slots Q (F0 m (pc + 1) ls rest)) : W p l e R s m args below meth c H locs cells slots Q (F0 m pc ls (.int x :: .int (nI k) :: .ref a :: rest)) := by
  refine va_iast hx hb hK hP hD hS q0 t0 ha ht (vp_in_nI hk hn) hdg ?_
  rw [nI_clamp (Nat.lt_trans hk hn)]
  exact kk
end MROW
theorem nI_inc (k j : Nat) {n : Int} (h : Int32.ofInt n = nI j) : nI k + Int32.ofInt n = nI (k + j) := by rw [h, nI_add]

abbrev ix (x : Int32) : Nat := x.toNatClampNeg
section MROW2
variable {p : Program} {l : Launch} {e : Env} {R : Room} {s : State} {m : MethodId} {args : Array Value} {below : List Frame} {meth : Method} {c : Code} {H H0 : Heap} {locs : List Loc} {cells slots : Nat} {Q : State → Prop}
variable {cc : ByteArray} {D : va_G} {cl : List vw_C} {ws : va_W} {A : Nat → Prop} {a pc : Nat} {ls : Array Slot} {rest : List Value} {cI cZ : ClassId}
theorem m_iaddN {a b : Nat} (hx : p.tables.exec = Jvm.exec) (hb : c.code = cc) (hdg : decode cc pc = .ok (.iadd, 1))
    (kk : W p l e R s m args below meth c H locs cells slots Q (F0 m (pc + 1) ls (.int (nI (a + b)) :: rest))) : W p l e R s m args below meth c H locs cells slots Q (F0 m pc ls (.int (nI b) :: .int (nI a) :: rest)) := by
  refine lv_iadd hx hb hdg ?_
  rw [nI_add]
  exact kk
theorem m_imulN {a b : Nat} (hx : p.tables.exec = Jvm.exec) (hb : c.code = cc) (hdg : decode cc pc = .ok (.imul, 1))
    (kk : W p l e R s m args below meth c H locs cells slots Q (F0 m (pc + 1) ls (.int (nI (a * b)) :: rest))) : W p l e R s m args below meth c H locs cells slots Q (F0 m pc ls (.int (nI b) :: .int (nI a) :: rest)) := by
  refine lv_imul hx hb hdg ?_
  rw [pk_mul]
  exact kk
theorem vp_nar_bool {x : Int32} (h : x = 0 ∨ x = 1) : vp_nar .boolean x = x := by rcases h with rfl | rfl <;> rfl
theorem zn_ok {x : Int32} (h : x = 0 ∨ x = 1) : narrow .boolean (.int x) = .int x := by rcases h with rfl | rfl <;> rfl
theorem zf_ok {x : Int32} (h : x = 0 ∨ x = 1) : fits .boolean (.int x) = true := by rcases h with rfl | rfl <;> rfl
theorem m_zast {tys : List (ClassId × FieldType)} (hx : p.tables.exec = Jvm.exec) (hb : c.code = cc) (hK : va_K D cl tys s) (hP : va_P D cl ws H) (hD : va_D A ws) (hS : va_S A H0 H locs) (q0 t0 : Nat) {cA : ClassId} {n : Nat} {f : Nat → Int32} (ha : ws[q0]? = some (a, .inl (cA, n, .inl f))) (ht : tys[t0]? = some (cA, .boolean)) {k : Nat} {x : Int32} (hz : x = 0 ∨ x = 1) (hk : k < n) (hn : n < 2 ^ 31) (hdg : decode cc pc = .ok (.bastore, 1))
    (kk : ∀ (H1 : Heap) (locs1 : List Loc), va_P D cl (ws.set q0 (a, .inl (cA, n, .inl (upd f k x)))) H1 → va_D A (ws.set q0 (a, .inl (cA, n, .inl (upd f k x)))) → va_S A H0 H1 locs1 → W p l e R s m args below meth c H1 locs1 cells slots Q (F0 m (pc + 1) ls rest)) : W p l e R s m args below meth c H locs cells slots Q (F0 m pc ls (.int x :: .int (nI k) :: .ref a :: rest)) := by
  refine va_zast hx hb hK hP hD hS q0 t0 ha ht (vp_in_nI hk hn) hdg ?_
  rw [nI_clamp (Nat.lt_trans hk hn), vp_nar_bool hz]
  exact kk
theorem m_newaI {N : Nat} {n : Int32} (hx : p.tables.exec = Jvm.exec) (hb : c.code = cc) (harr : (Cond.arrayClass .int).before args s = true) (hK : va_K D cl (tyL cI cZ) s) (hP : va_P D cl ws H) (hD : va_D A ws) (hS : va_S A H0 H locs) (hA : ∀ q, H0.size ≤ q → A q) (hn : n = nI N) (hN : N ≤ 1000) (hr : cells + 1 ≤ R.cells ∧ slots + N ≤ R.slots) (hdg : decode cc pc = .ok (.newarray .int, 2))
    (kk : ∀ (q : Nat) (H1 : Heap), va_P D cl (ws ++ [ar cI q N (fun _ => 0)]) H1 → va_D A (ws ++ [ar cI q N (fun _ => 0)]) → va_S A H0 H1 locs → W p l e R s m args below meth c H1 locs (cells + 1) (slots + N) Q (F0 m (pc + 2) ls (.ref q :: rest))) : W p l e R s m args below meth c H locs cells slots Q (F0 m pc ls (.int n :: rest)) := by
  subst hn
  refine va_newa (atype := .int) (ty := .int) (N' := N) (a0 := (N, .inl (fun _ => 0))) hx hb harr rfl hK hP hD hS hA (fun cA => by rw [vp_cell_i]; rfl) (nI_pos (by omega)) (nI_clamp (by omega)) (by show N * 4 ≤ _; omega) hr.1 hr.2 hdg (fun q cA H1 hK1 hP1 hD1 hS1 => ?_)
  have e1 : s.vm.findClass ("[" ++ (FieldType.int).toString) = some cI := (hK.2 0 _ rfl).2
  have e2 : s.vm.findClass ("[" ++ (FieldType.int).toString) = some cA := (hK1.2 2 _ rfl).2
  cases Option.some.inj (e1.symm.trans e2)
  exact kk q H1 hP1 hD1 hS1
theorem m_newaZ {N : Nat} {n : Int32} (hx : p.tables.exec = Jvm.exec) (hb : c.code = cc) (harr : (Cond.arrayClass .boolean).before args s = true) (hK : va_K D cl (tyL cI cZ) s) (hP : va_P D cl ws H) (hD : va_D A ws) (hS : va_S A H0 H locs) (hA : ∀ q, H0.size ≤ q → A q) (hn : n = nI N) (hN : N ≤ 1000) (hr : cells + 1 ≤ R.cells ∧ slots + N ≤ R.slots) (hdg : decode cc pc = .ok (.newarray .boolean, 2))
    (kk : ∀ (q : Nat) (H1 : Heap), va_P D cl (ws ++ [ar cZ q N (fun _ => 0)]) H1 → va_D A (ws ++ [ar cZ q N (fun _ => 0)]) → va_S A H0 H1 locs → W p l e R s m args below meth c H1 locs (cells + 1) (slots + N) Q (F0 m (pc + 2) ls (.ref q :: rest))) : W p l e R s m args below meth c H locs cells slots Q (F0 m pc ls (.int n :: rest)) := by
  subst hn
  refine va_newa (atype := .boolean) (ty := .boolean) (N' := N) (a0 := (N, .inl (fun _ => 0))) hx hb harr rfl hK hP hD hS hA (fun cA => by rw [vp_cell_i]; rfl) (nI_pos (by omega)) (nI_clamp (by omega)) (by show N * 1 ≤ _; omega) hr.1 hr.2 hdg (fun q cA H1 hK1 hP1 hD1 hS1 => ?_)
  have e1 : s.vm.findClass ("[" ++ (FieldType.boolean).toString) = some cZ := (hK.2 1 _ rfl).2
  have e2 : s.vm.findClass ("[" ++ (FieldType.boolean).toString) = some cA := (hK1.2 2 _ rfl).2
  cases Option.some.inj (e1.symm.trans e2)
  exact kk q H1 hP1 hD1 hS1
end MROW2
theorem sw_ne {x k : Int32} {z : Int} (hz : k.toInt = z) (h : ¬ x = k) : x.toInt ≠ z := fun e => h (Int32.toInt_inj.mp (e.trans hz.symm))
end
section
/-- what is said of a man's papers: all that is left to him less all that is left of his -/
def netS (c d f : Nat → Int32) (x : Int32) : Nat → Int32
  | 0 => 0
  | n + 1 => if d n = x then (if c n = x then netS c d f x n + f n else netS c d f x n) - f n else (if c n = x then netS c d f x n + f n else netS c d f x n)
def sumS (f : Nat → Int32) : Nat → Int32
  | 0 => 0
  | n + 1 => sumS f n + f n
def told (d c k r y : Nat → Int32) (a b x z t : Int32) : Nat → Bool
  | 0 => false
  | n + 1 => told d c k r y a b x z t n || decide (d n = a ∧ c n = b ∧ k n = x ∧ r n = z ∧ y n = t)
theorem told_mono {d c k r y : Nat → Int32} {a b x z t : Int32} {i : Nat} (h : d i = a ∧ c i = b ∧ k i = x ∧ r i = z ∧ y i = t) : ∀ {n : Nat}, i < n → told d c k r y a b x z t n = true
  | 0, hi => absurd hi (Nat.not_lt_zero _)
  | n + 1, hi => by
    rcases Nat.lt_or_ge i n with q | q
    · simp [told, told_mono h q]
    · have e : i = n := by omega
      subst e
      simp [told, h]
theorem told_no {d c k r y : Nat → Int32} {a b x z t : Int32} {n : Nat} (h : told d c k r y a b x z t n = false) (h2 : ¬ (d n = a ∧ c n = b ∧ k n = x ∧ r n = z ∧ y n = t)) : told d c k r y a b x z t (n + 1) = false := by
  simp only [told, h, decide_eq_false h2, Bool.or_self]
/-- f below n, g from n on -/
def fil (f g : Nat → Int32) (n : Nat) : Nat → Int32 := fun k => if k < n then f k else g k
theorem fil_0 {f g : Nat → Int32} : fil f g 0 = g := by funext k; simp [fil]
theorem fil_at {f g h : Nat → Int32} {k : Nat} (e : h = fil f g k) : h k = g k := by rw [e]; simp [fil]
theorem fil_step {f g h : Nat → Int32} {k : Nat} {v : Int32} (e : h = fil f g k) (hv : v = f k) : upd h k v = fil f g (k + 1) := by
  subst e; funext j
  by_cases e1 : j = k
  · subst e1; simp [fil, upd, hv]
  · by_cases e2 : j < k
    · have e3 : j < k + 1 := by omega
      simp [fil, upd, e1, e2, e3]
    · have e3 : ¬ j < k + 1 := by omega
      simp [fil, upd, e1, e2, e3]
theorem fil_skip {f g h : Nat → Int32} {k : Nat} (e : h = fil f g k) (hv : f k = g k) : h = fil f g (k + 1) := by
  subst e; funext j
  by_cases e1 : j = k
  · subst e1; simp [fil, hv]
  · by_cases e2 : j < k
    · have e3 : j < k + 1 := by omega
      simp [fil, e2, e3]
    · have e3 : ¬ j < k + 1 := by omega
      simp [fil, e2, e3]
def rep (x y : Int32) (f : Nat → Int32) : Nat → Int32 := fun k => if f k = x then y else f k
def repL (x y : Int32) (d c f : Nat → Int32) : Nat → Int32 := fun k => if rep x y d k = rep x y c k then 0 else f k
def tellS (db cr tk rk lf dy cp : Nat → Int32) (q : Nat) (x : Int32) : Int32 :=
  if x = 0 then db q else if x = 1 then cr q else if x = 2 then tk q else if x = 3 then rk q else if x = 4 then lf q else if x = 5 then dy q else if cp q = 0 then 0 else 1

abbrev r_c_X3_holds : Room := { frames := 0, cells := 0, slots := 0, locals := 0 }
set_option maxHeartbeats 4000000 in
set_option maxRecDepth 100000 in
theorem c_X3_holds (l : Launch) (D : va_G) (cI cZ : ClassId) (aP : Nat) (aTD : Nat) (aTC : Nat) (aTK : Nat) (aTR : Nat) (aDY : Nat) (aCP : Nat) (aDB : Nat) (aCR : Nat) (aRK : Nat) (aLF : Nat) (np : Nat) (x : Int32)  : MI l yX3_holds wsX3_holds r_c_X3_holds D cI cZ [.ref aP, .int x] [ob aP 3 [.ref aTD, .ref aTC, .ref aTK, .ref aTR, .ref aDY, .ref aCP, .ref aDB, .ref aCR, .ref aRK, .ref aLF, .int (nI np)]] (fun (r : Int32) (u : Unit) => r = if 0 ≤ x ∧ x < nI np then 1 else 0) (fun (u : Unit) => [ob aP 3 [.ref aTD, .ref aTC, .ref aTK, .ref aTR, .ref aDY, .ref aCP, .ref aDB, .ref aCR, .ref aRK, .ref aLF, .int (nI np)]]) 0 0 := by
  refine MI.ofZ (cc := cX3_holds) (maxL := 2) (by decide) rfl (Nat.le_of_ble_eq_true rfl) ?_
  intro p e s m below meth c A Q hx hb hml hown hts hN hK hA ret hP hD hS ls hl
  have hown : s.vm.findClass RX3 = some m.cls := hown
  have inX3 : ∀ w ∈ wsX30, w ∈ wsX3_holds := by decide +kernel
  have fl43 := hts (.fieldLink RX3 43 "AdvanceBook$Papers" "size" "I") (by decide +kernel)
  have hP : va_P D vwCl [ob aP 3 [.ref aTD, .ref aTC, .ref aTK, .ref aTR, .ref aDY, .ref aCP, .ref aDB, .ref aCR, .ref aRK, .ref aLF, .int (nI np)]] s.heap := hP
  have hD : va_D A [ob aP 3 [.ref aTD, .ref aTC, .ref aTK, .ref aTR, .ref aDY, .ref aCP, .ref aDB, .ref aCR, .ref aRK, .ref aLF, .int (nI np)]] := hD
  have hl : lv_has ls 2 [(0, .ref aP), (1, .int x)] := hl
  refine lv_iload_n hx hb dX3_holds_0 rfl (lv_at hl 1 rfl) ?_
  refine lv_if_lt (tgt := 16) hx hb dX3_holds_1 (by decide) (fun c_1 => ?_) (fun c_1 => ?_)
  · skip
    refine lv_iconst (v := 0) hx hb dX3_holds_16 (by decide) ?_
    exact ret 0 () _ _ _ _ dX3_holds_17 (Or.inl rfl) (by grind) (hP) (hD) hS
  · skip
    refine lv_iload_n hx hb dX3_holds_4 rfl (lv_at hl 1 rfl) ?_
    refine lv_aload_n hx hb dX3_holds_5 rfl (lv_at hl 0 rfl) ?_
    refine va_get (D := D) (ci := 3) (v := .int (nI np)) (C := RX3) (T := TX3) (N := 11) hx hb hts inX3 hown hK hP 0 rfl rfl 10 (by decide) fl43 (fun _ h9 => h9) rfl dX3_holds_6 ?_
    refine lv_icmp_ge (tgt := 16) hx hb dX3_holds_9 (by decide) (fun c_9 => ?_) (fun c_9 => ?_)
    · skip
      refine lv_iconst (v := 0) hx hb dX3_holds_16 (by decide) ?_
      exact ret 0 () _ _ _ _ dX3_holds_17 (Or.inl rfl) (by grind) (hP) (hD) hS
    · skip
      refine lv_iconst (v := 1) hx hb dX3_holds_12 (by decide) ?_
      refine lv_goto (tgt := 17) hx hb dX3_holds_13 (by decide) ?_
      exact ret 1 () _ _ _ _ dX3_holds_17 (Or.inr rfl) (by grind) (hP) (hD) hS
abbrev r_c_X3_netOf : Room := { frames := 0, cells := 0, slots := 0, locals := 0 }
set_option maxHeartbeats 4000000 in
set_option maxRecDepth 100000 in
theorem c_X3_netOf (l : Launch) (D : va_G) (cI cZ : ClassId) (aP : Nat) (aTD : Nat) (aTC : Nat) (aTK : Nat) (aTR : Nat) (aDY : Nat) (aCP : Nat) (aDB : Nat) (aCR : Nat) (aRK : Nat) (aLF : Nat) (fCR : Nat → Int32) (fLF : Nat → Int32) (fDB : Nat → Int32) (np : Nat) (x : Int32) (hnp : np ≤ 40) : MI l yX3_netOf wsX3_netOf r_c_X3_netOf D cI cZ [.ref aP, .int x] [ob aP 3 [.ref aTD, .ref aTC, .ref aTK, .ref aTR, .ref aDY, .ref aCP, .ref aDB, .ref aCR, .ref aRK, .ref aLF, .int (nI np)], ar cI aCR 40 fCR, ar cI aLF 40 fLF, ar cI aDB 40 fDB] (fun (r : Int32) (u : Unit) => r = netS fCR fDB fLF x np) (fun (u : Unit) => [ob aP 3 [.ref aTD, .ref aTC, .ref aTK, .ref aTR, .ref aDY, .ref aCP, .ref aDB, .ref aCR, .ref aRK, .ref aLF, .int (nI np)], ar cI aCR 40 fCR, ar cI aLF 40 fLF, ar cI aDB 40 fDB]) 0 0 := by
  refine MI.of (cc := cX3_netOf) (maxL := 4) (by decide) rfl (Nat.le_of_ble_eq_true rfl) ?_
  intro p e s m below meth c A Q hx hb hml hown hts hN hK hA ret hP hD hS ls hl
  have hown : s.vm.findClass RX3 = some m.cls := hown
  have inX3 : ∀ w ∈ wsX30, w ∈ wsX3_netOf := by decide +kernel
  have fl31 := hts (.fieldLink RX3 31 "AdvanceBook$Papers" "debtors" "[I") (by decide +kernel)
  have fl34 := hts (.fieldLink RX3 34 "AdvanceBook$Papers" "creditors" "[I") (by decide +kernel)
  have fl40 := hts (.fieldLink RX3 40 "AdvanceBook$Papers" "lefts" "[I") (by decide +kernel)
  have fl43 := hts (.fieldLink RX3 43 "AdvanceBook$Papers" "size" "I") (by decide +kernel)
  have hP : va_P D vwCl [ob aP 3 [.ref aTD, .ref aTC, .ref aTK, .ref aTR, .ref aDY, .ref aCP, .ref aDB, .ref aCR, .ref aRK, .ref aLF, .int (nI np)], ar cI aCR 40 fCR, ar cI aLF 40 fLF, ar cI aDB 40 fDB] s.heap := hP
  have hD : va_D A [ob aP 3 [.ref aTD, .ref aTC, .ref aTK, .ref aTR, .ref aDY, .ref aCP, .ref aDB, .ref aCR, .ref aRK, .ref aLF, .int (nI np)], ar cI aCR 40 fCR, ar cI aLF 40 fLF, ar cI aDB 40 fDB] := hD
  have hl : lv_has ls 4 [(0, .ref aP), (1, .int x)] := hl
  refine lv_iconst (v := 0) hx hb dX3_netOf_0 (by decide) ?_
  refine lv_istore_n (lv' := [(2, .int 0), (0, .ref aP), (1, .int x)]) hx hb dX3_netOf_1 rfl hl (by decide) rfl (fun ls hl => ?_)
  refine lv_iconst (v := 0) hx hb dX3_netOf_2 (by decide) ?_
  refine lv_istore_n (lv' := [(3, .int 0), (2, .int 0), (0, .ref aP), (1, .int x)]) hx hb dX3_netOf_3 rfl hl (by decide) rfl (fun ls hl => ?_)
  have L_4 : ∀ (n : Nat) (k : Nat) (sm : Int32), (np - k < n) → (k ≤ np) → (sm = netS fCR fDB fLF x k) → ∀ (H : Heap) (locs : List Loc), va_P D vwCl [ob aP 3 [.ref aTD, .ref aTC, .ref aTK, .ref aTR, .ref aDY, .ref aCP, .ref aDB, .ref aCR, .ref aRK, .ref aLF, .int (nI np)], ar cI aCR 40 fCR, ar cI aLF 40 fLF, ar cI aDB 40 fDB] H → va_D A [ob aP 3 [.ref aTD, .ref aTC, .ref aTK, .ref aTR, .ref aDY, .ref aCP, .ref aDB, .ref aCR, .ref aRK, .ref aLF, .int (nI np)], ar cI aCR 40 fCR, ar cI aLF 40 fLF, ar cI aDB 40 fDB] → va_S A s.heap H locs → ∀ ls : Array Slot, lv_has ls 4 [(0, .ref aP), (1, .int x), (2, .int sm), (3, .int (nI k))] → W p l e r_c_X3_netOf s m (([.ref aP, .int x] : List Value).toArray) below meth c H locs 0 0 Q (F0 m 4 ls []) := by
    intro n
    induction n with
    | zero => intro k sm hfu; exact absurd hfu (Nat.not_lt_zero _)
    | succ n ih =>
      intro k sm hfu hk hs H locs hP hD hS ls hl
      refine lv_iload_n hx hb dX3_netOf_4 rfl (lv_at hl 3 rfl) ?_
      refine lv_aload_n hx hb dX3_netOf_5 rfl (lv_at hl 0 rfl) ?_
      refine va_get (D := D) (ci := 3) (v := .int (nI np)) (C := RX3) (T := TX3) (N := 11) hx hb hts inX3 hown hK hP 0 rfl rfl 10 (by decide) fl43 (fun _ h9 => h9) rfl dX3_netOf_6 ?_
      refine lv_icmp_ge (tgt := 56) hx hb dX3_netOf_9 (by decide) (fun c_9 => ?_) (fun c_9 => ?_)
      · skip
        have k_9 : np ≤ k := (nI_leI (a := np) (b := k) (by omega) (by omega)).mp c_9
        refine lv_iload_n hx hb dX3_netOf_56 rfl (lv_at hl 2 rfl) ?_
        exact ret sm () _ _ _ _ dX3_netOf_57 (by have e : k = np := (by omega); subst e; exact hs) (hP) (hD) hS
      · skip
        have k_9 : ¬ np ≤ k := fun h9 => c_9 ((nI_leI (a := np) (b := k) (by omega) (by omega)).mpr h9)
        refine lv_aload_n hx hb dX3_netOf_12 rfl (lv_at hl 0 rfl) ?_
        refine va_get (D := D) (ci := 3) (v := .ref aCR) (C := RX3) (T := TX3) (N := 11) hx hb hts inX3 hown hK hP 0 rfl rfl 7 (by decide) fl34 (fun _ h9 => h9) rfl dX3_netOf_13 ?_
        refine lv_iload_n hx hb dX3_netOf_16 rfl (lv_at hl 3 rfl) ?_
        refine m_iald (k := k) hx hb hK hP 1 0 rfl rfl (by omega) (by decide) dX3_netOf_17 ?_
        refine lv_iload_n hx hb dX3_netOf_18 rfl (lv_at hl 1 rfl) ?_
        refine lv_icmp_ne (tgt := 31) hx hb dX3_netOf_19 (by decide) (fun c_19 => ?_) (fun c_19 => ?_)
        · skip
          refine lv_aload_n hx hb dX3_netOf_31 rfl (lv_at hl 0 rfl) ?_
          refine va_get (D := D) (ci := 3) (v := .ref aDB) (C := RX3) (T := TX3) (N := 11) hx hb hts inX3 hown hK hP 0 rfl rfl 6 (by decide) fl31 (fun _ h9 => h9) rfl dX3_netOf_32 ?_
          refine lv_iload_n hx hb dX3_netOf_35 rfl (lv_at hl 3 rfl) ?_
          refine m_iald (k := k) hx hb hK hP 3 0 rfl rfl (by omega) (by decide) dX3_netOf_36 ?_
          refine lv_iload_n hx hb dX3_netOf_37 rfl (lv_at hl 1 rfl) ?_
          refine lv_icmp_ne (tgt := 50) hx hb dX3_netOf_38 (by decide) (fun c_38 => ?_) (fun c_38 => ?_)
          · skip
            refine lv_iinc (v := (nI (k + 1))) (lv' := [(3, .int (nI (k + 1))), (0, .ref aP), (1, .int x), (2, .int sm)]) hx hb dX3_netOf_50 hl (k := 3) rfl (nI_inc k 1 (by decide)) (by decide) rfl (fun ls hl => ?_)
            refine lv_goto (tgt := 4) hx hb dX3_netOf_53 (by decide) ?_
            exact ih (k + 1) sm (by omega) (by omega) (by simp only [netS, c_19, c_38, hs, if_true, if_false]) _ _ (hP) (hD) hS ls (lv_sub hl [1, 2, 3, 0] rfl)
          · skip
            refine lv_iload_n hx hb dX3_netOf_41 rfl (lv_at hl 2 rfl) ?_
            refine lv_aload_n hx hb dX3_netOf_42 rfl (lv_at hl 0 rfl) ?_
            refine va_get (D := D) (ci := 3) (v := .ref aLF) (C := RX3) (T := TX3) (N := 11) hx hb hts inX3 hown hK hP 0 rfl rfl 9 (by decide) fl40 (fun _ h9 => h9) rfl dX3_netOf_43 ?_
            refine lv_iload_n hx hb dX3_netOf_46 rfl (lv_at hl 3 rfl) ?_
            refine m_iald (k := k) hx hb hK hP 2 0 rfl rfl (by omega) (by decide) dX3_netOf_47 ?_
            refine lv_isub hx hb dX3_netOf_48 ?_
            refine lv_istore_n (lv' := [(2, .int (sm - (fLF k))), (0, .ref aP), (1, .int x), (3, .int (nI k))]) hx hb dX3_netOf_49 rfl hl (by decide) rfl (fun ls hl => ?_)
            refine lv_iinc (v := (nI (k + 1))) (lv' := [(3, .int (nI (k + 1))), (2, .int (sm - (fLF k))), (0, .ref aP), (1, .int x)]) hx hb dX3_netOf_50 hl (k := 3) rfl (nI_inc k 1 (by decide)) (by decide) rfl (fun ls hl => ?_)
            refine lv_goto (tgt := 4) hx hb dX3_netOf_53 (by decide) ?_
            exact ih (k + 1) (sm - (fLF k)) (by omega) (by omega) (by simp only [netS, c_19, c_38, hs, if_true, if_false]) _ _ (hP) (hD) hS ls (lv_sub hl [2, 3, 1, 0] rfl)
        · skip
          refine lv_iload_n hx hb dX3_netOf_22 rfl (lv_at hl 2 rfl) ?_
          refine lv_aload_n hx hb dX3_netOf_23 rfl (lv_at hl 0 rfl) ?_
          refine va_get (D := D) (ci := 3) (v := .ref aLF) (C := RX3) (T := TX3) (N := 11) hx hb hts inX3 hown hK hP 0 rfl rfl 9 (by decide) fl40 (fun _ h9 => h9) rfl dX3_netOf_24 ?_
          refine lv_iload_n hx hb dX3_netOf_27 rfl (lv_at hl 3 rfl) ?_
          refine m_iald (k := k) hx hb hK hP 2 0 rfl rfl (by omega) (by decide) dX3_netOf_28 ?_
          refine lv_iadd hx hb dX3_netOf_29 ?_
          refine lv_istore_n (lv' := [(2, .int (sm + (fLF k))), (0, .ref aP), (1, .int x), (3, .int (nI k))]) hx hb dX3_netOf_30 rfl hl (by decide) rfl (fun ls hl => ?_)
          refine lv_aload_n hx hb dX3_netOf_31 rfl (lv_at hl 1 rfl) ?_
          refine va_get (D := D) (ci := 3) (v := .ref aDB) (C := RX3) (T := TX3) (N := 11) hx hb hts inX3 hown hK hP 0 rfl rfl 6 (by decide) fl31 (fun _ h9 => h9) rfl dX3_netOf_32 ?_
          refine lv_iload_n hx hb dX3_netOf_35 rfl (lv_at hl 3 rfl) ?_
          refine m_iald (k := k) hx hb hK hP 3 0 rfl rfl (by omega) (by decide) dX3_netOf_36 ?_
          refine lv_iload_n hx hb dX3_netOf_37 rfl (lv_at hl 2 rfl) ?_
          refine lv_icmp_ne (tgt := 50) hx hb dX3_netOf_38 (by decide) (fun c_38 => ?_) (fun c_38 => ?_)
          · skip
            refine lv_iinc (v := (nI (k + 1))) (lv' := [(3, .int (nI (k + 1))), (2, .int (sm + (fLF k))), (0, .ref aP), (1, .int x)]) hx hb dX3_netOf_50 hl (k := 3) rfl (nI_inc k 1 (by decide)) (by decide) rfl (fun ls hl => ?_)
            refine lv_goto (tgt := 4) hx hb dX3_netOf_53 (by decide) ?_
            exact ih (k + 1) (sm + (fLF k)) (by omega) (by omega) (by simp only [netS, c_19, c_38, hs, if_true, if_false]) _ _ (hP) (hD) hS ls (lv_sub hl [2, 3, 1, 0] rfl)
          · skip
            refine lv_iload_n hx hb dX3_netOf_41 rfl (lv_at hl 0 rfl) ?_
            refine lv_aload_n hx hb dX3_netOf_42 rfl (lv_at hl 1 rfl) ?_
            refine va_get (D := D) (ci := 3) (v := .ref aLF) (C := RX3) (T := TX3) (N := 11) hx hb hts inX3 hown hK hP 0 rfl rfl 9 (by decide) fl40 (fun _ h9 => h9) rfl dX3_netOf_43 ?_
            refine lv_iload_n hx hb dX3_netOf_46 rfl (lv_at hl 3 rfl) ?_
            refine m_iald (k := k) hx hb hK hP 2 0 rfl rfl (by omega) (by decide) dX3_netOf_47 ?_
            refine lv_isub hx hb dX3_netOf_48 ?_
            refine lv_istore_n (lv' := [(2, .int ((sm + (fLF k)) - (fLF k))), (0, .ref aP), (1, .int x), (3, .int (nI k))]) hx hb dX3_netOf_49 rfl hl (by decide) rfl (fun ls hl => ?_)
            refine lv_iinc (v := (nI (k + 1))) (lv' := [(3, .int (nI (k + 1))), (2, .int ((sm + (fLF k)) - (fLF k))), (0, .ref aP), (1, .int x)]) hx hb dX3_netOf_50 hl (k := 3) rfl (nI_inc k 1 (by decide)) (by decide) rfl (fun ls hl => ?_)
            refine lv_goto (tgt := 4) hx hb dX3_netOf_53 (by decide) ?_
            exact ih (k + 1) ((sm + (fLF k)) - (fLF k)) (by omega) (by omega) (by simp only [netS, c_19, c_38, hs, if_true, if_false]) _ _ (hP) (hD) hS ls (lv_sub hl [2, 3, 1, 0] rfl)
  exact L_4 ((np - 0) + 1) 0 0 (Nat.lt_succ_self _) (by omega) (rfl) _ _ (hP) (hD) hS ls (lv_sub hl [2, 3, 1, 0] rfl)
abbrev r_c_X3_leftInAll : Room := { frames := 0, cells := 0, slots := 0, locals := 0 }
set_option maxHeartbeats 4000000 in
set_option maxRecDepth 100000 in
theorem c_X3_leftInAll (l : Launch) (D : va_G) (cI cZ : ClassId) (aP : Nat) (aTD : Nat) (aTC : Nat) (aTK : Nat) (aTR : Nat) (aDY : Nat) (aCP : Nat) (aDB : Nat) (aCR : Nat) (aRK : Nat) (aLF : Nat) (fLF : Nat → Int32) (np : Nat) (hnp : np ≤ 40) : MI l yX3_leftInAll wsX3_leftInAll r_c_X3_leftInAll D cI cZ [.ref aP] [ob aP 3 [.ref aTD, .ref aTC, .ref aTK, .ref aTR, .ref aDY, .ref aCP, .ref aDB, .ref aCR, .ref aRK, .ref aLF, .int (nI np)], ar cI aLF 40 fLF] (fun (r : Int32) (u : Unit) => r = sumS fLF np) (fun (u : Unit) => [ob aP 3 [.ref aTD, .ref aTC, .ref aTK, .ref aTR, .ref aDY, .ref aCP, .ref aDB, .ref aCR, .ref aRK, .ref aLF, .int (nI np)], ar cI aLF 40 fLF]) 0 0 := by
  refine MI.of (cc := cX3_leftInAll) (maxL := 3) (by decide) rfl (Nat.le_of_ble_eq_true rfl) ?_
  intro p e s m below meth c A Q hx hb hml hown hts hN hK hA ret hP hD hS ls hl
  have hown : s.vm.findClass RX3 = some m.cls := hown
  have inX3 : ∀ w ∈ wsX30, w ∈ wsX3_leftInAll := by decide +kernel
  have fl40 := hts (.fieldLink RX3 40 "AdvanceBook$Papers" "lefts" "[I") (by decide +kernel)
  have fl43 := hts (.fieldLink RX3 43 "AdvanceBook$Papers" "size" "I") (by decide +kernel)
  have hP : va_P D vwCl [ob aP 3 [.ref aTD, .ref aTC, .ref aTK, .ref aTR, .ref aDY, .ref aCP, .ref aDB, .ref aCR, .ref aRK, .ref aLF, .int (nI np)], ar cI aLF 40 fLF] s.heap := hP
  have hD : va_D A [ob aP 3 [.ref aTD, .ref aTC, .ref aTK, .ref aTR, .ref aDY, .ref aCP, .ref aDB, .ref aCR, .ref aRK, .ref aLF, .int (nI np)], ar cI aLF 40 fLF] := hD
  have hl : lv_has ls 3 [(0, .ref aP)] := hl
  refine lv_iconst (v := 0) hx hb dX3_leftInAll_0 (by decide) ?_
  refine lv_istore_n (lv' := [(1, .int 0), (0, .ref aP)]) hx hb dX3_leftInAll_1 rfl hl (by decide) rfl (fun ls hl => ?_)
  refine lv_iconst (v := 0) hx hb dX3_leftInAll_2 (by decide) ?_
  refine lv_istore_n (lv' := [(2, .int 0), (1, .int 0), (0, .ref aP)]) hx hb dX3_leftInAll_3 rfl hl (by decide) rfl (fun ls hl => ?_)
  have L_4 : ∀ (n : Nat) (k : Nat) (sm : Int32), (np - k < n) → (k ≤ np) → (sm = sumS fLF k) → ∀ (H : Heap) (locs : List Loc), va_P D vwCl [ob aP 3 [.ref aTD, .ref aTC, .ref aTK, .ref aTR, .ref aDY, .ref aCP, .ref aDB, .ref aCR, .ref aRK, .ref aLF, .int (nI np)], ar cI aLF 40 fLF] H → va_D A [ob aP 3 [.ref aTD, .ref aTC, .ref aTK, .ref aTR, .ref aDY, .ref aCP, .ref aDB, .ref aCR, .ref aRK, .ref aLF, .int (nI np)], ar cI aLF 40 fLF] → va_S A s.heap H locs → ∀ ls : Array Slot, lv_has ls 3 [(0, .ref aP), (1, .int sm), (2, .int (nI k))] → W p l e r_c_X3_leftInAll s m (([.ref aP] : List Value).toArray) below meth c H locs 0 0 Q (F0 m 4 ls []) := by
    intro n
    induction n with
    | zero => intro k sm hfu; exact absurd hfu (Nat.not_lt_zero _)
    | succ n ih =>
      intro k sm hfu hk hs H locs hP hD hS ls hl
      refine lv_iload_n hx hb dX3_leftInAll_4 rfl (lv_at hl 2 rfl) ?_
      refine lv_aload_n hx hb dX3_leftInAll_5 rfl (lv_at hl 0 rfl) ?_
      refine va_get (D := D) (ci := 3) (v := .int (nI np)) (C := RX3) (T := TX3) (N := 11) hx hb hts inX3 hown hK hP 0 rfl rfl 10 (by decide) fl43 (fun _ h9 => h9) rfl dX3_leftInAll_6 ?_
      refine lv_icmp_ge (tgt := 27) hx hb dX3_leftInAll_9 (by decide) (fun c_9 => ?_) (fun c_9 => ?_)
      · skip
        have k_9 : np ≤ k := (nI_leI (a := np) (b := k) (by omega) (by omega)).mp c_9
        refine lv_iload_n hx hb dX3_leftInAll_27 rfl (lv_at hl 1 rfl) ?_
        exact ret sm () _ _ _ _ dX3_leftInAll_28 (by have e : k = np := (by omega); subst e; exact hs) (hP) (hD) hS
      · skip
        have k_9 : ¬ np ≤ k := fun h9 => c_9 ((nI_leI (a := np) (b := k) (by omega) (by omega)).mpr h9)
        refine lv_iload_n hx hb dX3_leftInAll_12 rfl (lv_at hl 1 rfl) ?_
        refine lv_aload_n hx hb dX3_leftInAll_13 rfl (lv_at hl 0 rfl) ?_
        refine va_get (D := D) (ci := 3) (v := .ref aLF) (C := RX3) (T := TX3) (N := 11) hx hb hts inX3 hown hK hP 0 rfl rfl 9 (by decide) fl40 (fun _ h9 => h9) rfl dX3_leftInAll_14 ?_
        refine lv_iload_n hx hb dX3_leftInAll_17 rfl (lv_at hl 2 rfl) ?_
        refine m_iald (k := k) hx hb hK hP 1 0 rfl rfl (by omega) (by decide) dX3_leftInAll_18 ?_
        refine lv_iadd hx hb dX3_leftInAll_19 ?_
        refine lv_istore_n (lv' := [(1, .int (sm + (fLF k))), (0, .ref aP), (2, .int (nI k))]) hx hb dX3_leftInAll_20 rfl hl (by decide) rfl (fun ls hl => ?_)
        refine lv_iinc (v := (nI (k + 1))) (lv' := [(2, .int (nI (k + 1))), (1, .int (sm + (fLF k))), (0, .ref aP)]) hx hb dX3_leftInAll_21 hl (k := 2) rfl (nI_inc k 1 (by decide)) (by decide) rfl (fun ls hl => ?_)
        refine lv_goto (tgt := 4) hx hb dX3_leftInAll_24 (by decide) ?_
        exact ih (k + 1) (sm + (fLF k)) (by omega) (by omega) (by rw [hs]; rfl) _ _ (hP) (hD) hS ls (lv_sub hl [2, 1, 0] rfl)
  exact L_4 ((np - 0) + 1) 0 0 (Nat.lt_succ_self _) (by omega) (rfl) _ _ (hP) (hD) hS ls (lv_sub hl [2, 1, 0] rfl)
abbrev r_c_X3_isTold : Room := { frames := 0, cells := 0, slots := 0, locals := 0 }
set_option maxHeartbeats 4000000 in
set_option maxRecDepth 100000 in
theorem c_X3_isTold (l : Launch) (D : va_G) (cI cZ : ClassId) (aP : Nat) (aTD : Nat) (aTC : Nat) (aTK : Nat) (aTR : Nat) (aDY : Nat) (aCP : Nat) (aDB : Nat) (aCR : Nat) (aRK : Nat) (aLF : Nat) (fTD : Nat → Int32) (fTC : Nat → Int32) (fTK : Nat → Int32) (fTR : Nat → Int32) (fDY : Nat → Int32) (np : Nat) (a : Int32) (b : Int32) (x : Int32) (z : Int32) (t : Int32) (hnp : np ≤ 40) : MI l yX3_isTold wsX3_isTold r_c_X3_isTold D cI cZ [.ref aP, .int a, .int b, .int x, .int z, .int t] [ob aP 3 [.ref aTD, .ref aTC, .ref aTK, .ref aTR, .ref aDY, .ref aCP, .ref aDB, .ref aCR, .ref aRK, .ref aLF, .int (nI np)], ar cI aTD 40 fTD, ar cI aTC 40 fTC, ar cI aTK 40 fTK, ar cI aTR 40 fTR, ar cI aDY 40 fDY] (fun (r : Int32) (u : Unit) => r = if told fTD fTC fTK fTR fDY a b x z t np = true then 1 else 0) (fun (u : Unit) => [ob aP 3 [.ref aTD, .ref aTC, .ref aTK, .ref aTR, .ref aDY, .ref aCP, .ref aDB, .ref aCR, .ref aRK, .ref aLF, .int (nI np)], ar cI aTD 40 fTD, ar cI aTC 40 fTC, ar cI aTK 40 fTK, ar cI aTR 40 fTR, ar cI aDY 40 fDY]) 0 0 := by
  refine MI.ofZ (cc := cX3_isTold) (maxL := 7) (by decide) rfl (Nat.le_of_ble_eq_true rfl) ?_
  intro p e s m below meth c A Q hx hb hml hown hts hN hK hA ret hP hD hS ls hl
  have hown : s.vm.findClass RX3 = some m.cls := hown
  have inX3 : ∀ w ∈ wsX30, w ∈ wsX3_isTold := by decide +kernel
  have fl9 := hts (.fieldLink RX3 9 "AdvanceBook$Papers" "toldDebtors" "[I") (by decide +kernel)
  have fl15 := hts (.fieldLink RX3 15 "AdvanceBook$Papers" "toldCreditors" "[I") (by decide +kernel)
  have fl18 := hts (.fieldLink RX3 18 "AdvanceBook$Papers" "toldCoins" "[I") (by decide +kernel)
  have fl21 := hts (.fieldLink RX3 21 "AdvanceBook$Papers" "toldRanks" "[I") (by decide +kernel)
  have fl24 := hts (.fieldLink RX3 24 "AdvanceBook$Papers" "days" "[I") (by decide +kernel)
  have fl43 := hts (.fieldLink RX3 43 "AdvanceBook$Papers" "size" "I") (by decide +kernel)
  have hP : va_P D vwCl [ob aP 3 [.ref aTD, .ref aTC, .ref aTK, .ref aTR, .ref aDY, .ref aCP, .ref aDB, .ref aCR, .ref aRK, .ref aLF, .int (nI np)], ar cI aTD 40 fTD, ar cI aTC 40 fTC, ar cI aTK 40 fTK, ar cI aTR 40 fTR, ar cI aDY 40 fDY] s.heap := hP
  have hD : va_D A [ob aP 3 [.ref aTD, .ref aTC, .ref aTK, .ref aTR, .ref aDY, .ref aCP, .ref aDB, .ref aCR, .ref aRK, .ref aLF, .int (nI np)], ar cI aTD 40 fTD, ar cI aTC 40 fTC, ar cI aTK 40 fTK, ar cI aTR 40 fTR, ar cI aDY 40 fDY] := hD
  have hl : lv_has ls 7 [(0, .ref aP), (1, .int a), (2, .int b), (3, .int x), (4, .int z), (5, .int t)] := hl
  refine lv_iconst (v := 0) hx hb dX3_isTold_0 (by decide) ?_
  refine lv_istore (lv' := [(6, .int 0), (0, .ref aP), (1, .int a), (2, .int b), (3, .int x), (4, .int z), (5, .int t)]) hx hb dX3_isTold_1 hl (by decide) rfl (fun ls hl => ?_)
  have L_3 : ∀ (n : Nat) (k : Nat), (np - k < n) → (k ≤ np) → (told fTD fTC fTK fTR fDY a b x z t k = false) → ∀ (H : Heap) (locs : List Loc), va_P D vwCl [ob aP 3 [.ref aTD, .ref aTC, .ref aTK, .ref aTR, .ref aDY, .ref aCP, .ref aDB, .ref aCR, .ref aRK, .ref aLF, .int (nI np)], ar cI aTD 40 fTD, ar cI aTC 40 fTC, ar cI aTK 40 fTK, ar cI aTR 40 fTR, ar cI aDY 40 fDY] H → va_D A [ob aP 3 [.ref aTD, .ref aTC, .ref aTK, .ref aTR, .ref aDY, .ref aCP, .ref aDB, .ref aCR, .ref aRK, .ref aLF, .int (nI np)], ar cI aTD 40 fTD, ar cI aTC 40 fTC, ar cI aTK 40 fTK, ar cI aTR 40 fTR, ar cI aDY 40 fDY] → va_S A s.heap H locs → ∀ ls : Array Slot, lv_has ls 7 [(0, .ref aP), (1, .int a), (2, .int b), (3, .int x), (4, .int z), (5, .int t), (6, .int (nI k))] → W p l e r_c_X3_isTold s m (([.ref aP, .int a, .int b, .int x, .int z, .int t] : List Value).toArray) below meth c H locs 0 0 Q (F0 m 3 ls []) := by
    intro n
    induction n with
    | zero => intro k hfu; exact absurd hfu (Nat.not_lt_zero _)
    | succ n ih =>
      intro k hfu hk hs H locs hP hD hS ls hl
      refine lv_iload hx hb dX3_isTold_3 (lv_at hl 6 rfl) ?_
      refine lv_aload_n hx hb dX3_isTold_5 rfl (lv_at hl 0 rfl) ?_
      refine va_get (D := D) (ci := 3) (v := .int (nI np)) (C := RX3) (T := TX3) (N := 11) hx hb hts inX3 hown hK hP 0 rfl rfl 10 (by decide) fl43 (fun _ h9 => h9) rfl dX3_isTold_6 ?_
      refine lv_icmp_ge (tgt := 77) hx hb dX3_isTold_9 (by decide) (fun c_9 => ?_) (fun c_9 => ?_)
      · skip
        have k_9 : np ≤ k := (nI_leI (a := np) (b := k) (by omega) (by omega)).mp c_9
        refine lv_iconst (v := 0) hx hb dX3_isTold_77 (by decide) ?_
        exact ret 0 () _ _ _ _ dX3_isTold_78 (Or.inl rfl) (by have e : k = np := (by omega); subst e; rw [hs]; rfl) (hP) (hD) hS
      · skip
        have k_9 : ¬ np ≤ k := fun h9 => c_9 ((nI_leI (a := np) (b := k) (by omega) (by omega)).mpr h9)
        refine lv_aload_n hx hb dX3_isTold_12 rfl (lv_at hl 0 rfl) ?_
        refine va_get (D := D) (ci := 3) (v := .ref aTD) (C := RX3) (T := TX3) (N := 11) hx hb hts inX3 hown hK hP 0 rfl rfl 0 (by decide) fl9 (fun _ h9 => h9) rfl dX3_isTold_13 ?_
        refine lv_iload hx hb dX3_isTold_16 (lv_at hl 6 rfl) ?_
        refine m_iald (k := k) hx hb hK hP 1 0 rfl rfl (by omega) (by decide) dX3_isTold_18 ?_
        refine lv_iload_n hx hb dX3_isTold_19 rfl (lv_at hl 1 rfl) ?_
        refine lv_icmp_ne (tgt := 71) hx hb dX3_isTold_20 (by decide) (fun c_20 => ?_) (fun c_20 => ?_)
        · skip
          refine lv_iinc (v := (nI (k + 1))) (lv' := [(6, .int (nI (k + 1))), (0, .ref aP), (1, .int a), (2, .int b), (3, .int x), (4, .int z), (5, .int t)]) hx hb dX3_isTold_71 hl (k := 6) rfl (nI_inc k 1 (by decide)) (by decide) rfl (fun ls hl => ?_)
          refine lv_goto (tgt := 3) hx hb dX3_isTold_74 (by decide) ?_
          exact ih (k + 1) (by omega) (by omega) (told_no hs (by simp [*])) _ _ (hP) (hD) hS ls (lv_sub hl [1, 2, 3, 4, 5, 6, 0] rfl)
        · skip
          refine lv_aload_n hx hb dX3_isTold_23 rfl (lv_at hl 0 rfl) ?_
          refine va_get (D := D) (ci := 3) (v := .ref aTC) (C := RX3) (T := TX3) (N := 11) hx hb hts inX3 hown hK hP 0 rfl rfl 1 (by decide) fl15 (fun _ h9 => h9) rfl dX3_isTold_24 ?_
          refine lv_iload hx hb dX3_isTold_27 (lv_at hl 6 rfl) ?_
          refine m_iald (k := k) hx hb hK hP 2 0 rfl rfl (by omega) (by decide) dX3_isTold_29 ?_
          refine lv_iload_n hx hb dX3_isTold_30 rfl (lv_at hl 2 rfl) ?_
          refine lv_icmp_ne (tgt := 71) hx hb dX3_isTold_31 (by decide) (fun c_31 => ?_) (fun c_31 => ?_)
          · skip
            refine lv_iinc (v := (nI (k + 1))) (lv' := [(6, .int (nI (k + 1))), (0, .ref aP), (1, .int a), (2, .int b), (3, .int x), (4, .int z), (5, .int t)]) hx hb dX3_isTold_71 hl (k := 6) rfl (nI_inc k 1 (by decide)) (by decide) rfl (fun ls hl => ?_)
            refine lv_goto (tgt := 3) hx hb dX3_isTold_74 (by decide) ?_
            exact ih (k + 1) (by omega) (by omega) (told_no hs (by simp [*])) _ _ (hP) (hD) hS ls (lv_sub hl [1, 2, 3, 4, 5, 6, 0] rfl)
          · skip
            refine lv_aload_n hx hb dX3_isTold_34 rfl (lv_at hl 0 rfl) ?_
            refine va_get (D := D) (ci := 3) (v := .ref aTK) (C := RX3) (T := TX3) (N := 11) hx hb hts inX3 hown hK hP 0 rfl rfl 2 (by decide) fl18 (fun _ h9 => h9) rfl dX3_isTold_35 ?_
            refine lv_iload hx hb dX3_isTold_38 (lv_at hl 6 rfl) ?_
            refine m_iald (k := k) hx hb hK hP 3 0 rfl rfl (by omega) (by decide) dX3_isTold_40 ?_
            refine lv_iload_n hx hb dX3_isTold_41 rfl (lv_at hl 3 rfl) ?_
            refine lv_icmp_ne (tgt := 71) hx hb dX3_isTold_42 (by decide) (fun c_42 => ?_) (fun c_42 => ?_)
            · skip
              refine lv_iinc (v := (nI (k + 1))) (lv' := [(6, .int (nI (k + 1))), (0, .ref aP), (1, .int a), (2, .int b), (3, .int x), (4, .int z), (5, .int t)]) hx hb dX3_isTold_71 hl (k := 6) rfl (nI_inc k 1 (by decide)) (by decide) rfl (fun ls hl => ?_)
              refine lv_goto (tgt := 3) hx hb dX3_isTold_74 (by decide) ?_
              exact ih (k + 1) (by omega) (by omega) (told_no hs (by simp [*])) _ _ (hP) (hD) hS ls (lv_sub hl [1, 2, 3, 4, 5, 6, 0] rfl)
            · skip
              refine lv_aload_n hx hb dX3_isTold_45 rfl (lv_at hl 0 rfl) ?_
              refine va_get (D := D) (ci := 3) (v := .ref aTR) (C := RX3) (T := TX3) (N := 11) hx hb hts inX3 hown hK hP 0 rfl rfl 3 (by decide) fl21 (fun _ h9 => h9) rfl dX3_isTold_46 ?_
              refine lv_iload hx hb dX3_isTold_49 (lv_at hl 6 rfl) ?_
              refine m_iald (k := k) hx hb hK hP 4 0 rfl rfl (by omega) (by decide) dX3_isTold_51 ?_
              refine lv_iload hx hb dX3_isTold_52 (lv_at hl 4 rfl) ?_
              refine lv_icmp_ne (tgt := 71) hx hb dX3_isTold_54 (by decide) (fun c_54 => ?_) (fun c_54 => ?_)
              · skip
                refine lv_iinc (v := (nI (k + 1))) (lv' := [(6, .int (nI (k + 1))), (0, .ref aP), (1, .int a), (2, .int b), (3, .int x), (4, .int z), (5, .int t)]) hx hb dX3_isTold_71 hl (k := 6) rfl (nI_inc k 1 (by decide)) (by decide) rfl (fun ls hl => ?_)
                refine lv_goto (tgt := 3) hx hb dX3_isTold_74 (by decide) ?_
                exact ih (k + 1) (by omega) (by omega) (told_no hs (by simp [*])) _ _ (hP) (hD) hS ls (lv_sub hl [1, 2, 3, 4, 5, 6, 0] rfl)
              · skip
                refine lv_aload_n hx hb dX3_isTold_57 rfl (lv_at hl 0 rfl) ?_
                refine va_get (D := D) (ci := 3) (v := .ref aDY) (C := RX3) (T := TX3) (N := 11) hx hb hts inX3 hown hK hP 0 rfl rfl 4 (by decide) fl24 (fun _ h9 => h9) rfl dX3_isTold_58 ?_
                refine lv_iload hx hb dX3_isTold_61 (lv_at hl 6 rfl) ?_
                refine m_iald (k := k) hx hb hK hP 5 0 rfl rfl (by omega) (by decide) dX3_isTold_63 ?_
                refine lv_iload hx hb dX3_isTold_64 (lv_at hl 5 rfl) ?_
                refine lv_icmp_ne (tgt := 71) hx hb dX3_isTold_66 (by decide) (fun c_66 => ?_) (fun c_66 => ?_)
                · skip
                  refine lv_iinc (v := (nI (k + 1))) (lv' := [(6, .int (nI (k + 1))), (0, .ref aP), (1, .int a), (2, .int b), (3, .int x), (4, .int z), (5, .int t)]) hx hb dX3_isTold_71 hl (k := 6) rfl (nI_inc k 1 (by decide)) (by decide) rfl (fun ls hl => ?_)
                  refine lv_goto (tgt := 3) hx hb dX3_isTold_74 (by decide) ?_
                  exact ih (k + 1) (by omega) (by omega) (told_no hs (by simp [*])) _ _ (hP) (hD) hS ls (lv_sub hl [1, 2, 3, 4, 5, 6, 0] rfl)
                · skip
                  refine lv_iconst (v := 1) hx hb dX3_isTold_69 (by decide) ?_
                  exact ret 1 () _ _ _ _ dX3_isTold_70 (Or.inr rfl) (by rw [told_mono (i := k) (n := np) ⟨c_20, c_31, c_42, c_54, c_66⟩ (by omega)]; rfl) (hP) (hD) hS
  exact L_3 ((np - 0) + 1) 0 (Nat.lt_succ_self _) (by omega) (rfl) _ _ (hP) (hD) hS ls (lv_sub hl [1, 2, 3, 4, 5, 6, 0] rfl)
abbrev r_c_X3_write : Room := { frames := 1, cells := 0, slots := 0, locals := 26 }
set_option maxHeartbeats 4000000 in
set_option maxRecDepth 100000 in
theorem c_X3_write (l : Launch) (D : va_G) (cI cZ : ClassId) (aP : Nat) (aTD : Nat) (aTC : Nat) (aTK : Nat) (aTR : Nat) (aDY : Nat) (aCP : Nat) (aDB : Nat) (aCR : Nat) (aRK : Nat) (aLF : Nat) (fTD : Nat → Int32) (fTC : Nat → Int32) (fTK : Nat → Int32) (fTR : Nat → Int32) (fDY : Nat → Int32) (fCP : Nat → Int32) (fDB : Nat → Int32) (fCR : Nat → Int32) (fRK : Nat → Int32) (fLF : Nat → Int32) (np : Nat) (a : Int32) (b : Int32) (x : Int32) (z : Int32) (t : Int32) (hnp : np ≤ 40) : MI l yX3_write wsX3_write r_c_X3_write D cI cZ [.ref aP, .int a, .int b, .int x, .int z, .int t] [ob aP 3 [.ref aTD, .ref aTC, .ref aTK, .ref aTR, .ref aDY, .ref aCP, .ref aDB, .ref aCR, .ref aRK, .ref aLF, .int (nI np)], ar cI aTD 40 fTD, ar cI aTC 40 fTC, ar cI aTK 40 fTK, ar cI aTR 40 fTR, ar cI aDY 40 fDY, ar cZ aCP 40 fCP, ar cI aDB 40 fDB, ar cI aCR 40 fCR, ar cI aRK 40 fRK, ar cI aLF 40 fLF] (fun (r : Int32) (u : (Nat → Int32) × (Nat → Int32) × (Nat → Int32) × (Nat → Int32) × (Nat → Int32) × (Nat → Int32) × (Nat → Int32) × (Nat → Int32) × (Nat → Int32) × (Nat → Int32) × Nat) => (np < 40 ∧ r = nI np ∧ u.2.2.2.2.2.2.2.2.2.2 = np + 1 ∧ u.1 = upd fTD np a ∧ u.2.1 = upd fTC np b ∧ u.2.2.1 = upd fTK np x ∧ u.2.2.2.1 = upd fTR np z ∧ u.2.2.2.2.1 = upd fDY np t ∧ u.2.2.2.2.2.1 = upd fCP np (if told fTD fTC fTK fTR fDY a b x z t np = true then 1 else 0) ∧ u.2.2.2.2.2.2.1 = upd fDB np a ∧ u.2.2.2.2.2.2.2.1 = upd fCR np b ∧ u.2.2.2.2.2.2.2.2.1 = upd fRK np z ∧ u.2.2.2.2.2.2.2.2.2.1 = upd fLF np (if told fTD fTC fTK fTR fDY a b x z t np = true then 0 else x)) ∨ (¬ np < 40 ∧ r = -1 ∧ u.2.2.2.2.2.2.2.2.2.2 = np ∧ u.1 = fTD ∧ u.2.1 = fTC ∧ u.2.2.1 = fTK ∧ u.2.2.2.1 = fTR ∧ u.2.2.2.2.1 = fDY ∧ u.2.2.2.2.2.1 = fCP ∧ u.2.2.2.2.2.2.1 = fDB ∧ u.2.2.2.2.2.2.2.1 = fCR ∧ u.2.2.2.2.2.2.2.2.1 = fRK ∧ u.2.2.2.2.2.2.2.2.2.1 = fLF)) (fun (u : (Nat → Int32) × (Nat → Int32) × (Nat → Int32) × (Nat → Int32) × (Nat → Int32) × (Nat → Int32) × (Nat → Int32) × (Nat → Int32) × (Nat → Int32) × (Nat → Int32) × Nat) => [ob aP 3 [.ref aTD, .ref aTC, .ref aTK, .ref aTR, .ref aDY, .ref aCP, .ref aDB, .ref aCR, .ref aRK, .ref aLF, .int (nI u.2.2.2.2.2.2.2.2.2.2)], ar cI aTD 40 u.1, ar cI aTC 40 u.2.1, ar cI aTK 40 u.2.2.1, ar cI aTR 40 u.2.2.2.1, ar cI aDY 40 u.2.2.2.2.1, ar cZ aCP 40 u.2.2.2.2.2.1, ar cI aDB 40 u.2.2.2.2.2.2.1, ar cI aCR 40 u.2.2.2.2.2.2.2.1, ar cI aRK 40 u.2.2.2.2.2.2.2.2.1, ar cI aLF 40 u.2.2.2.2.2.2.2.2.2.1]) 0 0 := by
  refine MI.of (cc := cX3_write) (maxL := 8) (by decide) rfl (Nat.le_of_ble_eq_true rfl) ?_
  intro p e s m below meth c A Q hx hb hml hown hts hN hK hA ret hP hD hS ls hl
  have hown : s.vm.findClass RX3 = some m.cls := hown
  have inX3 : ∀ w ∈ wsX30, w ∈ wsX3_write := by decide +kernel
  have fl9 := hts (.fieldLink RX3 9 "AdvanceBook$Papers" "toldDebtors" "[I") (by decide +kernel)
  have fl15 := hts (.fieldLink RX3 15 "AdvanceBook$Papers" "toldCreditors" "[I") (by decide +kernel)
  have fl18 := hts (.fieldLink RX3 18 "AdvanceBook$Papers" "toldCoins" "[I") (by decide +kernel)
  have fl21 := hts (.fieldLink RX3 21 "AdvanceBook$Papers" "toldRanks" "[I") (by decide +kernel)
  have fl24 := hts (.fieldLink RX3 24 "AdvanceBook$Papers" "days" "[I") (by decide +kernel)
  have fl27 := hts (.fieldLink RX3 27 "AdvanceBook$Papers" "copies" "[Z") (by decide +kernel)
  have fl31 := hts (.fieldLink RX3 31 "AdvanceBook$Papers" "debtors" "[I") (by decide +kernel)
  have fl34 := hts (.fieldLink RX3 34 "AdvanceBook$Papers" "creditors" "[I") (by decide +kernel)
  have fl37 := hts (.fieldLink RX3 37 "AdvanceBook$Papers" "ranks" "[I") (by decide +kernel)
  have fl40 := hts (.fieldLink RX3 40 "AdvanceBook$Papers" "lefts" "[I") (by decide +kernel)
  have fl43 := hts (.fieldLink RX3 43 "AdvanceBook$Papers" "size" "I") (by decide +kernel)
  have hP : va_P D vwCl [ob aP 3 [.ref aTD, .ref aTC, .ref aTK, .ref aTR, .ref aDY, .ref aCP, .ref aDB, .ref aCR, .ref aRK, .ref aLF, .int (nI np)], ar cI aTD 40 fTD, ar cI aTC 40 fTC, ar cI aTK 40 fTK, ar cI aTR 40 fTR, ar cI aDY 40 fDY, ar cZ aCP 40 fCP, ar cI aDB 40 fDB, ar cI aCR 40 fCR, ar cI aRK 40 fRK, ar cI aLF 40 fLF] s.heap := hP
  have hD : va_D A [ob aP 3 [.ref aTD, .ref aTC, .ref aTK, .ref aTR, .ref aDY, .ref aCP, .ref aDB, .ref aCR, .ref aRK, .ref aLF, .int (nI np)], ar cI aTD 40 fTD, ar cI aTC 40 fTC, ar cI aTK 40 fTK, ar cI aTR 40 fTR, ar cI aDY 40 fDY, ar cZ aCP 40 fCP, ar cI aDB 40 fDB, ar cI aCR 40 fCR, ar cI aRK 40 fRK, ar cI aLF 40 fLF] := hD
  have hl : lv_has ls 8 [(0, .ref aP), (1, .int a), (2, .int b), (3, .int x), (4, .int z), (5, .int t)] := hl
  refine lv_aload_n hx hb dX3_write_0 rfl (lv_at hl 0 rfl) ?_
  refine va_get (D := D) (ci := 3) (v := .int (nI np)) (C := RX3) (T := TX3) (N := 11) hx hb hts inX3 hown hK hP 0 rfl rfl 10 (by decide) fl43 (fun _ h9 => h9) rfl dX3_write_1 ?_
  refine lv_istore (lv' := [(6, .int (nI np)), (0, .ref aP), (1, .int a), (2, .int b), (3, .int x), (4, .int z), (5, .int t)]) hx hb dX3_write_4 hl (by decide) rfl (fun ls hl => ?_)
  refine lv_iload hx hb dX3_write_6 (lv_at hl 0 rfl) ?_
  refine lv_bipush (v := 40) hx hb dX3_write_8 (by decide) ?_
  refine lv_icmp_lt (tgt := 15) hx hb dX3_write_10 (by decide) (fun c_10 => ?_) (fun c_10 => ?_)
  · skip
    have k_10 : np < 40 := (nI_ltI (a := np) (b := 40) (by omega) (by omega)).mp c_10
    refine lv_aload_n hx hb dX3_write_15 rfl (lv_at hl 1 rfl) ?_
    refine lv_iload_n hx hb dX3_write_16 rfl (lv_at hl 2 rfl) ?_
    refine lv_iload_n hx hb dX3_write_17 rfl (lv_at hl 3 rfl) ?_
    refine lv_iload_n hx hb dX3_write_18 rfl (lv_at hl 4 rfl) ?_
    refine lv_iload hx hb dX3_write_19 (lv_at hl 5 rfl) ?_
    refine lv_iload hx hb dX3_write_21 (lv_at hl 6 rfl) ?_
    refine m_cVi (As := [.int a, .int b, .int x, .int z, .int t]) (rest := []) (wr := [ar cZ aCP 40 fCP, ar cI aDB 40 fDB, ar cI aCR 40 fCR, ar cI aRK 40 fRK, ar cI aLF 40 fLF]) ⟨hx, hb, hml, hown, hts⟩ (c_X3_isTold l D cI cZ aP aTD aTC aTK aTR aDY aCP aDB aCR aRK aLF fTD fTC fTK fTR fDY np a b x z t (by first | assumption | omega)) (cwV 5 hts gX3_write_X3_isTold rfl rfl rfl (by decide +kernel) ⟨Nat.le_of_ble_eq_true rfl, Nat.le_of_ble_eq_true rfl⟩) hN hK hP hD hS hA [0, 1, 2, 3, 4, 5] [6, 7, 8, 9, 10] rfl rfl (by decide) (by decide) (by decide) 0 (ci := 3) rfl rfl rfl rfl hl.1 rfl (by decide) dX3_write_23 ⟨Nat.le_of_ble_eq_true rfl, Nat.le_of_ble_eq_true rfl⟩ (fun r_23 u_23 H locs hq_23 hP hD hS => ?_)
    have hq_23 : r_23 = if told fTD fTC fTK fTR fDY a b x z t np = true then 1 else 0 := hq_23
    have hP : va_P D vwCl [ar cZ aCP 40 fCP, ar cI aDB 40 fDB, ar cI aCR 40 fCR, ar cI aRK 40 fRK, ar cI aLF 40 fLF, ob aP 3 [.ref aTD, .ref aTC, .ref aTK, .ref aTR, .ref aDY, .ref aCP, .ref aDB, .ref aCR, .ref aRK, .ref aLF, .int (nI np)], ar cI aTD 40 fTD, ar cI aTC 40 fTC, ar cI aTK 40 fTK, ar cI aTR 40 fTR, ar cI aDY 40 fDY] H := hP
    have hD : va_D A [ar cZ aCP 40 fCP, ar cI aDB 40 fDB, ar cI aCR 40 fCR, ar cI aRK 40 fRK, ar cI aLF 40 fLF, ob aP 3 [.ref aTD, .ref aTC, .ref aTK, .ref aTR, .ref aDY, .ref aCP, .ref aDB, .ref aCR, .ref aRK, .ref aLF, .int (nI np)], ar cI aTD 40 fTD, ar cI aTC 40 fTC, ar cI aTK 40 fTK, ar cI aTR 40 fTR, ar cI aDY 40 fDY] := hD
    have hz_23 : r_23 = 0 ∨ r_23 = 1 := (by rw [hq_23]; split <;> simp)
    refine lv_istore (lv' := [(7, .int r_23), (6, .int (nI np)), (0, .ref aP), (1, .int a), (2, .int b), (3, .int x), (4, .int z), (5, .int t)]) hx hb dX3_write_26 hl (by decide) rfl (fun ls hl => ?_)
    refine lv_aload_n hx hb dX3_write_28 rfl (lv_at hl 2 rfl) ?_
    refine va_get (D := D) (ci := 3) (v := .ref aTD) (C := RX3) (T := TX3) (N := 11) hx hb hts inX3 hown hK hP 5 rfl rfl 0 (by decide) fl9 (fun _ h9 => h9) rfl dX3_write_29 ?_
    refine lv_iload hx hb dX3_write_32 (lv_at hl 1 rfl) ?_
    refine lv_iload_n hx hb dX3_write_34 rfl (lv_at hl 3 rfl) ?_
    refine m_iast (k := np) (x := a) hx hb hK hP hD hS 6 0 rfl rfl (by omega) (by decide) dX3_write_35 (fun H locs hP hD hS => ?_)
    have hP : va_P D vwCl [ar cZ aCP 40 fCP, ar cI aDB 40 fDB, ar cI aCR 40 fCR, ar cI aRK 40 fRK, ar cI aLF 40 fLF, ob aP 3 [.ref aTD, .ref aTC, .ref aTK, .ref aTR, .ref aDY, .ref aCP, .ref aDB, .ref aCR, .ref aRK, .ref aLF, .int (nI np)], ar cI aTD 40 (upd fTD np a), ar cI aTC 40 fTC, ar cI aTK 40 fTK, ar cI aTR 40 fTR, ar cI aDY 40 fDY] H := hP
    have hD : va_D A [ar cZ aCP 40 fCP, ar cI aDB 40 fDB, ar cI aCR 40 fCR, ar cI aRK 40 fRK, ar cI aLF 40 fLF, ob aP 3 [.ref aTD, .ref aTC, .ref aTK, .ref aTR, .ref aDY, .ref aCP, .ref aDB, .ref aCR, .ref aRK, .ref aLF, .int (nI np)], ar cI aTD 40 (upd fTD np a), ar cI aTC 40 fTC, ar cI aTK 40 fTK, ar cI aTR 40 fTR, ar cI aDY 40 fDY] := hD
    refine lv_aload_n hx hb dX3_write_36 rfl (lv_at hl 2 rfl) ?_
    refine va_get (D := D) (ci := 3) (v := .ref aTC) (C := RX3) (T := TX3) (N := 11) hx hb hts inX3 hown hK hP 5 rfl rfl 1 (by decide) fl15 (fun _ h9 => h9) rfl dX3_write_37 ?_
    refine lv_iload hx hb dX3_write_40 (lv_at hl 1 rfl) ?_
    refine lv_iload_n hx hb dX3_write_42 rfl (lv_at hl 4 rfl) ?_
    refine m_iast (k := np) (x := b) hx hb hK hP hD hS 7 0 rfl rfl (by omega) (by decide) dX3_write_43 (fun H locs hP hD hS => ?_)
    have hP : va_P D vwCl [ar cZ aCP 40 fCP, ar cI aDB 40 fDB, ar cI aCR 40 fCR, ar cI aRK 40 fRK, ar cI aLF 40 fLF, ob aP 3 [.ref aTD, .ref aTC, .ref aTK, .ref aTR, .ref aDY, .ref aCP, .ref aDB, .ref aCR, .ref aRK, .ref aLF, .int (nI np)], ar cI aTD 40 (upd fTD np a), ar cI aTC 40 (upd fTC np b), ar cI aTK 40 fTK, ar cI aTR 40 fTR, ar cI aDY 40 fDY] H := hP
    have hD : va_D A [ar cZ aCP 40 fCP, ar cI aDB 40 fDB, ar cI aCR 40 fCR, ar cI aRK 40 fRK, ar cI aLF 40 fLF, ob aP 3 [.ref aTD, .ref aTC, .ref aTK, .ref aTR, .ref aDY, .ref aCP, .ref aDB, .ref aCR, .ref aRK, .ref aLF, .int (nI np)], ar cI aTD 40 (upd fTD np a), ar cI aTC 40 (upd fTC np b), ar cI aTK 40 fTK, ar cI aTR 40 fTR, ar cI aDY 40 fDY] := hD
    refine lv_aload_n hx hb dX3_write_44 rfl (lv_at hl 2 rfl) ?_
    refine va_get (D := D) (ci := 3) (v := .ref aTK) (C := RX3) (T := TX3) (N := 11) hx hb hts inX3 hown hK hP 5 rfl rfl 2 (by decide) fl18 (fun _ h9 => h9) rfl dX3_write_45 ?_
    refine lv_iload hx hb dX3_write_48 (lv_at hl 1 rfl) ?_
    refine lv_iload_n hx hb dX3_write_50 rfl (lv_at hl 5 rfl) ?_
    refine m_iast (k := np) (x := x) hx hb hK hP hD hS 8 0 rfl rfl (by omega) (by decide) dX3_write_51 (fun H locs hP hD hS => ?_)
    have hP : va_P D vwCl [ar cZ aCP 40 fCP, ar cI aDB 40 fDB, ar cI aCR 40 fCR, ar cI aRK 40 fRK, ar cI aLF 40 fLF, ob aP 3 [.ref aTD, .ref aTC, .ref aTK, .ref aTR, .ref aDY, .ref aCP, .ref aDB, .ref aCR, .ref aRK, .ref aLF, .int (nI np)], ar cI aTD 40 (upd fTD np a), ar cI aTC 40 (upd fTC np b), ar cI aTK 40 (upd fTK np x), ar cI aTR 40 fTR, ar cI aDY 40 fDY] H := hP
    have hD : va_D A [ar cZ aCP 40 fCP, ar cI aDB 40 fDB, ar cI aCR 40 fCR, ar cI aRK 40 fRK, ar cI aLF 40 fLF, ob aP 3 [.ref aTD, .ref aTC, .ref aTK, .ref aTR, .ref aDY, .ref aCP, .ref aDB, .ref aCR, .ref aRK, .ref aLF, .int (nI np)], ar cI aTD 40 (upd fTD np a), ar cI aTC 40 (upd fTC np b), ar cI aTK 40 (upd fTK np x), ar cI aTR 40 fTR, ar cI aDY 40 fDY] := hD
    refine lv_aload_n hx hb dX3_write_52 rfl (lv_at hl 2 rfl) ?_
    refine va_get (D := D) (ci := 3) (v := .ref aTR) (C := RX3) (T := TX3) (N := 11) hx hb hts inX3 hown hK hP 5 rfl rfl 3 (by decide) fl21 (fun _ h9 => h9) rfl dX3_write_53 ?_
    refine lv_iload hx hb dX3_write_56 (lv_at hl 1 rfl) ?_
    refine lv_iload hx hb dX3_write_58 (lv_at hl 6 rfl) ?_
    refine m_iast (k := np) (x := z) hx hb hK hP hD hS 9 0 rfl rfl (by omega) (by decide) dX3_write_60 (fun H locs hP hD hS => ?_)
    have hP : va_P D vwCl [ar cZ aCP 40 fCP, ar cI aDB 40 fDB, ar cI aCR 40 fCR, ar cI aRK 40 fRK, ar cI aLF 40 fLF, ob aP 3 [.ref aTD, .ref aTC, .ref aTK, .ref aTR, .ref aDY, .ref aCP, .ref aDB, .ref aCR, .ref aRK, .ref aLF, .int (nI np)], ar cI aTD 40 (upd fTD np a), ar cI aTC 40 (upd fTC np b), ar cI aTK 40 (upd fTK np x), ar cI aTR 40 (upd fTR np z), ar cI aDY 40 fDY] H := hP
    have hD : va_D A [ar cZ aCP 40 fCP, ar cI aDB 40 fDB, ar cI aCR 40 fCR, ar cI aRK 40 fRK, ar cI aLF 40 fLF, ob aP 3 [.ref aTD, .ref aTC, .ref aTK, .ref aTR, .ref aDY, .ref aCP, .ref aDB, .ref aCR, .ref aRK, .ref aLF, .int (nI np)], ar cI aTD 40 (upd fTD np a), ar cI aTC 40 (upd fTC np b), ar cI aTK 40 (upd fTK np x), ar cI aTR 40 (upd fTR np z), ar cI aDY 40 fDY] := hD
    refine lv_aload_n hx hb dX3_write_61 rfl (lv_at hl 2 rfl) ?_
    refine va_get (D := D) (ci := 3) (v := .ref aDY) (C := RX3) (T := TX3) (N := 11) hx hb hts inX3 hown hK hP 5 rfl rfl 4 (by decide) fl24 (fun _ h9 => h9) rfl dX3_write_62 ?_
    refine lv_iload hx hb dX3_write_65 (lv_at hl 1 rfl) ?_
    refine lv_iload hx hb dX3_write_67 (lv_at hl 7 rfl) ?_
    refine m_iast (k := np) (x := t) hx hb hK hP hD hS 10 0 rfl rfl (by omega) (by decide) dX3_write_69 (fun H locs hP hD hS => ?_)
    have hP : va_P D vwCl [ar cZ aCP 40 fCP, ar cI aDB 40 fDB, ar cI aCR 40 fCR, ar cI aRK 40 fRK, ar cI aLF 40 fLF, ob aP 3 [.ref aTD, .ref aTC, .ref aTK, .ref aTR, .ref aDY, .ref aCP, .ref aDB, .ref aCR, .ref aRK, .ref aLF, .int (nI np)], ar cI aTD 40 (upd fTD np a), ar cI aTC 40 (upd fTC np b), ar cI aTK 40 (upd fTK np x), ar cI aTR 40 (upd fTR np z), ar cI aDY 40 (upd fDY np t)] H := hP
    have hD : va_D A [ar cZ aCP 40 fCP, ar cI aDB 40 fDB, ar cI aCR 40 fCR, ar cI aRK 40 fRK, ar cI aLF 40 fLF, ob aP 3 [.ref aTD, .ref aTC, .ref aTK, .ref aTR, .ref aDY, .ref aCP, .ref aDB, .ref aCR, .ref aRK, .ref aLF, .int (nI np)], ar cI aTD 40 (upd fTD np a), ar cI aTC 40 (upd fTC np b), ar cI aTK 40 (upd fTK np x), ar cI aTR 40 (upd fTR np z), ar cI aDY 40 (upd fDY np t)] := hD
    refine lv_aload_n hx hb dX3_write_70 rfl (lv_at hl 2 rfl) ?_
    refine va_get (D := D) (ci := 3) (v := .ref aCP) (C := RX3) (T := TX3) (N := 11) hx hb hts inX3 hown hK hP 5 rfl rfl 5 (by decide) fl27 (fun _ h9 => h9) rfl dX3_write_71 ?_
    refine lv_iload hx hb dX3_write_74 (lv_at hl 1 rfl) ?_
    refine lv_iload hx hb dX3_write_76 (lv_at hl 0 rfl) ?_
    refine m_zast (k := np) (x := r_23) hx hb hK hP hD hS 0 1 rfl rfl (by assumption) (by omega) (by decide) dX3_write_78 (fun H locs hP hD hS => ?_)
    have hP : va_P D vwCl [ar cZ aCP 40 (upd fCP np r_23), ar cI aDB 40 fDB, ar cI aCR 40 fCR, ar cI aRK 40 fRK, ar cI aLF 40 fLF, ob aP 3 [.ref aTD, .ref aTC, .ref aTK, .ref aTR, .ref aDY, .ref aCP, .ref aDB, .ref aCR, .ref aRK, .ref aLF, .int (nI np)], ar cI aTD 40 (upd fTD np a), ar cI aTC 40 (upd fTC np b), ar cI aTK 40 (upd fTK np x), ar cI aTR 40 (upd fTR np z), ar cI aDY 40 (upd fDY np t)] H := hP
    have hD : va_D A [ar cZ aCP 40 (upd fCP np r_23), ar cI aDB 40 fDB, ar cI aCR 40 fCR, ar cI aRK 40 fRK, ar cI aLF 40 fLF, ob aP 3 [.ref aTD, .ref aTC, .ref aTK, .ref aTR, .ref aDY, .ref aCP, .ref aDB, .ref aCR, .ref aRK, .ref aLF, .int (nI np)], ar cI aTD 40 (upd fTD np a), ar cI aTC 40 (upd fTC np b), ar cI aTK 40 (upd fTK np x), ar cI aTR 40 (upd fTR np z), ar cI aDY 40 (upd fDY np t)] := hD
    refine lv_aload_n hx hb dX3_write_79 rfl (lv_at hl 2 rfl) ?_
    refine va_get (D := D) (ci := 3) (v := .ref aDB) (C := RX3) (T := TX3) (N := 11) hx hb hts inX3 hown hK hP 5 rfl rfl 6 (by decide) fl31 (fun _ h9 => h9) rfl dX3_write_80 ?_
    refine lv_iload hx hb dX3_write_83 (lv_at hl 1 rfl) ?_
    refine lv_iload_n hx hb dX3_write_85 rfl (lv_at hl 3 rfl) ?_
    refine m_iast (k := np) (x := a) hx hb hK hP hD hS 1 0 rfl rfl (by omega) (by decide) dX3_write_86 (fun H locs hP hD hS => ?_)
    have hP : va_P D vwCl [ar cZ aCP 40 (upd fCP np r_23), ar cI aDB 40 (upd fDB np a), ar cI aCR 40 fCR, ar cI aRK 40 fRK, ar cI aLF 40 fLF, ob aP 3 [.ref aTD, .ref aTC, .ref aTK, .ref aTR, .ref aDY, .ref aCP, .ref aDB, .ref aCR, .ref aRK, .ref aLF, .int (nI np)], ar cI aTD 40 (upd fTD np a), ar cI aTC 40 (upd fTC np b), ar cI aTK 40 (upd fTK np x), ar cI aTR 40 (upd fTR np z), ar cI aDY 40 (upd fDY np t)] H := hP
    have hD : va_D A [ar cZ aCP 40 (upd fCP np r_23), ar cI aDB 40 (upd fDB np a), ar cI aCR 40 fCR, ar cI aRK 40 fRK, ar cI aLF 40 fLF, ob aP 3 [.ref aTD, .ref aTC, .ref aTK, .ref aTR, .ref aDY, .ref aCP, .ref aDB, .ref aCR, .ref aRK, .ref aLF, .int (nI np)], ar cI aTD 40 (upd fTD np a), ar cI aTC 40 (upd fTC np b), ar cI aTK 40 (upd fTK np x), ar cI aTR 40 (upd fTR np z), ar cI aDY 40 (upd fDY np t)] := hD
    refine lv_aload_n hx hb dX3_write_87 rfl (lv_at hl 2 rfl) ?_
    refine va_get (D := D) (ci := 3) (v := .ref aCR) (C := RX3) (T := TX3) (N := 11) hx hb hts inX3 hown hK hP 5 rfl rfl 7 (by decide) fl34 (fun _ h9 => h9) rfl dX3_write_88 ?_
    refine lv_iload hx hb dX3_write_91 (lv_at hl 1 rfl) ?_
    refine lv_iload_n hx hb dX3_write_93 rfl (lv_at hl 4 rfl) ?_
    refine m_iast (k := np) (x := b) hx hb hK hP hD hS 2 0 rfl rfl (by omega) (by decide) dX3_write_94 (fun H locs hP hD hS => ?_)
    have hP : va_P D vwCl [ar cZ aCP 40 (upd fCP np r_23), ar cI aDB 40 (upd fDB np a), ar cI aCR 40 (upd fCR np b), ar cI aRK 40 fRK, ar cI aLF 40 fLF, ob aP 3 [.ref aTD, .ref aTC, .ref aTK, .ref aTR, .ref aDY, .ref aCP, .ref aDB, .ref aCR, .ref aRK, .ref aLF, .int (nI np)], ar cI aTD 40 (upd fTD np a), ar cI aTC 40 (upd fTC np b), ar cI aTK 40 (upd fTK np x), ar cI aTR 40 (upd fTR np z), ar cI aDY 40 (upd fDY np t)] H := hP
    have hD : va_D A [ar cZ aCP 40 (upd fCP np r_23), ar cI aDB 40 (upd fDB np a), ar cI aCR 40 (upd fCR np b), ar cI aRK 40 fRK, ar cI aLF 40 fLF, ob aP 3 [.ref aTD, .ref aTC, .ref aTK, .ref aTR, .ref aDY, .ref aCP, .ref aDB, .ref aCR, .ref aRK, .ref aLF, .int (nI np)], ar cI aTD 40 (upd fTD np a), ar cI aTC 40 (upd fTC np b), ar cI aTK 40 (upd fTK np x), ar cI aTR 40 (upd fTR np z), ar cI aDY 40 (upd fDY np t)] := hD
    refine lv_aload_n hx hb dX3_write_95 rfl (lv_at hl 2 rfl) ?_
    refine va_get (D := D) (ci := 3) (v := .ref aRK) (C := RX3) (T := TX3) (N := 11) hx hb hts inX3 hown hK hP 5 rfl rfl 8 (by decide) fl37 (fun _ h9 => h9) rfl dX3_write_96 ?_
    refine lv_iload hx hb dX3_write_99 (lv_at hl 1 rfl) ?_
    refine lv_iload hx hb dX3_write_101 (lv_at hl 6 rfl) ?_
    refine m_iast (k := np) (x := z) hx hb hK hP hD hS 3 0 rfl rfl (by omega) (by decide) dX3_write_103 (fun H locs hP hD hS => ?_)
    have hP : va_P D vwCl [ar cZ aCP 40 (upd fCP np r_23), ar cI aDB 40 (upd fDB np a), ar cI aCR 40 (upd fCR np b), ar cI aRK 40 (upd fRK np z), ar cI aLF 40 fLF, ob aP 3 [.ref aTD, .ref aTC, .ref aTK, .ref aTR, .ref aDY, .ref aCP, .ref aDB, .ref aCR, .ref aRK, .ref aLF, .int (nI np)], ar cI aTD 40 (upd fTD np a), ar cI aTC 40 (upd fTC np b), ar cI aTK 40 (upd fTK np x), ar cI aTR 40 (upd fTR np z), ar cI aDY 40 (upd fDY np t)] H := hP
    have hD : va_D A [ar cZ aCP 40 (upd fCP np r_23), ar cI aDB 40 (upd fDB np a), ar cI aCR 40 (upd fCR np b), ar cI aRK 40 (upd fRK np z), ar cI aLF 40 fLF, ob aP 3 [.ref aTD, .ref aTC, .ref aTK, .ref aTR, .ref aDY, .ref aCP, .ref aDB, .ref aCR, .ref aRK, .ref aLF, .int (nI np)], ar cI aTD 40 (upd fTD np a), ar cI aTC 40 (upd fTC np b), ar cI aTK 40 (upd fTK np x), ar cI aTR 40 (upd fTR np z), ar cI aDY 40 (upd fDY np t)] := hD
    refine lv_aload_n hx hb dX3_write_104 rfl (lv_at hl 2 rfl) ?_
    refine va_get (D := D) (ci := 3) (v := .ref aLF) (C := RX3) (T := TX3) (N := 11) hx hb hts inX3 hown hK hP 5 rfl rfl 9 (by decide) fl40 (fun _ h9 => h9) rfl dX3_write_105 ?_
    refine lv_iload hx hb dX3_write_108 (lv_at hl 1 rfl) ?_
    refine lv_iload hx hb dX3_write_110 (lv_at hl 0 rfl) ?_
    refine lv_if_eq (tgt := 119) hx hb dX3_write_112 (by decide) (fun c_112 => ?_) (fun c_112 => ?_)
    · skip
      refine lv_iload_n hx hb dX3_write_119 rfl (lv_at hl 5 rfl) ?_
      refine m_iast (k := np) (x := x) hx hb hK hP hD hS 4 0 rfl rfl (by omega) (by decide) dX3_write_120 (fun H locs hP hD hS => ?_)
      have hP : va_P D vwCl [ar cZ aCP 40 (upd fCP np r_23), ar cI aDB 40 (upd fDB np a), ar cI aCR 40 (upd fCR np b), ar cI aRK 40 (upd fRK np z), ar cI aLF 40 (upd fLF np x), ob aP 3 [.ref aTD, .ref aTC, .ref aTK, .ref aTR, .ref aDY, .ref aCP, .ref aDB, .ref aCR, .ref aRK, .ref aLF, .int (nI np)], ar cI aTD 40 (upd fTD np a), ar cI aTC 40 (upd fTC np b), ar cI aTK 40 (upd fTK np x), ar cI aTR 40 (upd fTR np z), ar cI aDY 40 (upd fDY np t)] H := hP
      have hD : va_D A [ar cZ aCP 40 (upd fCP np r_23), ar cI aDB 40 (upd fDB np a), ar cI aCR 40 (upd fCR np b), ar cI aRK 40 (upd fRK np z), ar cI aLF 40 (upd fLF np x), ob aP 3 [.ref aTD, .ref aTC, .ref aTK, .ref aTR, .ref aDY, .ref aCP, .ref aDB, .ref aCR, .ref aRK, .ref aLF, .int (nI np)], ar cI aTD 40 (upd fTD np a), ar cI aTC 40 (upd fTC np b), ar cI aTK 40 (upd fTK np x), ar cI aTR 40 (upd fTR np z), ar cI aDY 40 (upd fDY np t)] := hD
      refine lv_aload_n hx hb dX3_write_121 rfl (lv_at hl 2 rfl) ?_
      refine lv_dup hx hb dX3_write_122 rfl ?_
      refine va_get (D := D) (ci := 3) (v := .int (nI np)) (C := RX3) (T := TX3) (N := 11) hx hb hts inX3 hown hK hP 5 rfl rfl 10 (by decide) fl43 (fun _ h9 => h9) rfl dX3_write_123 ?_
      refine lv_iconst (v := 1) hx hb dX3_write_126 (by decide) ?_
      refine m_iaddN (a := np) (b := 1) hx hb dX3_write_127 ?_
      refine va_put (D := D) (ci := 3) (v := .int (nI (np + 1))) (ty := .int) (C := RX3) (T := TX3) (N := 11) hx hb hts inX3 tyX3 tyX3_ok nmX3 hown hK hP hD hS 5 rfl rfl 10 (by decide) fl43 (fun _ h9 => h9) rfl (by decide +kernel) (rfl) (rfl) (Nat.le_of_ble_eq_true rfl) dX3_write_128 (fun H locs hP hD hS => ?_)
      have hP : va_P D vwCl [ar cZ aCP 40 (upd fCP np r_23), ar cI aDB 40 (upd fDB np a), ar cI aCR 40 (upd fCR np b), ar cI aRK 40 (upd fRK np z), ar cI aLF 40 (upd fLF np x), ob aP 3 [.ref aTD, .ref aTC, .ref aTK, .ref aTR, .ref aDY, .ref aCP, .ref aDB, .ref aCR, .ref aRK, .ref aLF, .int (nI (np + 1))], ar cI aTD 40 (upd fTD np a), ar cI aTC 40 (upd fTC np b), ar cI aTK 40 (upd fTK np x), ar cI aTR 40 (upd fTR np z), ar cI aDY 40 (upd fDY np t)] H := hP
      have hD : va_D A [ar cZ aCP 40 (upd fCP np r_23), ar cI aDB 40 (upd fDB np a), ar cI aCR 40 (upd fCR np b), ar cI aRK 40 (upd fRK np z), ar cI aLF 40 (upd fLF np x), ob aP 3 [.ref aTD, .ref aTC, .ref aTK, .ref aTR, .ref aDY, .ref aCP, .ref aDB, .ref aCR, .ref aRK, .ref aLF, .int (nI (np + 1))], ar cI aTD 40 (upd fTD np a), ar cI aTC 40 (upd fTC np b), ar cI aTK 40 (upd fTK np x), ar cI aTR 40 (upd fTR np z), ar cI aDY 40 (upd fDY np t)] := hD
      refine lv_iload hx hb dX3_write_131 (lv_at hl 1 rfl) ?_
      exact ret (nI np) ((upd fTD np a), (upd fTC np b), (upd fTK np x), (upd fTR np z), (upd fDY np t), (upd fCP np r_23), (upd fDB np a), (upd fCR np b), (upd fRK np z), (upd fLF np x), (np + 1)) _ _ _ _ dX3_write_133 (Or.inl ⟨k_10, rfl, rfl, rfl, rfl, rfl, rfl, rfl, by rw [hq_23], rfl, rfl, rfl, by congr 1; first | (rw [if_pos]; grind) | (rw [if_neg]; grind)⟩) (hP.sub [5, 6, 7, 8, 9, 10, 0, 1, 2, 3, 4] rfl) (hD.sub [5, 6, 7, 8, 9, 10, 0, 1, 2, 3, 4] (by decide) rfl) hS
    · skip
      refine lv_iconst (v := 0) hx hb dX3_write_115 (by decide) ?_
      refine lv_goto (tgt := 120) hx hb dX3_write_116 (by decide) ?_
      refine m_iast (k := np) (x := 0) hx hb hK hP hD hS 4 0 rfl rfl (by omega) (by decide) dX3_write_120 (fun H locs hP hD hS => ?_)
      have hP : va_P D vwCl [ar cZ aCP 40 (upd fCP np r_23), ar cI aDB 40 (upd fDB np a), ar cI aCR 40 (upd fCR np b), ar cI aRK 40 (upd fRK np z), ar cI aLF 40 (upd fLF np 0), ob aP 3 [.ref aTD, .ref aTC, .ref aTK, .ref aTR, .ref aDY, .ref aCP, .ref aDB, .ref aCR, .ref aRK, .ref aLF, .int (nI np)], ar cI aTD 40 (upd fTD np a), ar cI aTC 40 (upd fTC np b), ar cI aTK 40 (upd fTK np x), ar cI aTR 40 (upd fTR np z), ar cI aDY 40 (upd fDY np t)] H := hP
      have hD : va_D A [ar cZ aCP 40 (upd fCP np r_23), ar cI aDB 40 (upd fDB np a), ar cI aCR 40 (upd fCR np b), ar cI aRK 40 (upd fRK np z), ar cI aLF 40 (upd fLF np 0), ob aP 3 [.ref aTD, .ref aTC, .ref aTK, .ref aTR, .ref aDY, .ref aCP, .ref aDB, .ref aCR, .ref aRK, .ref aLF, .int (nI np)], ar cI aTD 40 (upd fTD np a), ar cI aTC 40 (upd fTC np b), ar cI aTK 40 (upd fTK np x), ar cI aTR 40 (upd fTR np z), ar cI aDY 40 (upd fDY np t)] := hD
      refine lv_aload_n hx hb dX3_write_121 rfl (lv_at hl 2 rfl) ?_
      refine lv_dup hx hb dX3_write_122 rfl ?_
      refine va_get (D := D) (ci := 3) (v := .int (nI np)) (C := RX3) (T := TX3) (N := 11) hx hb hts inX3 hown hK hP 5 rfl rfl 10 (by decide) fl43 (fun _ h9 => h9) rfl dX3_write_123 ?_
      refine lv_iconst (v := 1) hx hb dX3_write_126 (by decide) ?_
      refine m_iaddN (a := np) (b := 1) hx hb dX3_write_127 ?_
      refine va_put (D := D) (ci := 3) (v := .int (nI (np + 1))) (ty := .int) (C := RX3) (T := TX3) (N := 11) hx hb hts inX3 tyX3 tyX3_ok nmX3 hown hK hP hD hS 5 rfl rfl 10 (by decide) fl43 (fun _ h9 => h9) rfl (by decide +kernel) (rfl) (rfl) (Nat.le_of_ble_eq_true rfl) dX3_write_128 (fun H locs hP hD hS => ?_)
      have hP : va_P D vwCl [ar cZ aCP 40 (upd fCP np r_23), ar cI aDB 40 (upd fDB np a), ar cI aCR 40 (upd fCR np b), ar cI aRK 40 (upd fRK np z), ar cI aLF 40 (upd fLF np 0), ob aP 3 [.ref aTD, .ref aTC, .ref aTK, .ref aTR, .ref aDY, .ref aCP, .ref aDB, .ref aCR, .ref aRK, .ref aLF, .int (nI (np + 1))], ar cI aTD 40 (upd fTD np a), ar cI aTC 40 (upd fTC np b), ar cI aTK 40 (upd fTK np x), ar cI aTR 40 (upd fTR np z), ar cI aDY 40 (upd fDY np t)] H := hP
      have hD : va_D A [ar cZ aCP 40 (upd fCP np r_23), ar cI aDB 40 (upd fDB np a), ar cI aCR 40 (upd fCR np b), ar cI aRK 40 (upd fRK np z), ar cI aLF 40 (upd fLF np 0), ob aP 3 [.ref aTD, .ref aTC, .ref aTK, .ref aTR, .ref aDY, .ref aCP, .ref aDB, .ref aCR, .ref aRK, .ref aLF, .int (nI (np + 1))], ar cI aTD 40 (upd fTD np a), ar cI aTC 40 (upd fTC np b), ar cI aTK 40 (upd fTK np x), ar cI aTR 40 (upd fTR np z), ar cI aDY 40 (upd fDY np t)] := hD
      refine lv_iload hx hb dX3_write_131 (lv_at hl 1 rfl) ?_
      exact ret (nI np) ((upd fTD np a), (upd fTC np b), (upd fTK np x), (upd fTR np z), (upd fDY np t), (upd fCP np r_23), (upd fDB np a), (upd fCR np b), (upd fRK np z), (upd fLF np 0), (np + 1)) _ _ _ _ dX3_write_133 (Or.inl ⟨k_10, rfl, rfl, rfl, rfl, rfl, rfl, rfl, by rw [hq_23], rfl, rfl, rfl, by congr 1; first | (rw [if_pos]; grind) | (rw [if_neg]; grind)⟩) (hP.sub [5, 6, 7, 8, 9, 10, 0, 1, 2, 3, 4] rfl) (hD.sub [5, 6, 7, 8, 9, 10, 0, 1, 2, 3, 4] (by decide) rfl) hS
  · skip
    have k_10 : ¬ np < 40 := fun h9 => c_10 ((nI_ltI (a := np) (b := 40) (by omega) (by omega)).mpr h9)
    refine lv_iconst (v := (-1)) hx hb dX3_write_13 (by decide) ?_
    exact ret (-1) (fTD, fTC, fTK, fTR, fDY, fCP, fDB, fCR, fRK, fLF, np) _ _ _ _ dX3_write_14 (Or.inr ⟨k_10, rfl, rfl, rfl, rfl, rfl, rfl, rfl, rfl, rfl, rfl, rfl, rfl⟩) (hP) (hD) hS
abbrev r_c_X3_tell : Room := { frames := 0, cells := 0, slots := 0, locals := 0 }
set_option maxHeartbeats 4000000 in
set_option maxRecDepth 100000 in
theorem c_X3_tell (l : Launch) (D : va_G) (cI cZ : ClassId) (aP : Nat) (aTD : Nat) (aTC : Nat) (aTK : Nat) (aTR : Nat) (aDY : Nat) (aCP : Nat) (aDB : Nat) (aCR : Nat) (aRK : Nat) (aLF : Nat) (fDB : Nat → Int32) (fCR : Nat → Int32) (fTK : Nat → Int32) (fRK : Nat → Int32) (fLF : Nat → Int32) (fDY : Nat → Int32) (fCP : Nat → Int32) (np : Nat) (q : Nat) (x : Int32) (hq : q < 40) : MI l yX3_tell wsX3_tell r_c_X3_tell D cI cZ [.ref aP, .int (nI q), .int x] [ob aP 3 [.ref aTD, .ref aTC, .ref aTK, .ref aTR, .ref aDY, .ref aCP, .ref aDB, .ref aCR, .ref aRK, .ref aLF, .int (nI np)], ar cI aDB 40 fDB, ar cI aCR 40 fCR, ar cI aTK 40 fTK, ar cI aRK 40 fRK, ar cI aLF 40 fLF, ar cI aDY 40 fDY, ar cZ aCP 40 fCP] (fun (r : Int32) (u : Unit) => r = tellS fDB fCR fTK fRK fLF fDY fCP q x) (fun (u : Unit) => [ob aP 3 [.ref aTD, .ref aTC, .ref aTK, .ref aTR, .ref aDY, .ref aCP, .ref aDB, .ref aCR, .ref aRK, .ref aLF, .int (nI np)], ar cI aDB 40 fDB, ar cI aCR 40 fCR, ar cI aTK 40 fTK, ar cI aRK 40 fRK, ar cI aLF 40 fLF, ar cI aDY 40 fDY, ar cZ aCP 40 fCP]) 0 0 := by
  refine MI.of (cc := cX3_tell) (maxL := 3) (by decide) rfl (Nat.le_of_ble_eq_true rfl) ?_
  intro p e s m below meth c A Q hx hb hml hown hts hN hK hA ret hP hD hS ls hl
  have hown : s.vm.findClass RX3 = some m.cls := hown
  have inX3 : ∀ w ∈ wsX30, w ∈ wsX3_tell := by decide +kernel
  have fl18 := hts (.fieldLink RX3 18 "AdvanceBook$Papers" "toldCoins" "[I") (by decide +kernel)
  have fl24 := hts (.fieldLink RX3 24 "AdvanceBook$Papers" "days" "[I") (by decide +kernel)
  have fl27 := hts (.fieldLink RX3 27 "AdvanceBook$Papers" "copies" "[Z") (by decide +kernel)
  have fl31 := hts (.fieldLink RX3 31 "AdvanceBook$Papers" "debtors" "[I") (by decide +kernel)
  have fl34 := hts (.fieldLink RX3 34 "AdvanceBook$Papers" "creditors" "[I") (by decide +kernel)
  have fl37 := hts (.fieldLink RX3 37 "AdvanceBook$Papers" "ranks" "[I") (by decide +kernel)
  have fl40 := hts (.fieldLink RX3 40 "AdvanceBook$Papers" "lefts" "[I") (by decide +kernel)
  have hP : va_P D vwCl [ob aP 3 [.ref aTD, .ref aTC, .ref aTK, .ref aTR, .ref aDY, .ref aCP, .ref aDB, .ref aCR, .ref aRK, .ref aLF, .int (nI np)], ar cI aDB 40 fDB, ar cI aCR 40 fCR, ar cI aTK 40 fTK, ar cI aRK 40 fRK, ar cI aLF 40 fLF, ar cI aDY 40 fDY, ar cZ aCP 40 fCP] s.heap := hP
  have hD : va_D A [ob aP 3 [.ref aTD, .ref aTC, .ref aTK, .ref aTR, .ref aDY, .ref aCP, .ref aDB, .ref aCR, .ref aRK, .ref aLF, .int (nI np)], ar cI aDB 40 fDB, ar cI aCR 40 fCR, ar cI aTK 40 fTK, ar cI aRK 40 fRK, ar cI aLF 40 fLF, ar cI aDY 40 fDY, ar cZ aCP 40 fCP] := hD
  have hl : lv_has ls 3 [(0, .ref aP), (1, .int (nI q)), (2, .int x)] := hl
  refine lv_iload_n hx hb dX3_tell_0 rfl (lv_at hl 2 rfl) ?_
  by_cases e1_0 : x = 0
  · refine lv_tableIn (tgt := 40) hx hb dX3_tell_1 (by rw [e1_0]; decide) (by rw [e1_0]; decide) (by rw [e1_0]; rfl) (by decide) ?_
    refine lv_aload_n hx hb dX3_tell_40 rfl (lv_at hl 0 rfl) ?_
    refine va_get (D := D) (ci := 3) (v := .ref aDB) (C := RX3) (T := TX3) (N := 11) hx hb hts inX3 hown hK hP 0 rfl rfl 6 (by decide) fl31 (fun _ h9 => h9) rfl dX3_tell_41 ?_
    refine lv_iload_n hx hb dX3_tell_44 rfl (lv_at hl 1 rfl) ?_
    refine m_iald (k := q) hx hb hK hP 1 0 rfl rfl (by omega) (by decide) dX3_tell_45 ?_
    exact ret (fDB q) () _ _ _ _ dX3_tell_46 (by simp [tellS, *]) (hP) (hD) hS
  by_cases e1_1 : x = 1
  · refine lv_tableIn (tgt := 47) hx hb dX3_tell_1 (by rw [e1_1]; decide) (by rw [e1_1]; decide) (by rw [e1_1]; rfl) (by decide) ?_
    refine lv_aload_n hx hb dX3_tell_47 rfl (lv_at hl 0 rfl) ?_
    refine va_get (D := D) (ci := 3) (v := .ref aCR) (C := RX3) (T := TX3) (N := 11) hx hb hts inX3 hown hK hP 0 rfl rfl 7 (by decide) fl34 (fun _ h9 => h9) rfl dX3_tell_48 ?_
    refine lv_iload_n hx hb dX3_tell_51 rfl (lv_at hl 1 rfl) ?_
    refine m_iald (k := q) hx hb hK hP 2 0 rfl rfl (by omega) (by decide) dX3_tell_52 ?_
    exact ret (fCR q) () _ _ _ _ dX3_tell_53 (by simp [tellS, *]) (hP) (hD) hS
  by_cases e1_2 : x = 2
  · refine lv_tableIn (tgt := 54) hx hb dX3_tell_1 (by rw [e1_2]; decide) (by rw [e1_2]; decide) (by rw [e1_2]; rfl) (by decide) ?_
    refine lv_aload_n hx hb dX3_tell_54 rfl (lv_at hl 0 rfl) ?_
    refine va_get (D := D) (ci := 3) (v := .ref aTK) (C := RX3) (T := TX3) (N := 11) hx hb hts inX3 hown hK hP 0 rfl rfl 2 (by decide) fl18 (fun _ h9 => h9) rfl dX3_tell_55 ?_
    refine lv_iload_n hx hb dX3_tell_58 rfl (lv_at hl 1 rfl) ?_
    refine m_iald (k := q) hx hb hK hP 3 0 rfl rfl (by omega) (by decide) dX3_tell_59 ?_
    exact ret (fTK q) () _ _ _ _ dX3_tell_60 (by simp [tellS, *]) (hP) (hD) hS
  by_cases e1_3 : x = 3
  · refine lv_tableIn (tgt := 61) hx hb dX3_tell_1 (by rw [e1_3]; decide) (by rw [e1_3]; decide) (by rw [e1_3]; rfl) (by decide) ?_
    refine lv_aload_n hx hb dX3_tell_61 rfl (lv_at hl 0 rfl) ?_
    refine va_get (D := D) (ci := 3) (v := .ref aRK) (C := RX3) (T := TX3) (N := 11) hx hb hts inX3 hown hK hP 0 rfl rfl 8 (by decide) fl37 (fun _ h9 => h9) rfl dX3_tell_62 ?_
    refine lv_iload_n hx hb dX3_tell_65 rfl (lv_at hl 1 rfl) ?_
    refine m_iald (k := q) hx hb hK hP 4 0 rfl rfl (by omega) (by decide) dX3_tell_66 ?_
    exact ret (fRK q) () _ _ _ _ dX3_tell_67 (by simp [tellS, *]) (hP) (hD) hS
  by_cases e1_4 : x = 4
  · refine lv_tableIn (tgt := 68) hx hb dX3_tell_1 (by rw [e1_4]; decide) (by rw [e1_4]; decide) (by rw [e1_4]; rfl) (by decide) ?_
    refine lv_aload_n hx hb dX3_tell_68 rfl (lv_at hl 0 rfl) ?_
    refine va_get (D := D) (ci := 3) (v := .ref aLF) (C := RX3) (T := TX3) (N := 11) hx hb hts inX3 hown hK hP 0 rfl rfl 9 (by decide) fl40 (fun _ h9 => h9) rfl dX3_tell_69 ?_
    refine lv_iload_n hx hb dX3_tell_72 rfl (lv_at hl 1 rfl) ?_
    refine m_iald (k := q) hx hb hK hP 5 0 rfl rfl (by omega) (by decide) dX3_tell_73 ?_
    exact ret (fLF q) () _ _ _ _ dX3_tell_74 (by simp [tellS, *]) (hP) (hD) hS
  by_cases e1_5 : x = 5
  · refine lv_tableIn (tgt := 75) hx hb dX3_tell_1 (by rw [e1_5]; decide) (by rw [e1_5]; decide) (by rw [e1_5]; rfl) (by decide) ?_
    refine lv_aload_n hx hb dX3_tell_75 rfl (lv_at hl 0 rfl) ?_
    refine va_get (D := D) (ci := 3) (v := .ref aDY) (C := RX3) (T := TX3) (N := 11) hx hb hts inX3 hown hK hP 0 rfl rfl 4 (by decide) fl24 (fun _ h9 => h9) rfl dX3_tell_76 ?_
    refine lv_iload_n hx hb dX3_tell_79 rfl (lv_at hl 1 rfl) ?_
    refine m_iald (k := q) hx hb hK hP 6 0 rfl rfl (by omega) (by decide) dX3_tell_80 ?_
    exact ret (fDY q) () _ _ _ _ dX3_tell_81 (by simp [tellS, *]) (hP) (hD) hS
  refine lv_tableOut (tgt := 82) hx hb dX3_tell_1 (by have t0 := sw_ne (z := 0) (by decide) e1_0; have t1 := sw_ne (z := 1) (by decide) e1_1; have t2 := sw_ne (z := 2) (by decide) e1_2; have t3 := sw_ne (z := 3) (by decide) e1_3; have t4 := sw_ne (z := 4) (by decide) e1_4; have t5 := sw_ne (z := 5) (by decide) e1_5; omega) (by decide) ?_
  refine lv_aload_n hx hb dX3_tell_82 rfl (lv_at hl 0 rfl) ?_
  refine va_get (D := D) (ci := 3) (v := .ref aCP) (C := RX3) (T := TX3) (N := 11) hx hb hts inX3 hown hK hP 0 rfl rfl 5 (by decide) fl27 (fun _ h9 => h9) rfl dX3_tell_83 ?_
  refine lv_iload_n hx hb dX3_tell_86 rfl (lv_at hl 1 rfl) ?_
  refine m_zald (k := q) hx hb hK hP 7 1 rfl rfl (by omega) (by decide) dX3_tell_87 ?_
  refine lv_if_eq (tgt := 95) hx hb dX3_tell_88 (by decide) (fun c_88 => ?_) (fun c_88 => ?_)
  · skip
    refine lv_iconst (v := 0) hx hb dX3_tell_95 (by decide) ?_
    exact ret 0 () _ _ _ _ dX3_tell_96 (by simp [tellS, *]) (hP) (hD) hS
  · skip
    refine lv_iconst (v := 1) hx hb dX3_tell_91 (by decide) ?_
    refine lv_goto (tgt := 96) hx hb dX3_tell_92 (by decide) ?_
    exact ret 1 () _ _ _ _ dX3_tell_96 (by simp [tellS, *]) (hP) (hD) hS
abbrev r_c_X3_handOver : Room := { frames := 0, cells := 0, slots := 0, locals := 0 }
set_option maxHeartbeats 4000000 in
set_option maxRecDepth 100000 in
theorem c_X3_handOver (l : Launch) (D : va_G) (cI cZ : ClassId) (aP : Nat) (aTD : Nat) (aTC : Nat) (aTK : Nat) (aTR : Nat) (aDY : Nat) (aCP : Nat) (aDB : Nat) (aCR : Nat) (aRK : Nat) (aLF : Nat) (fDB : Nat → Int32) (fCR : Nat → Int32) (fLF : Nat → Int32) (np : Nat) (x : Int32) (y : Int32) (hnp : np ≤ 40) : MV l yX3_handOver wsX3_handOver r_c_X3_handOver D cI cZ [.ref aP, .int x, .int y] [ob aP 3 [.ref aTD, .ref aTC, .ref aTK, .ref aTR, .ref aDY, .ref aCP, .ref aDB, .ref aCR, .ref aRK, .ref aLF, .int (nI np)], ar cI aDB 40 fDB, ar cI aCR 40 fCR, ar cI aLF 40 fLF] (fun (u : (Nat → Int32) × (Nat → Int32) × (Nat → Int32)) => u.1 = fil (rep x y fDB) fDB np ∧ u.2.1 = fil (rep x y fCR) fCR np ∧ u.2.2 = fil (repL x y fDB fCR fLF) fLF np) (fun (u : (Nat → Int32) × (Nat → Int32) × (Nat → Int32)) => [ob aP 3 [.ref aTD, .ref aTC, .ref aTK, .ref aTR, .ref aDY, .ref aCP, .ref aDB, .ref aCR, .ref aRK, .ref aLF, .int (nI np)], ar cI aDB 40 u.1, ar cI aCR 40 u.2.1, ar cI aLF 40 u.2.2]) 0 0 := by
  refine MV.of (cc := cX3_handOver) (maxL := 4) (by decide) rfl (Nat.le_of_ble_eq_true rfl) ?_
  intro p e s m below meth c A Q hx hb hml hown hts hN hK hA ret hP hD hS ls hl hnm
  have hown : s.vm.findClass RX3 = some m.cls := hown
  have inX3 : ∀ w ∈ wsX30, w ∈ wsX3_handOver := by decide +kernel
  have fl31 := hts (.fieldLink RX3 31 "AdvanceBook$Papers" "debtors" "[I") (by decide +kernel)
  have fl34 := hts (.fieldLink RX3 34 "AdvanceBook$Papers" "creditors" "[I") (by decide +kernel)
  have fl40 := hts (.fieldLink RX3 40 "AdvanceBook$Papers" "lefts" "[I") (by decide +kernel)
  have fl43 := hts (.fieldLink RX3 43 "AdvanceBook$Papers" "size" "I") (by decide +kernel)
  have hP : va_P D vwCl [ob aP 3 [.ref aTD, .ref aTC, .ref aTK, .ref aTR, .ref aDY, .ref aCP, .ref aDB, .ref aCR, .ref aRK, .ref aLF, .int (nI np)], ar cI aDB 40 fDB, ar cI aCR 40 fCR, ar cI aLF 40 fLF] s.heap := hP
  have hD : va_D A [ob aP 3 [.ref aTD, .ref aTC, .ref aTK, .ref aTR, .ref aDY, .ref aCP, .ref aDB, .ref aCR, .ref aRK, .ref aLF, .int (nI np)], ar cI aDB 40 fDB, ar cI aCR 40 fCR, ar cI aLF 40 fLF] := hD
  have hl : lv_has ls 4 [(0, .ref aP), (1, .int x), (2, .int y)] := hl
  refine lv_iconst (v := 0) hx hb dX3_handOver_0 (by decide) ?_
  refine lv_istore_n (lv' := [(3, .int 0), (0, .ref aP), (1, .int x), (2, .int y)]) hx hb dX3_handOver_1 rfl hl (by decide) rfl (fun ls hl => ?_)
  have L_2 : ∀ (n : Nat) (k : Nat) (hDB : Nat → Int32) (hCR : Nat → Int32) (hLF : Nat → Int32), (np - k < n) → (k ≤ np) → (hDB = fil (rep x y fDB) fDB k) → (hCR = fil (rep x y fCR) fCR k) → (hLF = fil (repL x y fDB fCR fLF) fLF k) → ∀ (H : Heap) (locs : List Loc), va_P D vwCl [ob aP 3 [.ref aTD, .ref aTC, .ref aTK, .ref aTR, .ref aDY, .ref aCP, .ref aDB, .ref aCR, .ref aRK, .ref aLF, .int (nI np)], ar cI aDB 40 hDB, ar cI aCR 40 hCR, ar cI aLF 40 hLF] H → va_D A [ob aP 3 [.ref aTD, .ref aTC, .ref aTK, .ref aTR, .ref aDY, .ref aCP, .ref aDB, .ref aCR, .ref aRK, .ref aLF, .int (nI np)], ar cI aDB 40 hDB, ar cI aCR 40 hCR, ar cI aLF 40 hLF] → va_S A s.heap H locs → ∀ ls : Array Slot, lv_has ls 4 [(0, .ref aP), (1, .int x), (2, .int y), (3, .int (nI k))] → W p l e r_c_X3_handOver s m (([.ref aP, .int x, .int y] : List Value).toArray) below meth c H locs 0 0 Q (F0 m 2 ls []) := by
    intro n
    induction n with
    | zero => intro k hDB hCR hLF hfu; exact absurd hfu (Nat.not_lt_zero _)
    | succ n ih =>
      intro k hDB hCR hLF hfu hk h1 h2 h3 H locs hP hD hS ls hl
      have e1 := fil_at h1
      have e2 := fil_at h2
      have e3 := fil_at h3
      refine lv_iload_n hx hb dX3_handOver_2 rfl (lv_at hl 3 rfl) ?_
      refine lv_aload_n hx hb dX3_handOver_3 rfl (lv_at hl 0 rfl) ?_
      refine va_get (D := D) (ci := 3) (v := .int (nI np)) (C := RX3) (T := TX3) (N := 11) hx hb hts inX3 hown hK hP 0 rfl rfl 10 (by decide) fl43 (fun _ h9 => h9) rfl dX3_handOver_4 ?_
      refine lv_icmp_ge (tgt := 72) hx hb dX3_handOver_7 (by decide) (fun c_7 => ?_) (fun c_7 => ?_)
      · skip
        have k_7 : np ≤ k := (nI_leI (a := np) (b := k) (by omega) (by omega)).mp c_7
        exact ret (hDB, hCR, hLF) _ _ _ _ dX3_handOver_72 (by have e : k = np := (by omega); subst e; exact ⟨h1, h2, h3⟩) (hP) (hD) hS
      · skip
        have k_7 : ¬ np ≤ k := fun h9 => c_7 ((nI_leI (a := np) (b := k) (by omega) (by omega)).mpr h9)
        refine lv_aload_n hx hb dX3_handOver_10 rfl (lv_at hl 0 rfl) ?_
        refine va_get (D := D) (ci := 3) (v := .ref aDB) (C := RX3) (T := TX3) (N := 11) hx hb hts inX3 hown hK hP 0 rfl rfl 6 (by decide) fl31 (fun _ h9 => h9) rfl dX3_handOver_11 ?_
        refine lv_iload_n hx hb dX3_handOver_14 rfl (lv_at hl 3 rfl) ?_
        refine m_iald (k := k) hx hb hK hP 1 0 rfl rfl (by omega) (by decide) dX3_handOver_15 ?_
        refine lv_iload_n hx hb dX3_handOver_16 rfl (lv_at hl 1 rfl) ?_
        refine lv_icmp_ne (tgt := 27) hx hb dX3_handOver_17 (by decide) (fun c_17 => ?_) (fun c_17 => ?_)
        · skip
          refine lv_aload_n hx hb dX3_handOver_27 rfl (lv_at hl 0 rfl) ?_
          refine va_get (D := D) (ci := 3) (v := .ref aCR) (C := RX3) (T := TX3) (N := 11) hx hb hts inX3 hown hK hP 0 rfl rfl 7 (by decide) fl34 (fun _ h9 => h9) rfl dX3_handOver_28 ?_
          refine lv_iload_n hx hb dX3_handOver_31 rfl (lv_at hl 3 rfl) ?_
          refine m_iald (k := k) hx hb hK hP 2 0 rfl rfl (by omega) (by decide) dX3_handOver_32 ?_
          refine lv_iload_n hx hb dX3_handOver_33 rfl (lv_at hl 1 rfl) ?_
          refine lv_icmp_ne (tgt := 44) hx hb dX3_handOver_34 (by decide) (fun c_34 => ?_) (fun c_34 => ?_)
          · skip
            refine lv_aload_n hx hb dX3_handOver_44 rfl (lv_at hl 0 rfl) ?_
            refine va_get (D := D) (ci := 3) (v := .ref aDB) (C := RX3) (T := TX3) (N := 11) hx hb hts inX3 hown hK hP 0 rfl rfl 6 (by decide) fl31 (fun _ h9 => h9) rfl dX3_handOver_45 ?_
            refine lv_iload_n hx hb dX3_handOver_48 rfl (lv_at hl 3 rfl) ?_
            refine m_iald (k := k) hx hb hK hP 1 0 rfl rfl (by omega) (by decide) dX3_handOver_49 ?_
            refine lv_aload_n hx hb dX3_handOver_50 rfl (lv_at hl 0 rfl) ?_
            refine va_get (D := D) (ci := 3) (v := .ref aCR) (C := RX3) (T := TX3) (N := 11) hx hb hts inX3 hown hK hP 0 rfl rfl 7 (by decide) fl34 (fun _ h9 => h9) rfl dX3_handOver_51 ?_
            refine lv_iload_n hx hb dX3_handOver_54 rfl (lv_at hl 3 rfl) ?_
            refine m_iald (k := k) hx hb hK hP 2 0 rfl rfl (by omega) (by decide) dX3_handOver_55 ?_
            refine lv_icmp_ne (tgt := 66) hx hb dX3_handOver_56 (by decide) (fun c_56 => ?_) (fun c_56 => ?_)
            · skip
              refine lv_iinc (v := (nI (k + 1))) (lv' := [(3, .int (nI (k + 1))), (0, .ref aP), (1, .int x), (2, .int y)]) hx hb dX3_handOver_66 hl (k := 3) rfl (nI_inc k 1 (by decide)) (by decide) rfl (fun ls hl => ?_)
              refine lv_goto (tgt := 2) hx hb dX3_handOver_69 (by decide) ?_
              exact ih (k + 1) hDB hCR hLF (by omega) (by omega) (by first | exact fil_step h1 (by simp_all [rep, upd]) | exact fil_skip h1 (by simp_all [rep, upd])) (by first | exact fil_step h2 (by simp_all [rep, upd]) | exact fil_skip h2 (by simp_all [rep, upd])) (by first | exact fil_step h3 (by simp_all [rep, repL, upd]) | exact fil_skip h3 (by simp_all [rep, repL, upd])) _ _ (hP) (hD) hS ls (lv_sub hl [1, 2, 3, 0] rfl)
            · skip
              refine lv_aload_n hx hb dX3_handOver_59 rfl (lv_at hl 0 rfl) ?_
              refine va_get (D := D) (ci := 3) (v := .ref aLF) (C := RX3) (T := TX3) (N := 11) hx hb hts inX3 hown hK hP 0 rfl rfl 9 (by decide) fl40 (fun _ h9 => h9) rfl dX3_handOver_60 ?_
              refine lv_iload_n hx hb dX3_handOver_63 rfl (lv_at hl 3 rfl) ?_
              refine lv_iconst (v := 0) hx hb dX3_handOver_64 (by decide) ?_
              refine m_iast (k := k) (x := 0) hx hb hK hP hD hS 3 0 rfl rfl (by omega) (by decide) dX3_handOver_65 (fun H locs hP hD hS => ?_)
              have hP : va_P D vwCl [ob aP 3 [.ref aTD, .ref aTC, .ref aTK, .ref aTR, .ref aDY, .ref aCP, .ref aDB, .ref aCR, .ref aRK, .ref aLF, .int (nI np)], ar cI aDB 40 hDB, ar cI aCR 40 hCR, ar cI aLF 40 (upd hLF k 0)] H := hP
              have hD : va_D A [ob aP 3 [.ref aTD, .ref aTC, .ref aTK, .ref aTR, .ref aDY, .ref aCP, .ref aDB, .ref aCR, .ref aRK, .ref aLF, .int (nI np)], ar cI aDB 40 hDB, ar cI aCR 40 hCR, ar cI aLF 40 (upd hLF k 0)] := hD
              refine lv_iinc (v := (nI (k + 1))) (lv' := [(3, .int (nI (k + 1))), (0, .ref aP), (1, .int x), (2, .int y)]) hx hb dX3_handOver_66 hl (k := 3) rfl (nI_inc k 1 (by decide)) (by decide) rfl (fun ls hl => ?_)
              refine lv_goto (tgt := 2) hx hb dX3_handOver_69 (by decide) ?_
              exact ih (k + 1) hDB hCR (upd hLF k 0) (by omega) (by omega) (by first | exact fil_step h1 (by simp_all [rep, upd]) | exact fil_skip h1 (by simp_all [rep, upd])) (by first | exact fil_step h2 (by simp_all [rep, upd]) | exact fil_skip h2 (by simp_all [rep, upd])) (by first | exact fil_step h3 (by simp_all [rep, repL, upd]) | exact fil_skip h3 (by simp_all [rep, repL, upd])) _ _ (hP) (hD) hS ls (lv_sub hl [1, 2, 3, 0] rfl)
          · skip
            refine lv_aload_n hx hb dX3_handOver_37 rfl (lv_at hl 0 rfl) ?_
            refine va_get (D := D) (ci := 3) (v := .ref aCR) (C := RX3) (T := TX3) (N := 11) hx hb hts inX3 hown hK hP 0 rfl rfl 7 (by decide) fl34 (fun _ h9 => h9) rfl dX3_handOver_38 ?_
            refine lv_iload_n hx hb dX3_handOver_41 rfl (lv_at hl 3 rfl) ?_
            refine lv_iload_n hx hb dX3_handOver_42 rfl (lv_at hl 2 rfl) ?_
            refine m_iast (k := k) (x := y) hx hb hK hP hD hS 2 0 rfl rfl (by omega) (by decide) dX3_handOver_43 (fun H locs hP hD hS => ?_)
            have hP : va_P D vwCl [ob aP 3 [.ref aTD, .ref aTC, .ref aTK, .ref aTR, .ref aDY, .ref aCP, .ref aDB, .ref aCR, .ref aRK, .ref aLF, .int (nI np)], ar cI aDB 40 hDB, ar cI aCR 40 (upd hCR k y), ar cI aLF 40 hLF] H := hP
            have hD : va_D A [ob aP 3 [.ref aTD, .ref aTC, .ref aTK, .ref aTR, .ref aDY, .ref aCP, .ref aDB, .ref aCR, .ref aRK, .ref aLF, .int (nI np)], ar cI aDB 40 hDB, ar cI aCR 40 (upd hCR k y), ar cI aLF 40 hLF] := hD
            refine lv_aload_n hx hb dX3_handOver_44 rfl (lv_at hl 0 rfl) ?_
            refine va_get (D := D) (ci := 3) (v := .ref aDB) (C := RX3) (T := TX3) (N := 11) hx hb hts inX3 hown hK hP 0 rfl rfl 6 (by decide) fl31 (fun _ h9 => h9) rfl dX3_handOver_45 ?_
            refine lv_iload_n hx hb dX3_handOver_48 rfl (lv_at hl 3 rfl) ?_
            refine m_iald (k := k) hx hb hK hP 1 0 rfl rfl (by omega) (by decide) dX3_handOver_49 ?_
            refine lv_aload_n hx hb dX3_handOver_50 rfl (lv_at hl 0 rfl) ?_
            refine va_get (D := D) (ci := 3) (v := .ref aCR) (C := RX3) (T := TX3) (N := 11) hx hb hts inX3 hown hK hP 0 rfl rfl 7 (by decide) fl34 (fun _ h9 => h9) rfl dX3_handOver_51 ?_
            refine lv_iload_n hx hb dX3_handOver_54 rfl (lv_at hl 3 rfl) ?_
            refine m_iald (k := k) hx hb hK hP 2 0 rfl rfl (by omega) (by decide) dX3_handOver_55 ?_
            refine lv_icmp_ne (tgt := 66) hx hb dX3_handOver_56 (by decide) (fun c_56 => ?_) (fun c_56 => ?_)
            · skip
              refine lv_iinc (v := (nI (k + 1))) (lv' := [(3, .int (nI (k + 1))), (0, .ref aP), (1, .int x), (2, .int y)]) hx hb dX3_handOver_66 hl (k := 3) rfl (nI_inc k 1 (by decide)) (by decide) rfl (fun ls hl => ?_)
              refine lv_goto (tgt := 2) hx hb dX3_handOver_69 (by decide) ?_
              exact ih (k + 1) hDB (upd hCR k y) hLF (by omega) (by omega) (by first | exact fil_step h1 (by simp_all [rep, upd]) | exact fil_skip h1 (by simp_all [rep, upd])) (by first | exact fil_step h2 (by simp_all [rep, upd]) | exact fil_skip h2 (by simp_all [rep, upd])) (by first | exact fil_step h3 (by simp_all [rep, repL, upd]) | exact fil_skip h3 (by simp_all [rep, repL, upd])) _ _ (hP) (hD) hS ls (lv_sub hl [1, 2, 3, 0] rfl)
            · skip
              refine lv_aload_n hx hb dX3_handOver_59 rfl (lv_at hl 0 rfl) ?_
              refine va_get (D := D) (ci := 3) (v := .ref aLF) (C := RX3) (T := TX3) (N := 11) hx hb hts inX3 hown hK hP 0 rfl rfl 9 (by decide) fl40 (fun _ h9 => h9) rfl dX3_handOver_60 ?_
              refine lv_iload_n hx hb dX3_handOver_63 rfl (lv_at hl 3 rfl) ?_
              refine lv_iconst (v := 0) hx hb dX3_handOver_64 (by decide) ?_
              refine m_iast (k := k) (x := 0) hx hb hK hP hD hS 3 0 rfl rfl (by omega) (by decide) dX3_handOver_65 (fun H locs hP hD hS => ?_)
              have hP : va_P D vwCl [ob aP 3 [.ref aTD, .ref aTC, .ref aTK, .ref aTR, .ref aDY, .ref aCP, .ref aDB, .ref aCR, .ref aRK, .ref aLF, .int (nI np)], ar cI aDB 40 hDB, ar cI aCR 40 (upd hCR k y), ar cI aLF 40 (upd hLF k 0)] H := hP
              have hD : va_D A [ob aP 3 [.ref aTD, .ref aTC, .ref aTK, .ref aTR, .ref aDY, .ref aCP, .ref aDB, .ref aCR, .ref aRK, .ref aLF, .int (nI np)], ar cI aDB 40 hDB, ar cI aCR 40 (upd hCR k y), ar cI aLF 40 (upd hLF k 0)] := hD
              refine lv_iinc (v := (nI (k + 1))) (lv' := [(3, .int (nI (k + 1))), (0, .ref aP), (1, .int x), (2, .int y)]) hx hb dX3_handOver_66 hl (k := 3) rfl (nI_inc k 1 (by decide)) (by decide) rfl (fun ls hl => ?_)
              refine lv_goto (tgt := 2) hx hb dX3_handOver_69 (by decide) ?_
              exact ih (k + 1) hDB (upd hCR k y) (upd hLF k 0) (by omega) (by omega) (by first | exact fil_step h1 (by simp_all [rep, upd]) | exact fil_skip h1 (by simp_all [rep, upd])) (by first | exact fil_step h2 (by simp_all [rep, upd]) | exact fil_skip h2 (by simp_all [rep, upd])) (by first | exact fil_step h3 (by simp_all [rep, repL, upd]) | exact fil_skip h3 (by simp_all [rep, repL, upd])) _ _ (hP) (hD) hS ls (lv_sub hl [1, 2, 3, 0] rfl)
        · skip
          refine lv_aload_n hx hb dX3_handOver_20 rfl (lv_at hl 0 rfl) ?_
          refine va_get (D := D) (ci := 3) (v := .ref aDB) (C := RX3) (T := TX3) (N := 11) hx hb hts inX3 hown hK hP 0 rfl rfl 6 (by decide) fl31 (fun _ h9 => h9) rfl dX3_handOver_21 ?_
          refine lv_iload_n hx hb dX3_handOver_24 rfl (lv_at hl 3 rfl) ?_
          refine lv_iload_n hx hb dX3_handOver_25 rfl (lv_at hl 2 rfl) ?_
          refine m_iast (k := k) (x := y) hx hb hK hP hD hS 1 0 rfl rfl (by omega) (by decide) dX3_handOver_26 (fun H locs hP hD hS => ?_)
          have hP : va_P D vwCl [ob aP 3 [.ref aTD, .ref aTC, .ref aTK, .ref aTR, .ref aDY, .ref aCP, .ref aDB, .ref aCR, .ref aRK, .ref aLF, .int (nI np)], ar cI aDB 40 (upd hDB k y), ar cI aCR 40 hCR, ar cI aLF 40 hLF] H := hP
          have hD : va_D A [ob aP 3 [.ref aTD, .ref aTC, .ref aTK, .ref aTR, .ref aDY, .ref aCP, .ref aDB, .ref aCR, .ref aRK, .ref aLF, .int (nI np)], ar cI aDB 40 (upd hDB k y), ar cI aCR 40 hCR, ar cI aLF 40 hLF] := hD
          refine lv_aload_n hx hb dX3_handOver_27 rfl (lv_at hl 0 rfl) ?_
          refine va_get (D := D) (ci := 3) (v := .ref aCR) (C := RX3) (T := TX3) (N := 11) hx hb hts inX3 hown hK hP 0 rfl rfl 7 (by decide) fl34 (fun _ h9 => h9) rfl dX3_handOver_28 ?_
          refine lv_iload_n hx hb dX3_handOver_31 rfl (lv_at hl 3 rfl) ?_
          refine m_iald (k := k) hx hb hK hP 2 0 rfl rfl (by omega) (by decide) dX3_handOver_32 ?_
          refine lv_iload_n hx hb dX3_handOver_33 rfl (lv_at hl 1 rfl) ?_
          refine lv_icmp_ne (tgt := 44) hx hb dX3_handOver_34 (by decide) (fun c_34 => ?_) (fun c_34 => ?_)
          · skip
            refine lv_aload_n hx hb dX3_handOver_44 rfl (lv_at hl 0 rfl) ?_
            refine va_get (D := D) (ci := 3) (v := .ref aDB) (C := RX3) (T := TX3) (N := 11) hx hb hts inX3 hown hK hP 0 rfl rfl 6 (by decide) fl31 (fun _ h9 => h9) rfl dX3_handOver_45 ?_
            refine lv_iload_n hx hb dX3_handOver_48 rfl (lv_at hl 3 rfl) ?_
            refine m_iald (k := k) hx hb hK hP 1 0 rfl rfl (by omega) (by decide) dX3_handOver_49 ?_
            refine lv_aload_n hx hb dX3_handOver_50 rfl (lv_at hl 0 rfl) ?_
            refine va_get (D := D) (ci := 3) (v := .ref aCR) (C := RX3) (T := TX3) (N := 11) hx hb hts inX3 hown hK hP 0 rfl rfl 7 (by decide) fl34 (fun _ h9 => h9) rfl dX3_handOver_51 ?_
            refine lv_iload_n hx hb dX3_handOver_54 rfl (lv_at hl 3 rfl) ?_
            refine m_iald (k := k) hx hb hK hP 2 0 rfl rfl (by omega) (by decide) dX3_handOver_55 ?_
            refine lv_icmp_ne (tgt := 66) hx hb dX3_handOver_56 (by decide) (fun c_56 => ?_) (fun c_56 => ?_)
            · skip
              refine lv_iinc (v := (nI (k + 1))) (lv' := [(3, .int (nI (k + 1))), (0, .ref aP), (1, .int x), (2, .int y)]) hx hb dX3_handOver_66 hl (k := 3) rfl (nI_inc k 1 (by decide)) (by decide) rfl (fun ls hl => ?_)
              refine lv_goto (tgt := 2) hx hb dX3_handOver_69 (by decide) ?_
              exact ih (k + 1) (upd hDB k y) hCR hLF (by omega) (by omega) (by first | exact fil_step h1 (by simp_all [rep, upd]) | exact fil_skip h1 (by simp_all [rep, upd])) (by first | exact fil_step h2 (by simp_all [rep, upd]) | exact fil_skip h2 (by simp_all [rep, upd])) (by first | exact fil_step h3 (by simp_all [rep, repL, upd]) | exact fil_skip h3 (by simp_all [rep, repL, upd])) _ _ (hP) (hD) hS ls (lv_sub hl [1, 2, 3, 0] rfl)
            · skip
              refine lv_aload_n hx hb dX3_handOver_59 rfl (lv_at hl 0 rfl) ?_
              refine va_get (D := D) (ci := 3) (v := .ref aLF) (C := RX3) (T := TX3) (N := 11) hx hb hts inX3 hown hK hP 0 rfl rfl 9 (by decide) fl40 (fun _ h9 => h9) rfl dX3_handOver_60 ?_
              refine lv_iload_n hx hb dX3_handOver_63 rfl (lv_at hl 3 rfl) ?_
              refine lv_iconst (v := 0) hx hb dX3_handOver_64 (by decide) ?_
              refine m_iast (k := k) (x := 0) hx hb hK hP hD hS 3 0 rfl rfl (by omega) (by decide) dX3_handOver_65 (fun H locs hP hD hS => ?_)
              have hP : va_P D vwCl [ob aP 3 [.ref aTD, .ref aTC, .ref aTK, .ref aTR, .ref aDY, .ref aCP, .ref aDB, .ref aCR, .ref aRK, .ref aLF, .int (nI np)], ar cI aDB 40 (upd hDB k y), ar cI aCR 40 hCR, ar cI aLF 40 (upd hLF k 0)] H := hP
              have hD : va_D A [ob aP 3 [.ref aTD, .ref aTC, .ref aTK, .ref aTR, .ref aDY, .ref aCP, .ref aDB, .ref aCR, .ref aRK, .ref aLF, .int (nI np)], ar cI aDB 40 (upd hDB k y), ar cI aCR 40 hCR, ar cI aLF 40 (upd hLF k 0)] := hD
              refine lv_iinc (v := (nI (k + 1))) (lv' := [(3, .int (nI (k + 1))), (0, .ref aP), (1, .int x), (2, .int y)]) hx hb dX3_handOver_66 hl (k := 3) rfl (nI_inc k 1 (by decide)) (by decide) rfl (fun ls hl => ?_)
              refine lv_goto (tgt := 2) hx hb dX3_handOver_69 (by decide) ?_
              exact ih (k + 1) (upd hDB k y) hCR (upd hLF k 0) (by omega) (by omega) (by first | exact fil_step h1 (by simp_all [rep, upd]) | exact fil_skip h1 (by simp_all [rep, upd])) (by first | exact fil_step h2 (by simp_all [rep, upd]) | exact fil_skip h2 (by simp_all [rep, upd])) (by first | exact fil_step h3 (by simp_all [rep, repL, upd]) | exact fil_skip h3 (by simp_all [rep, repL, upd])) _ _ (hP) (hD) hS ls (lv_sub hl [1, 2, 3, 0] rfl)
          · skip
            refine lv_aload_n hx hb dX3_handOver_37 rfl (lv_at hl 0 rfl) ?_
            refine va_get (D := D) (ci := 3) (v := .ref aCR) (C := RX3) (T := TX3) (N := 11) hx hb hts inX3 hown hK hP 0 rfl rfl 7 (by decide) fl34 (fun _ h9 => h9) rfl dX3_handOver_38 ?_
            refine lv_iload_n hx hb dX3_handOver_41 rfl (lv_at hl 3 rfl) ?_
            refine lv_iload_n hx hb dX3_handOver_42 rfl (lv_at hl 2 rfl) ?_
            refine m_iast (k := k) (x := y) hx hb hK hP hD hS 2 0 rfl rfl (by omega) (by decide) dX3_handOver_43 (fun H locs hP hD hS => ?_)
            have hP : va_P D vwCl [ob aP 3 [.ref aTD, .ref aTC, .ref aTK, .ref aTR, .ref aDY, .ref aCP, .ref aDB, .ref aCR, .ref aRK, .ref aLF, .int (nI np)], ar cI aDB 40 (upd hDB k y), ar cI aCR 40 (upd hCR k y), ar cI aLF 40 hLF] H := hP
            have hD : va_D A [ob aP 3 [.ref aTD, .ref aTC, .ref aTK, .ref aTR, .ref aDY, .ref aCP, .ref aDB, .ref aCR, .ref aRK, .ref aLF, .int (nI np)], ar cI aDB 40 (upd hDB k y), ar cI aCR 40 (upd hCR k y), ar cI aLF 40 hLF] := hD
            refine lv_aload_n hx hb dX3_handOver_44 rfl (lv_at hl 0 rfl) ?_
            refine va_get (D := D) (ci := 3) (v := .ref aDB) (C := RX3) (T := TX3) (N := 11) hx hb hts inX3 hown hK hP 0 rfl rfl 6 (by decide) fl31 (fun _ h9 => h9) rfl dX3_handOver_45 ?_
            refine lv_iload_n hx hb dX3_handOver_48 rfl (lv_at hl 3 rfl) ?_
            refine m_iald (k := k) hx hb hK hP 1 0 rfl rfl (by omega) (by decide) dX3_handOver_49 ?_
            refine lv_aload_n hx hb dX3_handOver_50 rfl (lv_at hl 0 rfl) ?_
            refine va_get (D := D) (ci := 3) (v := .ref aCR) (C := RX3) (T := TX3) (N := 11) hx hb hts inX3 hown hK hP 0 rfl rfl 7 (by decide) fl34 (fun _ h9 => h9) rfl dX3_handOver_51 ?_
            refine lv_iload_n hx hb dX3_handOver_54 rfl (lv_at hl 3 rfl) ?_
            refine m_iald (k := k) hx hb hK hP 2 0 rfl rfl (by omega) (by decide) dX3_handOver_55 ?_
            refine lv_icmp_ne (tgt := 66) hx hb dX3_handOver_56 (by decide) (fun c_56 => ?_) (fun c_56 => ?_)
            · skip
              refine lv_iinc (v := (nI (k + 1))) (lv' := [(3, .int (nI (k + 1))), (0, .ref aP), (1, .int x), (2, .int y)]) hx hb dX3_handOver_66 hl (k := 3) rfl (nI_inc k 1 (by decide)) (by decide) rfl (fun ls hl => ?_)
              refine lv_goto (tgt := 2) hx hb dX3_handOver_69 (by decide) ?_
              exact ih (k + 1) (upd hDB k y) (upd hCR k y) hLF (by omega) (by omega) (by first | exact fil_step h1 (by simp_all [rep, upd]) | exact fil_skip h1 (by simp_all [rep, upd])) (by first | exact fil_step h2 (by simp_all [rep, upd]) | exact fil_skip h2 (by simp_all [rep, upd])) (by first | exact fil_step h3 (by simp_all [rep, repL, upd]) | exact fil_skip h3 (by simp_all [rep, repL, upd])) _ _ (hP) (hD) hS ls (lv_sub hl [1, 2, 3, 0] rfl)
            · skip
              refine lv_aload_n hx hb dX3_handOver_59 rfl (lv_at hl 0 rfl) ?_
              refine va_get (D := D) (ci := 3) (v := .ref aLF) (C := RX3) (T := TX3) (N := 11) hx hb hts inX3 hown hK hP 0 rfl rfl 9 (by decide) fl40 (fun _ h9 => h9) rfl dX3_handOver_60 ?_
              refine lv_iload_n hx hb dX3_handOver_63 rfl (lv_at hl 3 rfl) ?_
              refine lv_iconst (v := 0) hx hb dX3_handOver_64 (by decide) ?_
              refine m_iast (k := k) (x := 0) hx hb hK hP hD hS 3 0 rfl rfl (by omega) (by decide) dX3_handOver_65 (fun H locs hP hD hS => ?_)
              have hP : va_P D vwCl [ob aP 3 [.ref aTD, .ref aTC, .ref aTK, .ref aTR, .ref aDY, .ref aCP, .ref aDB, .ref aCR, .ref aRK, .ref aLF, .int (nI np)], ar cI aDB 40 (upd hDB k y), ar cI aCR 40 (upd hCR k y), ar cI aLF 40 (upd hLF k 0)] H := hP
              have hD : va_D A [ob aP 3 [.ref aTD, .ref aTC, .ref aTK, .ref aTR, .ref aDY, .ref aCP, .ref aDB, .ref aCR, .ref aRK, .ref aLF, .int (nI np)], ar cI aDB 40 (upd hDB k y), ar cI aCR 40 (upd hCR k y), ar cI aLF 40 (upd hLF k 0)] := hD
              refine lv_iinc (v := (nI (k + 1))) (lv' := [(3, .int (nI (k + 1))), (0, .ref aP), (1, .int x), (2, .int y)]) hx hb dX3_handOver_66 hl (k := 3) rfl (nI_inc k 1 (by decide)) (by decide) rfl (fun ls hl => ?_)
              refine lv_goto (tgt := 2) hx hb dX3_handOver_69 (by decide) ?_
              exact ih (k + 1) (upd hDB k y) (upd hCR k y) (upd hLF k 0) (by omega) (by omega) (by first | exact fil_step h1 (by simp_all [rep, upd]) | exact fil_skip h1 (by simp_all [rep, upd])) (by first | exact fil_step h2 (by simp_all [rep, upd]) | exact fil_skip h2 (by simp_all [rep, upd])) (by first | exact fil_step h3 (by simp_all [rep, repL, upd]) | exact fil_skip h3 (by simp_all [rep, repL, upd])) _ _ (hP) (hD) hS ls (lv_sub hl [1, 2, 3, 0] rfl)
  exact L_2 ((np - 0) + 1) 0 fDB fCR fLF (Nat.lt_succ_self _) (by omega) (fil_0.symm) (fil_0.symm) (fil_0.symm) _ _ (hP) (hD) hS ls (lv_sub hl [1, 2, 3, 0] rfl)
end
section
/-- a DECREE: what it makes of what is left of a paper, and of its rank -/
def dLeft (cu : Nat → Int32) (sp bf lf rk dy : Int32) : Int32 :=
  if ((bf = -1 ∨ dy < bf) ∧ ¬ cu (ix rk) = -1) ∧ 0 < (if sp = -1 then lf else lf - sp) then lf - (if sp = -1 then lf else lf - sp) * cu (ix rk) / 100 else lf
def dRank (mv : Nat → Int32) (bf rk dy : Int32) : Int32 :=
  if (bf = -1 ∨ dy < bf) ∧ ¬ mv (ix rk) = -1 then mv (ix rk) else rk
/-- how much less is left, of the first papers -/
def lessS (cu : Nat → Int32) (sp bf : Int32) (lf rk dy : Nat → Int32) : Nat → Int32
  | 0 => 0
  | n + 1 => lessS cu sp bf lf rk dy n + (lf n - dLeft cu sp bf (lf n) (rk n) (dy n))
/-- the j-th byte of a number, the highest first -/
def byteOf (x : Int32) (j : Nat) : Int32 := (x.toUInt32 >>> ((nI (24 - 8 * j)).toUInt32 &&& Int32.toUInt32 31)).toInt32 &&& 255
def put4 (f : Nat → Int32) (t : Nat) (x : Int32) : Nat → Int32 := upd (upd (upd (upd f t (byteOf x 0)) (t + 1) (byteOf x 1)) (t + 1 + 1) (byteOf x 2)) (t + 1 + 1 + 1) (byteOf x 3)

abbrev r_c_J7_fill_53178 : Room := { frames := 0, cells := 0, slots := 0, locals := 0 }
set_option maxHeartbeats 4000000 in
set_option maxRecDepth 100000 in
theorem c_J7_fill_53178 (l : Launch) (D : va_G) (cI cZ : ClassId) (aA : Nat) (f : Nat → Int32) (v : Int32)  : MV l yJ7_fill_53178 wsJ7_fill_53178 r_c_J7_fill_53178 D cI cZ [.ref aA, .int v] [ar cI aA 4 f] (fun (u : (Nat → Int32)) => u = fil (fun _ => v) f 4) (fun (u : (Nat → Int32)) => [ar cI aA 4 u]) 0 0 := by
  refine MV.of (cc := cJ7_fill_53178) (maxL := 4) (by decide) rfl (Nat.le_of_ble_eq_true rfl) ?_
  intro p e s m below meth c A Q hx hb hml hown hts hN hK hA ret hP hD hS ls hl hnm
  have hown : s.vm.findClass RJ7 = some m.cls := hown
  have hP : va_P D vwCl [ar cI aA 4 f] s.heap := hP
  have hD : va_D A [ar cI aA 4 f] := hD
  have hl : lv_has ls 4 [(0, .ref aA), (1, .int v)] := hl
  refine lv_iconst (v := 0) hx hb dJ7_fill_53178_0 (by decide) ?_
  refine lv_istore_n (lv' := [(2, .int 0), (0, .ref aA), (1, .int v)]) hx hb dJ7_fill_53178_1 rfl hl (by decide) rfl (fun ls hl => ?_)
  refine lv_aload_n hx hb dJ7_fill_53178_2 rfl (lv_at hl 1 rfl) ?_
  refine va_alen (v := nI 4) hx hb hK hP 0 0 rfl rfl rfl dJ7_fill_53178_3 ?_
  refine lv_istore_n (lv' := [(3, .int (nI 4)), (2, .int 0), (0, .ref aA), (1, .int v)]) hx hb dJ7_fill_53178_4 rfl hl (by decide) rfl (fun ls hl => ?_)
  have L_5 : ∀ (n : Nat) (k : Nat) (h : Nat → Int32), (4 - k < n) → (k ≤ 4) → (h = fil (fun _ => v) f k) → ∀ (H : Heap) (locs : List Loc), va_P D vwCl [ar cI aA 4 h] H → va_D A [ar cI aA 4 h] → va_S A s.heap H locs → ∀ ls : Array Slot, lv_has ls 4 [(0, .ref aA), (1, .int v), (2, .int (nI k)), (3, .int (nI 4))] → W p l e r_c_J7_fill_53178 s m (([.ref aA, .int v] : List Value).toArray) below meth c H locs 0 0 Q (F0 m 5 ls []) := by
    intro n
    induction n with
    | zero => intro k h hfu; exact absurd hfu (Nat.not_lt_zero _)
    | succ n ih =>
      intro k h hfu hk hh H locs hP hD hS ls hl
      refine lv_iload_n hx hb dJ7_fill_53178_5 rfl (lv_at hl 2 rfl) ?_
      refine lv_iload_n hx hb dJ7_fill_53178_6 rfl (lv_at hl 3 rfl) ?_
      refine lv_icmp_ge (tgt := 20) hx hb dJ7_fill_53178_7 (by decide) (fun c_7 => ?_) (fun c_7 => ?_)
      · skip
        have k_7 : 4 ≤ k := (nI_leI (a := 4) (b := k) (by omega) (by omega)).mp c_7
        exact ret h _ _ _ _ dJ7_fill_53178_20 (by have e : k = 4 := (by omega); subst e; exact hh) (hP) (hD) hS
      · skip
        have k_7 : ¬ 4 ≤ k := fun h9 => c_7 ((nI_leI (a := 4) (b := k) (by omega) (by omega)).mpr h9)
        refine lv_aload_n hx hb dJ7_fill_53178_10 rfl (lv_at hl 0 rfl) ?_
        refine lv_iload_n hx hb dJ7_fill_53178_11 rfl (lv_at hl 2 rfl) ?_
        refine lv_iload_n hx hb dJ7_fill_53178_12 rfl (lv_at hl 1 rfl) ?_
        refine m_iast (k := k) (x := v) hx hb hK hP hD hS 0 0 rfl rfl (by omega) (by decide) dJ7_fill_53178_13 (fun H locs hP hD hS => ?_)
        have hP : va_P D vwCl [ar cI aA 4 (upd h k v)] H := hP
        have hD : va_D A [ar cI aA 4 (upd h k v)] := hD
        refine lv_iinc (v := (nI (k + 1))) (lv' := [(2, .int (nI (k + 1))), (0, .ref aA), (1, .int v), (3, .int (nI 4))]) hx hb dJ7_fill_53178_14 hl (k := 2) rfl (nI_inc k 1 (by decide)) (by decide) rfl (fun ls hl => ?_)
        refine lv_goto (tgt := 5) hx hb dJ7_fill_53178_17 (by decide) ?_
        exact ih (k + 1) (upd h k v) (by omega) (by omega) (fil_step hh rfl) _ _ (hP) (hD) hS ls (lv_sub hl [1, 2, 0, 3] rfl)
  exact L_5 ((4 - 0) + 1) 0 f (Nat.lt_succ_self _) (by omega) (fil_0.symm) _ _ (hP) (hD) hS ls (lv_sub hl [2, 3, 1, 0] rfl)
abbrev r_c_X2_empty : Room := { frames := 1, cells := 0, slots := 0, locals := 23 }
set_option maxHeartbeats 4000000 in
set_option maxRecDepth 100000 in
theorem c_X2_empty (l : Launch) (D : va_G) (cI cZ : ClassId) (aD : Nat) (aCU : Nat) (aMV : Nat) (fCU : Nat → Int32) (fMV : Nat → Int32) (sp : Int32) (bf : Int32) (ln : Int32)  : MV l yX2_empty wsX2_empty r_c_X2_empty D cI cZ [.ref aD] [ob aD 2 [.ref aCU, .ref aMV, .int sp, .int bf, .int ln], ar cI aCU 4 fCU, ar cI aMV 4 fMV] (fun (u : (Nat → Int32) × (Nat → Int32)) => u.1 = fil (fun _ => -1) fCU 4 ∧ u.2 = fil (fun _ => -1) fMV 4) (fun (u : (Nat → Int32) × (Nat → Int32)) => [ob aD 2 [.ref aCU, .ref aMV, .int (-1), .int (-1), .int 0], ar cI aCU 4 u.1, ar cI aMV 4 u.2]) 0 0 := by
  refine MV.of (cc := cX2_empty) (maxL := 1) (by decide) rfl (Nat.le_of_ble_eq_true rfl) ?_
  intro p e s m below meth c A Q hx hb hml hown hts hN hK hA ret hP hD hS ls hl hnm
  have hown : s.vm.findClass RX2 = some m.cls := hown
  have inX2 : ∀ w ∈ wsX20, w ∈ wsX2_empty := by decide +kernel
  have fl9 := hts (.fieldLink RX2 9 "AdvanceBook$Decree" "cuts" "[I") (by decide +kernel)
  have fl15 := hts (.fieldLink RX2 15 "AdvanceBook$Decree" "moves" "[I") (by decide +kernel)
  have fl27 := hts (.fieldLink RX2 27 "AdvanceBook$Decree" "spare" "I") (by decide +kernel)
  have fl31 := hts (.fieldLink RX2 31 "AdvanceBook$Decree" "before" "I") (by decide +kernel)
  have fl34 := hts (.fieldLink RX2 34 "AdvanceBook$Decree" "lines" "I") (by decide +kernel)
  have hP : va_P D vwCl [ob aD 2 [.ref aCU, .ref aMV, .int sp, .int bf, .int ln], ar cI aCU 4 fCU, ar cI aMV 4 fMV] s.heap := hP
  have hD : va_D A [ob aD 2 [.ref aCU, .ref aMV, .int sp, .int bf, .int ln], ar cI aCU 4 fCU, ar cI aMV 4 fMV] := hD
  have hl : lv_has ls 1 [(0, .ref aD)] := hl
  refine lv_aload_n hx hb dX2_empty_0 rfl (lv_at hl 0 rfl) ?_
  refine va_get (D := D) (ci := 2) (v := .ref aCU) (C := RX2) (T := TX2) (N := 5) hx hb hts inX2 hown hK hP 0 rfl rfl 0 (by decide) fl9 (fun _ h9 => h9) rfl dX2_empty_1 ?_
  refine lv_iconst (v := (-1)) hx hb dX2_empty_4 (by decide) ?_
  refine m_cSv (As := [.ref aCU, .int (-1)]) (rest := []) (wr := [ob aD 2 [.ref aCU, .ref aMV, .int sp, .int bf, .int ln], ar cI aMV 4 fMV]) ⟨hx, hb, hml, hown, hts⟩ (c_J7_fill_53178 l D cI cZ aCU fCU (-1) ) (va_cwS 2 hts gX2_empty_J7_fill_53178 rfl rfl rfl (by decide +kernel) ⟨Nat.le_of_ble_eq_true rfl, Nat.le_of_ble_eq_true rfl⟩) hN hK hP hD hS hA [1] [0, 2] rfl rfl (by decide) (by decide) (by decide) rfl hl.1 rfl (by decide) dX2_empty_5 ⟨Nat.le_of_ble_eq_true rfl, Nat.le_of_ble_eq_true rfl⟩ (fun u_5 H locs hq_5 hP hD hS => ?_)
  obtain ⟨g_5, rfl⟩ : ∃ z, z = u_5 := ⟨_, rfl⟩
  have hq_5 : g_5 = fil (fun _ => (-1)) fCU 4 := hq_5
  have hP : va_P D vwCl [ob aD 2 [.ref aCU, .ref aMV, .int sp, .int bf, .int ln], ar cI aMV 4 fMV, ar cI aCU 4 g_5] H := hP
  have hD : va_D A [ob aD 2 [.ref aCU, .ref aMV, .int sp, .int bf, .int ln], ar cI aMV 4 fMV, ar cI aCU 4 g_5] := hD
  refine lv_aload_n hx hb dX2_empty_8 rfl (lv_at hl 0 rfl) ?_
  refine va_get (D := D) (ci := 2) (v := .ref aMV) (C := RX2) (T := TX2) (N := 5) hx hb hts inX2 hown hK hP 0 rfl rfl 1 (by decide) fl15 (fun _ h9 => h9) rfl dX2_empty_9 ?_
  refine lv_iconst (v := (-1)) hx hb dX2_empty_12 (by decide) ?_
  refine m_cSv (As := [.ref aMV, .int (-1)]) (rest := []) (wr := [ob aD 2 [.ref aCU, .ref aMV, .int sp, .int bf, .int ln], ar cI aCU 4 g_5]) ⟨hx, hb, hml, hown, hts⟩ (c_J7_fill_53178 l D cI cZ aMV fMV (-1) ) (va_cwS 2 hts gX2_empty_J7_fill_53178 rfl rfl rfl (by decide +kernel) ⟨Nat.le_of_ble_eq_true rfl, Nat.le_of_ble_eq_true rfl⟩) hN hK hP hD hS hA [1] [0, 2] rfl rfl (by decide) (by decide) (by decide) rfl hl.1 rfl (by decide) dX2_empty_13 ⟨Nat.le_of_ble_eq_true rfl, Nat.le_of_ble_eq_true rfl⟩ (fun u_13 H locs hq_13 hP hD hS => ?_)
  obtain ⟨g_13, rfl⟩ : ∃ z, z = u_13 := ⟨_, rfl⟩
  have hq_13 : g_13 = fil (fun _ => (-1)) fMV 4 := hq_13
  have hP : va_P D vwCl [ob aD 2 [.ref aCU, .ref aMV, .int sp, .int bf, .int ln], ar cI aCU 4 g_5, ar cI aMV 4 g_13] H := hP
  have hD : va_D A [ob aD 2 [.ref aCU, .ref aMV, .int sp, .int bf, .int ln], ar cI aCU 4 g_5, ar cI aMV 4 g_13] := hD
  refine lv_aload_n hx hb dX2_empty_16 rfl (lv_at hl 0 rfl) ?_
  refine lv_iconst (v := (-1)) hx hb dX2_empty_17 (by decide) ?_
  refine va_put (D := D) (ci := 2) (v := .int (-1)) (ty := .int) (C := RX2) (T := TX2) (N := 5) hx hb hts inX2 tyX2 tyX2_ok nmX2 hown hK hP hD hS 0 rfl rfl 2 (by decide) fl27 (fun _ h9 => h9) rfl (by decide +kernel) (rfl) (rfl) (Nat.le_of_ble_eq_true rfl) dX2_empty_18 (fun H locs hP hD hS => ?_)
  have hP : va_P D vwCl [ob aD 2 [.ref aCU, .ref aMV, .int (-1), .int bf, .int ln], ar cI aCU 4 g_5, ar cI aMV 4 g_13] H := hP
  have hD : va_D A [ob aD 2 [.ref aCU, .ref aMV, .int (-1), .int bf, .int ln], ar cI aCU 4 g_5, ar cI aMV 4 g_13] := hD
  refine lv_aload_n hx hb dX2_empty_21 rfl (lv_at hl 0 rfl) ?_
  refine lv_iconst (v := (-1)) hx hb dX2_empty_22 (by decide) ?_
  refine va_put (D := D) (ci := 2) (v := .int (-1)) (ty := .int) (C := RX2) (T := TX2) (N := 5) hx hb hts inX2 tyX2 tyX2_ok nmX2 hown hK hP hD hS 0 rfl rfl 3 (by decide) fl31 (fun _ h9 => h9) rfl (by decide +kernel) (rfl) (rfl) (Nat.le_of_ble_eq_true rfl) dX2_empty_23 (fun H locs hP hD hS => ?_)
  have hP : va_P D vwCl [ob aD 2 [.ref aCU, .ref aMV, .int (-1), .int (-1), .int ln], ar cI aCU 4 g_5, ar cI aMV 4 g_13] H := hP
  have hD : va_D A [ob aD 2 [.ref aCU, .ref aMV, .int (-1), .int (-1), .int ln], ar cI aCU 4 g_5, ar cI aMV 4 g_13] := hD
  refine lv_aload_n hx hb dX2_empty_26 rfl (lv_at hl 0 rfl) ?_
  refine lv_iconst (v := 0) hx hb dX2_empty_27 (by decide) ?_
  refine va_put (D := D) (ci := 2) (v := .int 0) (ty := .int) (C := RX2) (T := TX2) (N := 5) hx hb hts inX2 tyX2 tyX2_ok nmX2 hown hK hP hD hS 0 rfl rfl 4 (by decide) fl34 (fun _ h9 => h9) rfl (by decide +kernel) (rfl) (rfl) (Nat.le_of_ble_eq_true rfl) dX2_empty_28 (fun H locs hP hD hS => ?_)
  have hP : va_P D vwCl [ob aD 2 [.ref aCU, .ref aMV, .int (-1), .int (-1), .int 0], ar cI aCU 4 g_5, ar cI aMV 4 g_13] H := hP
  have hD : va_D A [ob aD 2 [.ref aCU, .ref aMV, .int (-1), .int (-1), .int 0], ar cI aCU 4 g_5, ar cI aMV 4 g_13] := hD
  exact ret (g_5, g_13) _ _ _ _ dX2_empty_31 (⟨hq_5, hq_13⟩) (hP) (hD) hS
abbrev r_c_X2_reaches : Room := { frames := 0, cells := 0, slots := 0, locals := 0 }
set_option maxHeartbeats 4000000 in
set_option maxRecDepth 100000 in
theorem c_X2_reaches (l : Launch) (D : va_G) (cI cZ : ClassId) (aD : Nat) (aCU : Nat) (aMV : Nat) (sp : Int32) (bf : Int32) (ln : Int32) (x : Int32)  : MI l yX2_reaches wsX2_reaches r_c_X2_reaches D cI cZ [.ref aD, .int x] [ob aD 2 [.ref aCU, .ref aMV, .int sp, .int bf, .int ln]] (fun (r : Int32) (u : Unit) => r = if bf = -1 ∨ x < bf then 1 else 0) (fun (u : Unit) => [ob aD 2 [.ref aCU, .ref aMV, .int sp, .int bf, .int ln]]) 0 0 := by
  refine MI.ofZ (cc := cX2_reaches) (maxL := 2) (by decide) rfl (Nat.le_of_ble_eq_true rfl) ?_
  intro p e s m below meth c A Q hx hb hml hown hts hN hK hA ret hP hD hS ls hl
  have hown : s.vm.findClass RX2 = some m.cls := hown
  have inX2 : ∀ w ∈ wsX20, w ∈ wsX2_reaches := by decide +kernel
  have fl31 := hts (.fieldLink RX2 31 "AdvanceBook$Decree" "before" "I") (by decide +kernel)
  have hP : va_P D vwCl [ob aD 2 [.ref aCU, .ref aMV, .int sp, .int bf, .int ln]] s.heap := hP
  have hD : va_D A [ob aD 2 [.ref aCU, .ref aMV, .int sp, .int bf, .int ln]] := hD
  have hl : lv_has ls 2 [(0, .ref aD), (1, .int x)] := hl
  refine lv_aload_n hx hb dX2_reaches_0 rfl (lv_at hl 0 rfl) ?_
  refine va_get (D := D) (ci := 2) (v := .int bf) (C := RX2) (T := TX2) (N := 5) hx hb hts inX2 hown hK hP 0 rfl rfl 3 (by decide) fl31 (fun _ h9 => h9) rfl dX2_reaches_1 ?_
  refine lv_iconst (v := (-1)) hx hb dX2_reaches_4 (by decide) ?_
  refine lv_icmp_eq (tgt := 16) hx hb dX2_reaches_5 (by decide) (fun c_5 => ?_) (fun c_5 => ?_)
  · skip
    refine lv_iconst (v := 1) hx hb dX2_reaches_16 (by decide) ?_
    refine lv_goto (tgt := 21) hx hb dX2_reaches_17 (by decide) ?_
    exact ret 1 () _ _ _ _ dX2_reaches_21 (Or.inr rfl) (by grind) (hP) (hD) hS
  · skip
    refine lv_iload_n hx hb dX2_reaches_8 rfl (lv_at hl 1 rfl) ?_
    refine lv_aload_n hx hb dX2_reaches_9 rfl (lv_at hl 0 rfl) ?_
    refine va_get (D := D) (ci := 2) (v := .int bf) (C := RX2) (T := TX2) (N := 5) hx hb hts inX2 hown hK hP 0 rfl rfl 3 (by decide) fl31 (fun _ h9 => h9) rfl dX2_reaches_10 ?_
    refine lv_icmp_ge (tgt := 20) hx hb dX2_reaches_13 (by decide) (fun c_13 => ?_) (fun c_13 => ?_)
    · skip
      refine lv_iconst (v := 0) hx hb dX2_reaches_20 (by decide) ?_
      exact ret 0 () _ _ _ _ dX2_reaches_21 (Or.inl rfl) (by grind) (hP) (hD) hS
    · skip
      refine lv_iconst (v := 1) hx hb dX2_reaches_16 (by decide) ?_
      refine lv_goto (tgt := 21) hx hb dX2_reaches_17 (by decide) ?_
      exact ret 1 () _ _ _ _ dX2_reaches_21 (Or.inr rfl) (by grind) (hP) (hD) hS
abbrev r_c_X2_leftOf : Room := { frames := 1, cells := 0, slots := 0, locals := 21 }
set_option maxHeartbeats 4000000 in
set_option maxRecDepth 100000 in
theorem c_X2_leftOf (l : Launch) (D : va_G) (cI cZ : ClassId) (aD : Nat) (aCU : Nat) (aMV : Nat) (fCU : Nat → Int32) (sp : Int32) (bf : Int32) (ln : Int32) (x : Int32) (y : Int32) (z : Int32) (hy : vp_in y 4) : MI l yX2_leftOf wsX2_leftOf r_c_X2_leftOf D cI cZ [.ref aD, .int x, .int y, .int z] [ob aD 2 [.ref aCU, .ref aMV, .int sp, .int bf, .int ln], ar cI aCU 4 fCU] (fun (r : Int32) (u : Unit) => r = dLeft fCU sp bf x y z) (fun (u : Unit) => [ob aD 2 [.ref aCU, .ref aMV, .int sp, .int bf, .int ln], ar cI aCU 4 fCU]) 0 0 := by
  refine MI.of (cc := cX2_leftOf) (maxL := 5) (by decide) rfl (Nat.le_of_ble_eq_true rfl) ?_
  intro p e s m below meth c A Q hx hb hml hown hts hN hK hA ret hP hD hS ls hl
  have hown : s.vm.findClass RX2 = some m.cls := hown
  have inX2 : ∀ w ∈ wsX20, w ∈ wsX2_leftOf := by decide +kernel
  have fl9 := hts (.fieldLink RX2 9 "AdvanceBook$Decree" "cuts" "[I") (by decide +kernel)
  have fl27 := hts (.fieldLink RX2 27 "AdvanceBook$Decree" "spare" "I") (by decide +kernel)
  have hP : va_P D vwCl [ob aD 2 [.ref aCU, .ref aMV, .int sp, .int bf, .int ln], ar cI aCU 4 fCU] s.heap := hP
  have hD : va_D A [ob aD 2 [.ref aCU, .ref aMV, .int sp, .int bf, .int ln], ar cI aCU 4 fCU] := hD
  have hl : lv_has ls 5 [(0, .ref aD), (1, .int x), (2, .int y), (3, .int z)] := hl
  refine lv_aload_n hx hb dX2_leftOf_0 rfl (lv_at hl 0 rfl) ?_
  refine va_get (D := D) (ci := 2) (v := .int sp) (C := RX2) (T := TX2) (N := 5) hx hb hts inX2 hown hK hP 0 rfl rfl 2 (by decide) fl27 (fun _ h9 => h9) rfl dX2_leftOf_1 ?_
  refine lv_iconst (v := (-1)) hx hb dX2_leftOf_4 (by decide) ?_
  refine lv_icmp_ne (tgt := 12) hx hb dX2_leftOf_5 (by decide) (fun c_5 => ?_) (fun c_5 => ?_)
  · skip
    refine lv_iload_n hx hb dX2_leftOf_12 rfl (lv_at hl 1 rfl) ?_
    refine lv_aload_n hx hb dX2_leftOf_13 rfl (lv_at hl 0 rfl) ?_
    refine va_get (D := D) (ci := 2) (v := .int sp) (C := RX2) (T := TX2) (N := 5) hx hb hts inX2 hown hK hP 0 rfl rfl 2 (by decide) fl27 (fun _ h9 => h9) rfl dX2_leftOf_14 ?_
    refine lv_isub hx hb dX2_leftOf_17 ?_
    refine lv_istore (lv' := [(4, .int (x - sp)), (0, .ref aD), (1, .int x), (2, .int y), (3, .int z)]) hx hb dX2_leftOf_18 hl (by decide) rfl (fun ls hl => ?_)
    refine lv_aload_n hx hb dX2_leftOf_20 rfl (lv_at hl 1 rfl) ?_
    refine lv_iload_n hx hb dX2_leftOf_21 rfl (lv_at hl 4 rfl) ?_
    refine m_cVi (As := [.int z]) (rest := []) (wr := [ar cI aCU 4 fCU]) ⟨hx, hb, hml, hown, hts⟩ (c_X2_reaches l D cI cZ aD aCU aMV sp bf ln z ) (cwV 1 hts gX2_leftOf_X2_reaches rfl rfl rfl (by decide +kernel) ⟨Nat.le_of_ble_eq_true rfl, Nat.le_of_ble_eq_true rfl⟩) hN hK hP hD hS hA [0] [1] rfl rfl (by decide) (by decide) (by decide) 0 (ci := 2) rfl rfl rfl rfl hl.1 rfl (by decide) dX2_leftOf_22 ⟨Nat.le_of_ble_eq_true rfl, Nat.le_of_ble_eq_true rfl⟩ (fun r_22 u_22 H locs hq_22 hP hD hS => ?_)
    have hq_22 : r_22 = if bf = -1 ∨ z < bf then 1 else 0 := hq_22
    have hP : va_P D vwCl [ar cI aCU 4 fCU, ob aD 2 [.ref aCU, .ref aMV, .int sp, .int bf, .int ln]] H := hP
    have hD : va_D A [ar cI aCU 4 fCU, ob aD 2 [.ref aCU, .ref aMV, .int sp, .int bf, .int ln]] := hD
    refine lv_if_eq (tgt := 43) hx hb dX2_leftOf_25 (by decide) (fun c_25 => ?_) (fun c_25 => ?_)
    · skip
      refine lv_iload_n hx hb dX2_leftOf_43 rfl (lv_at hl 2 rfl) ?_
      exact ret x () _ _ _ _ dX2_leftOf_44 (by simp only [dLeft]; grind) (hP.sub [1, 0] rfl) (hD.sub [1, 0] (by decide) rfl) hS
    · skip
      refine lv_aload_n hx hb dX2_leftOf_28 rfl (lv_at hl 1 rfl) ?_
      refine va_get (D := D) (ci := 2) (v := .ref aCU) (C := RX2) (T := TX2) (N := 5) hx hb hts inX2 hown hK hP 1 rfl rfl 0 (by decide) fl9 (fun _ h9 => h9) rfl dX2_leftOf_29 ?_
      refine lv_iload_n hx hb dX2_leftOf_32 rfl (lv_at hl 3 rfl) ?_
      refine va_iald hx hb hK hP 0 0 rfl rfl (hy) dX2_leftOf_33 ?_
      refine lv_iconst (v := (-1)) hx hb dX2_leftOf_34 (by decide) ?_
      refine lv_icmp_eq (tgt := 43) hx hb dX2_leftOf_35 (by decide) (fun c_35 => ?_) (fun c_35 => ?_)
      · skip
        refine lv_iload_n hx hb dX2_leftOf_43 rfl (lv_at hl 2 rfl) ?_
        exact ret x () _ _ _ _ dX2_leftOf_44 (by simp only [dLeft]; grind) (hP.sub [1, 0] rfl) (hD.sub [1, 0] (by decide) rfl) hS
      · skip
        refine lv_iload hx hb dX2_leftOf_38 (lv_at hl 0 rfl) ?_
        refine lv_if_gt (tgt := 45) hx hb dX2_leftOf_40 (by decide) (fun c_40 => ?_) (fun c_40 => ?_)
        · skip
          refine lv_iload_n hx hb dX2_leftOf_45 rfl (lv_at hl 2 rfl) ?_
          refine lv_iload hx hb dX2_leftOf_46 (lv_at hl 0 rfl) ?_
          refine lv_aload_n hx hb dX2_leftOf_48 rfl (lv_at hl 1 rfl) ?_
          refine va_get (D := D) (ci := 2) (v := .ref aCU) (C := RX2) (T := TX2) (N := 5) hx hb hts inX2 hown hK hP 1 rfl rfl 0 (by decide) fl9 (fun _ h9 => h9) rfl dX2_leftOf_49 ?_
          refine lv_iload_n hx hb dX2_leftOf_52 rfl (lv_at hl 3 rfl) ?_
          refine va_iald hx hb hK hP 0 0 rfl rfl (hy) dX2_leftOf_53 ?_
          refine lv_imul hx hb dX2_leftOf_54 ?_
          refine lv_bipush (v := 100) hx hb dX2_leftOf_55 (by decide) ?_
          refine lv_idiv hx hb dX2_leftOf_57 (by decide) ?_
          refine lv_isub hx hb dX2_leftOf_58 ?_
          exact ret (x - (((x - sp) * (fCU (ix y))) / 100)) () _ _ _ _ dX2_leftOf_59 (by simp only [dLeft]; grind) (hP.sub [1, 0] rfl) (hD.sub [1, 0] (by decide) rfl) hS
        · skip
          refine lv_iload_n hx hb dX2_leftOf_43 rfl (lv_at hl 2 rfl) ?_
          exact ret x () _ _ _ _ dX2_leftOf_44 (by simp only [dLeft]; grind) (hP.sub [1, 0] rfl) (hD.sub [1, 0] (by decide) rfl) hS
  · skip
    refine lv_iload_n hx hb dX2_leftOf_8 rfl (lv_at hl 1 rfl) ?_
    refine lv_goto (tgt := 18) hx hb dX2_leftOf_9 (by decide) ?_
    refine lv_istore (lv' := [(4, .int x), (0, .ref aD), (1, .int x), (2, .int y), (3, .int z)]) hx hb dX2_leftOf_18 hl (by decide) rfl (fun ls hl => ?_)
    refine lv_aload_n hx hb dX2_leftOf_20 rfl (lv_at hl 1 rfl) ?_
    refine lv_iload_n hx hb dX2_leftOf_21 rfl (lv_at hl 4 rfl) ?_
    refine m_cVi (As := [.int z]) (rest := []) (wr := [ar cI aCU 4 fCU]) ⟨hx, hb, hml, hown, hts⟩ (c_X2_reaches l D cI cZ aD aCU aMV sp bf ln z ) (cwV 1 hts gX2_leftOf_X2_reaches rfl rfl rfl (by decide +kernel) ⟨Nat.le_of_ble_eq_true rfl, Nat.le_of_ble_eq_true rfl⟩) hN hK hP hD hS hA [0] [1] rfl rfl (by decide) (by decide) (by decide) 0 (ci := 2) rfl rfl rfl rfl hl.1 rfl (by decide) dX2_leftOf_22 ⟨Nat.le_of_ble_eq_true rfl, Nat.le_of_ble_eq_true rfl⟩ (fun r_22 u_22 H locs hq_22 hP hD hS => ?_)
    have hq_22 : r_22 = if bf = -1 ∨ z < bf then 1 else 0 := hq_22
    have hP : va_P D vwCl [ar cI aCU 4 fCU, ob aD 2 [.ref aCU, .ref aMV, .int sp, .int bf, .int ln]] H := hP
    have hD : va_D A [ar cI aCU 4 fCU, ob aD 2 [.ref aCU, .ref aMV, .int sp, .int bf, .int ln]] := hD
    refine lv_if_eq (tgt := 43) hx hb dX2_leftOf_25 (by decide) (fun c_25 => ?_) (fun c_25 => ?_)
    · skip
      refine lv_iload_n hx hb dX2_leftOf_43 rfl (lv_at hl 2 rfl) ?_
      exact ret x () _ _ _ _ dX2_leftOf_44 (by simp only [dLeft]; grind) (hP.sub [1, 0] rfl) (hD.sub [1, 0] (by decide) rfl) hS
    · skip
      refine lv_aload_n hx hb dX2_leftOf_28 rfl (lv_at hl 1 rfl) ?_
      refine va_get (D := D) (ci := 2) (v := .ref aCU) (C := RX2) (T := TX2) (N := 5) hx hb hts inX2 hown hK hP 1 rfl rfl 0 (by decide) fl9 (fun _ h9 => h9) rfl dX2_leftOf_29 ?_
      refine lv_iload_n hx hb dX2_leftOf_32 rfl (lv_at hl 3 rfl) ?_
      refine va_iald hx hb hK hP 0 0 rfl rfl (hy) dX2_leftOf_33 ?_
      refine lv_iconst (v := (-1)) hx hb dX2_leftOf_34 (by decide) ?_
      refine lv_icmp_eq (tgt := 43) hx hb dX2_leftOf_35 (by decide) (fun c_35 => ?_) (fun c_35 => ?_)
      · skip
        refine lv_iload_n hx hb dX2_leftOf_43 rfl (lv_at hl 2 rfl) ?_
        exact ret x () _ _ _ _ dX2_leftOf_44 (by simp only [dLeft]; grind) (hP.sub [1, 0] rfl) (hD.sub [1, 0] (by decide) rfl) hS
      · skip
        refine lv_iload hx hb dX2_leftOf_38 (lv_at hl 0 rfl) ?_
        refine lv_if_gt (tgt := 45) hx hb dX2_leftOf_40 (by decide) (fun c_40 => ?_) (fun c_40 => ?_)
        · skip
          refine lv_iload_n hx hb dX2_leftOf_45 rfl (lv_at hl 2 rfl) ?_
          refine lv_iload hx hb dX2_leftOf_46 (lv_at hl 0 rfl) ?_
          refine lv_aload_n hx hb dX2_leftOf_48 rfl (lv_at hl 1 rfl) ?_
          refine va_get (D := D) (ci := 2) (v := .ref aCU) (C := RX2) (T := TX2) (N := 5) hx hb hts inX2 hown hK hP 1 rfl rfl 0 (by decide) fl9 (fun _ h9 => h9) rfl dX2_leftOf_49 ?_
          refine lv_iload_n hx hb dX2_leftOf_52 rfl (lv_at hl 3 rfl) ?_
          refine va_iald hx hb hK hP 0 0 rfl rfl (hy) dX2_leftOf_53 ?_
          refine lv_imul hx hb dX2_leftOf_54 ?_
          refine lv_bipush (v := 100) hx hb dX2_leftOf_55 (by decide) ?_
          refine lv_idiv hx hb dX2_leftOf_57 (by decide) ?_
          refine lv_isub hx hb dX2_leftOf_58 ?_
          exact ret (x - ((x * (fCU (ix y))) / 100)) () _ _ _ _ dX2_leftOf_59 (by simp only [dLeft]; grind) (hP.sub [1, 0] rfl) (hD.sub [1, 0] (by decide) rfl) hS
        · skip
          refine lv_iload_n hx hb dX2_leftOf_43 rfl (lv_at hl 2 rfl) ?_
          exact ret x () _ _ _ _ dX2_leftOf_44 (by simp only [dLeft]; grind) (hP.sub [1, 0] rfl) (hD.sub [1, 0] (by decide) rfl) hS
abbrev r_c_X2_rankFor : Room := { frames := 1, cells := 0, slots := 0, locals := 21 }
set_option maxHeartbeats 4000000 in
set_option maxRecDepth 100000 in
theorem c_X2_rankFor (l : Launch) (D : va_G) (cI cZ : ClassId) (aD : Nat) (aCU : Nat) (aMV : Nat) (fMV : Nat → Int32) (sp : Int32) (bf : Int32) (ln : Int32) (x : Int32) (z : Int32) (hx1 : vp_in x 4) : MI l yX2_rankFor wsX2_rankFor r_c_X2_rankFor D cI cZ [.ref aD, .int x, .int z] [ob aD 2 [.ref aCU, .ref aMV, .int sp, .int bf, .int ln], ar cI aMV 4 fMV] (fun (r : Int32) (u : Unit) => r = dRank fMV bf x z) (fun (u : Unit) => [ob aD 2 [.ref aCU, .ref aMV, .int sp, .int bf, .int ln], ar cI aMV 4 fMV]) 0 0 := by
  refine MI.of (cc := cX2_rankFor) (maxL := 3) (by decide) rfl (Nat.le_of_ble_eq_true rfl) ?_
  intro p e s m below meth c A Q hx hb hml hown hts hN hK hA ret hP hD hS ls hl
  have hown : s.vm.findClass RX2 = some m.cls := hown
  have inX2 : ∀ w ∈ wsX20, w ∈ wsX2_rankFor := by decide +kernel
  have fl15 := hts (.fieldLink RX2 15 "AdvanceBook$Decree" "moves" "[I") (by decide +kernel)
  have hP : va_P D vwCl [ob aD 2 [.ref aCU, .ref aMV, .int sp, .int bf, .int ln], ar cI aMV 4 fMV] s.heap := hP
  have hD : va_D A [ob aD 2 [.ref aCU, .ref aMV, .int sp, .int bf, .int ln], ar cI aMV 4 fMV] := hD
  have hl : lv_has ls 3 [(0, .ref aD), (1, .int x), (2, .int z)] := hl
  refine lv_aload_n hx hb dX2_rankFor_0 rfl (lv_at hl 0 rfl) ?_
  refine lv_iload_n hx hb dX2_rankFor_1 rfl (lv_at hl 2 rfl) ?_
  refine m_cVi (As := [.int z]) (rest := []) (wr := [ar cI aMV 4 fMV]) ⟨hx, hb, hml, hown, hts⟩ (c_X2_reaches l D cI cZ aD aCU aMV sp bf ln z ) (cwV 1 hts gX2_rankFor_X2_reaches rfl rfl rfl (by decide +kernel) ⟨Nat.le_of_ble_eq_true rfl, Nat.le_of_ble_eq_true rfl⟩) hN hK hP hD hS hA [0] [1] rfl rfl (by decide) (by decide) (by decide) 0 (ci := 2) rfl rfl rfl rfl hl.1 rfl (by decide) dX2_rankFor_2 ⟨Nat.le_of_ble_eq_true rfl, Nat.le_of_ble_eq_true rfl⟩ (fun r_2 u_2 H locs hq_2 hP hD hS => ?_)
  have hq_2 : r_2 = if bf = -1 ∨ z < bf then 1 else 0 := hq_2
  have hP : va_P D vwCl [ar cI aMV 4 fMV, ob aD 2 [.ref aCU, .ref aMV, .int sp, .int bf, .int ln]] H := hP
  have hD : va_D A [ar cI aMV 4 fMV, ob aD 2 [.ref aCU, .ref aMV, .int sp, .int bf, .int ln]] := hD
  refine lv_if_eq (tgt := 27) hx hb dX2_rankFor_5 (by decide) (fun c_5 => ?_) (fun c_5 => ?_)
  · skip
    refine lv_iload_n hx hb dX2_rankFor_27 rfl (lv_at hl 1 rfl) ?_
    exact ret x () _ _ _ _ dX2_rankFor_28 (by simp only [dRank]; grind) (hP.sub [1, 0] rfl) (hD.sub [1, 0] (by decide) rfl) hS
  · skip
    refine lv_aload_n hx hb dX2_rankFor_8 rfl (lv_at hl 0 rfl) ?_
    refine va_get (D := D) (ci := 2) (v := .ref aMV) (C := RX2) (T := TX2) (N := 5) hx hb hts inX2 hown hK hP 1 rfl rfl 1 (by decide) fl15 (fun _ h9 => h9) rfl dX2_rankFor_9 ?_
    refine lv_iload_n hx hb dX2_rankFor_12 rfl (lv_at hl 1 rfl) ?_
    refine va_iald hx hb hK hP 0 0 rfl rfl (hx1) dX2_rankFor_13 ?_
    refine lv_iconst (v := (-1)) hx hb dX2_rankFor_14 (by decide) ?_
    refine lv_icmp_eq (tgt := 27) hx hb dX2_rankFor_15 (by decide) (fun c_15 => ?_) (fun c_15 => ?_)
    · skip
      refine lv_iload_n hx hb dX2_rankFor_27 rfl (lv_at hl 1 rfl) ?_
      exact ret x () _ _ _ _ dX2_rankFor_28 (by simp only [dRank]; grind) (hP.sub [1, 0] rfl) (hD.sub [1, 0] (by decide) rfl) hS
    · skip
      refine lv_aload_n hx hb dX2_rankFor_18 rfl (lv_at hl 0 rfl) ?_
      refine va_get (D := D) (ci := 2) (v := .ref aMV) (C := RX2) (T := TX2) (N := 5) hx hb hts inX2 hown hK hP 1 rfl rfl 1 (by decide) fl15 (fun _ h9 => h9) rfl dX2_rankFor_19 ?_
      refine lv_iload_n hx hb dX2_rankFor_22 rfl (lv_at hl 1 rfl) ?_
      refine va_iald hx hb hK hP 0 0 rfl rfl (hx1) dX2_rankFor_23 ?_
      refine lv_goto (tgt := 28) hx hb dX2_rankFor_24 (by decide) ?_
      exact ret (fMV (ix x)) () _ _ _ _ dX2_rankFor_28 (by simp only [dRank]; grind) (hP.sub [1, 0] rfl) (hD.sub [1, 0] (by decide) rfl) hS
abbrev r_c_X3_obey : Room := { frames := 2, cells := 0, slots := 0, locals := 45 }
set_option maxHeartbeats 4000000 in
set_option maxRecDepth 100000 in
theorem c_X3_obey (l : Launch) (D : va_G) (cI cZ : ClassId) (aP : Nat) (aTD : Nat) (aTC : Nat) (aTK : Nat) (aTR : Nat) (aDY : Nat) (aCP : Nat) (aDB : Nat) (aCR : Nat) (aRK : Nat) (aLF : Nat) (aD : Nat) (aCU : Nat) (aMV : Nat) (fLF : Nat → Int32) (fRK : Nat → Int32) (fDY : Nat → Int32) (fCU : Nat → Int32) (fMV : Nat → Int32) (sp : Int32) (bf : Int32) (ln : Int32) (np : Nat) (hnp : np ≤ 40) (hrk : ∀ k, k < np → vp_in (fRK k) 4) : MI l yX3_obey wsX3_obey r_c_X3_obey D cI cZ [.ref aP, .ref aD] [ob aP 3 [.ref aTD, .ref aTC, .ref aTK, .ref aTR, .ref aDY, .ref aCP, .ref aDB, .ref aCR, .ref aRK, .ref aLF, .int (nI np)], ar cI aLF 40 fLF, ar cI aRK 40 fRK, ar cI aDY 40 fDY, ob aD 2 [.ref aCU, .ref aMV, .int sp, .int bf, .int ln], ar cI aCU 4 fCU, ar cI aMV 4 fMV] (fun (r : Int32) (u : (Nat → Int32) × (Nat → Int32)) => r = lessS fCU sp bf fLF fRK fDY np ∧ u.1 = fil (fun j => dLeft fCU sp bf (fLF j) (fRK j) (fDY j)) fLF np ∧ u.2 = fil (fun j => dRank fMV bf (fRK j) (fDY j)) fRK np) (fun (u : (Nat → Int32) × (Nat → Int32)) => [ob aP 3 [.ref aTD, .ref aTC, .ref aTK, .ref aTR, .ref aDY, .ref aCP, .ref aDB, .ref aCR, .ref aRK, .ref aLF, .int (nI np)], ar cI aLF 40 u.1, ar cI aRK 40 u.2, ar cI aDY 40 fDY, ob aD 2 [.ref aCU, .ref aMV, .int sp, .int bf, .int ln], ar cI aCU 4 fCU, ar cI aMV 4 fMV]) 0 0 := by
  refine MI.of (cc := cX3_obey) (maxL := 5) (by decide) rfl (Nat.le_of_ble_eq_true rfl) ?_
  intro p e s m below meth c A Q hx hb hml hown hts hN hK hA ret hP hD hS ls hl
  have hown : s.vm.findClass RX3 = some m.cls := hown
  have inX3 : ∀ w ∈ wsX30, w ∈ wsX3_obey := by decide +kernel
  have fl24 := hts (.fieldLink RX3 24 "AdvanceBook$Papers" "days" "[I") (by decide +kernel)
  have fl37 := hts (.fieldLink RX3 37 "AdvanceBook$Papers" "ranks" "[I") (by decide +kernel)
  have fl40 := hts (.fieldLink RX3 40 "AdvanceBook$Papers" "lefts" "[I") (by decide +kernel)
  have fl43 := hts (.fieldLink RX3 43 "AdvanceBook$Papers" "size" "I") (by decide +kernel)
  have hP : va_P D vwCl [ob aP 3 [.ref aTD, .ref aTC, .ref aTK, .ref aTR, .ref aDY, .ref aCP, .ref aDB, .ref aCR, .ref aRK, .ref aLF, .int (nI np)], ar cI aLF 40 fLF, ar cI aRK 40 fRK, ar cI aDY 40 fDY, ob aD 2 [.ref aCU, .ref aMV, .int sp, .int bf, .int ln], ar cI aCU 4 fCU, ar cI aMV 4 fMV] s.heap := hP
  have hD : va_D A [ob aP 3 [.ref aTD, .ref aTC, .ref aTK, .ref aTR, .ref aDY, .ref aCP, .ref aDB, .ref aCR, .ref aRK, .ref aLF, .int (nI np)], ar cI aLF 40 fLF, ar cI aRK 40 fRK, ar cI aDY 40 fDY, ob aD 2 [.ref aCU, .ref aMV, .int sp, .int bf, .int ln], ar cI aCU 4 fCU, ar cI aMV 4 fMV] := hD
  have hl : lv_has ls 5 [(0, .ref aP), (1, .ref aD)] := hl
  refine lv_iconst (v := 0) hx hb dX3_obey_0 (by decide) ?_
  refine lv_istore_n (lv' := [(2, .int 0), (0, .ref aP), (1, .ref aD)]) hx hb dX3_obey_1 rfl hl (by decide) rfl (fun ls hl => ?_)
  refine lv_iconst (v := 0) hx hb dX3_obey_2 (by decide) ?_
  refine lv_istore_n (lv' := [(3, .int 0), (2, .int 0), (0, .ref aP), (1, .ref aD)]) hx hb dX3_obey_3 rfl hl (by decide) rfl (fun ls hl => ?_)
  have L_4 : ∀ (n : Nat) (k : Nat) (sm : Int32) (hLF : Nat → Int32) (hRK : Nat → Int32), (np - k < n) → (k ≤ np) → (sm = lessS fCU sp bf fLF fRK fDY k) → (hLF = fil (fun j => dLeft fCU sp bf (fLF j) (fRK j) (fDY j)) fLF k) → (hRK = fil (fun j => dRank fMV bf (fRK j) (fDY j)) fRK k) → ∀ (H : Heap) (locs : List Loc), va_P D vwCl [ob aP 3 [.ref aTD, .ref aTC, .ref aTK, .ref aTR, .ref aDY, .ref aCP, .ref aDB, .ref aCR, .ref aRK, .ref aLF, .int (nI np)], ar cI aLF 40 hLF, ar cI aRK 40 hRK, ar cI aDY 40 fDY, ob aD 2 [.ref aCU, .ref aMV, .int sp, .int bf, .int ln], ar cI aCU 4 fCU, ar cI aMV 4 fMV] H → va_D A [ob aP 3 [.ref aTD, .ref aTC, .ref aTK, .ref aTR, .ref aDY, .ref aCP, .ref aDB, .ref aCR, .ref aRK, .ref aLF, .int (nI np)], ar cI aLF 40 hLF, ar cI aRK 40 hRK, ar cI aDY 40 fDY, ob aD 2 [.ref aCU, .ref aMV, .int sp, .int bf, .int ln], ar cI aCU 4 fCU, ar cI aMV 4 fMV] → va_S A s.heap H locs → ∀ ls : Array Slot, lv_has ls 5 [(0, .ref aP), (1, .ref aD), (2, .int sm), (3, .int (nI k))] → W p l e r_c_X3_obey s m (([.ref aP, .ref aD] : List Value).toArray) below meth c H locs 0 0 Q (F0 m 4 ls []) := by
    intro n
    induction n with
    | zero => intro k sm hLF hRK hfu; exact absurd hfu (Nat.not_lt_zero _)
    | succ n ih =>
      intro k sm hLF hRK hfu hk hs h1 h2 H locs hP hD hS ls hl
      have e1 := fil_at h1
      have e2 := fil_at h2
      refine lv_iload_n hx hb dX3_obey_4 rfl (lv_at hl 3 rfl) ?_
      refine lv_aload_n hx hb dX3_obey_5 rfl (lv_at hl 0 rfl) ?_
      refine va_get (D := D) (ci := 3) (v := .int (nI np)) (C := RX3) (T := TX3) (N := 11) hx hb hts inX3 hown hK hP 0 rfl rfl 10 (by decide) fl43 (fun _ h9 => h9) rfl dX3_obey_6 ?_
      refine lv_icmp_ge (tgt := 84) hx hb dX3_obey_9 (by decide) (fun c_9 => ?_) (fun c_9 => ?_)
      · skip
        have k_9 : np ≤ k := (nI_leI (a := np) (b := k) (by omega) (by omega)).mp c_9
        refine lv_iload_n hx hb dX3_obey_84 rfl (lv_at hl 2 rfl) ?_
        exact ret sm (hLF, hRK) _ _ _ _ dX3_obey_85 (by have e : k = np := (by omega); subst e; exact ⟨hs, h1, h2⟩) (hP) (hD) hS
      · skip
        have k_9 : ¬ np ≤ k := fun h9 => c_9 ((nI_leI (a := np) (b := k) (by omega) (by omega)).mpr h9)
        refine lv_aload_n hx hb dX3_obey_12 rfl (lv_at hl 1 rfl) ?_
        refine lv_aload_n hx hb dX3_obey_13 rfl (lv_at hl 0 rfl) ?_
        refine va_get (D := D) (ci := 3) (v := .ref aLF) (C := RX3) (T := TX3) (N := 11) hx hb hts inX3 hown hK hP 0 rfl rfl 9 (by decide) fl40 (fun _ h9 => h9) rfl dX3_obey_14 ?_
        refine lv_iload_n hx hb dX3_obey_17 rfl (lv_at hl 3 rfl) ?_
        refine m_iald (k := k) hx hb hK hP 1 0 rfl rfl (by omega) (by decide) dX3_obey_18 ?_
        refine lv_aload_n hx hb dX3_obey_19 rfl (lv_at hl 0 rfl) ?_
        refine va_get (D := D) (ci := 3) (v := .ref aRK) (C := RX3) (T := TX3) (N := 11) hx hb hts inX3 hown hK hP 0 rfl rfl 8 (by decide) fl37 (fun _ h9 => h9) rfl dX3_obey_20 ?_
        refine lv_iload_n hx hb dX3_obey_23 rfl (lv_at hl 3 rfl) ?_
        refine m_iald (k := k) hx hb hK hP 2 0 rfl rfl (by omega) (by decide) dX3_obey_24 ?_
        refine lv_aload_n hx hb dX3_obey_25 rfl (lv_at hl 0 rfl) ?_
        refine va_get (D := D) (ci := 3) (v := .ref aDY) (C := RX3) (T := TX3) (N := 11) hx hb hts inX3 hown hK hP 0 rfl rfl 4 (by decide) fl24 (fun _ h9 => h9) rfl dX3_obey_26 ?_
        refine lv_iload_n hx hb dX3_obey_29 rfl (lv_at hl 3 rfl) ?_
        refine m_iald (k := k) hx hb hK hP 3 0 rfl rfl (by omega) (by decide) dX3_obey_30 ?_
        have hv_31 : vp_in (hRK k) 4 := (by rw [e2]; exact hrk k (by omega))
        refine m_cVi (As := [.int (hLF k), .int (hRK k), .int (fDY k)]) (rest := []) (wr := [ob aP 3 [.ref aTD, .ref aTC, .ref aTK, .ref aTR, .ref aDY, .ref aCP, .ref aDB, .ref aCR, .ref aRK, .ref aLF, .int (nI np)], ar cI aLF 40 hLF, ar cI aRK 40 hRK, ar cI aDY 40 fDY, ar cI aMV 4 fMV]) ⟨hx, hb, hml, hown, hts⟩ (c_X2_leftOf l D cI cZ aD aCU aMV fCU sp bf ln (hLF k) (hRK k) (fDY k) (hv_31)) (cwV 3 hts gX3_obey_X2_leftOf rfl rfl rfl (by decide +kernel) ⟨Nat.le_of_ble_eq_true rfl, Nat.le_of_ble_eq_true rfl⟩) hN hK hP hD hS hA [4, 5] [0, 1, 2, 3, 6] rfl rfl (by decide) (by decide) (by decide) 0 (ci := 2) rfl rfl rfl rfl hl.1 rfl (by decide) dX3_obey_31 ⟨Nat.le_of_ble_eq_true rfl, Nat.le_of_ble_eq_true rfl⟩ (fun r_31 u_31 H locs hq_31 hP hD hS => ?_)
        have hq_31 : r_31 = dLeft fCU sp bf (hLF k) (hRK k) (fDY k) := hq_31
        have hP : va_P D vwCl [ob aP 3 [.ref aTD, .ref aTC, .ref aTK, .ref aTR, .ref aDY, .ref aCP, .ref aDB, .ref aCR, .ref aRK, .ref aLF, .int (nI np)], ar cI aLF 40 hLF, ar cI aRK 40 hRK, ar cI aDY 40 fDY, ar cI aMV 4 fMV, ob aD 2 [.ref aCU, .ref aMV, .int sp, .int bf, .int ln], ar cI aCU 4 fCU] H := hP
        have hD : va_D A [ob aP 3 [.ref aTD, .ref aTC, .ref aTK, .ref aTR, .ref aDY, .ref aCP, .ref aDB, .ref aCR, .ref aRK, .ref aLF, .int (nI np)], ar cI aLF 40 hLF, ar cI aRK 40 hRK, ar cI aDY 40 fDY, ar cI aMV 4 fMV, ob aD 2 [.ref aCU, .ref aMV, .int sp, .int bf, .int ln], ar cI aCU 4 fCU] := hD
        refine lv_istore (lv' := [(4, .int r_31), (0, .ref aP), (1, .ref aD), (2, .int sm), (3, .int (nI k))]) hx hb dX3_obey_34 hl (by decide) rfl (fun ls hl => ?_)
        refine lv_iload_n hx hb dX3_obey_36 rfl (lv_at hl 3 rfl) ?_
        refine lv_aload_n hx hb dX3_obey_37 rfl (lv_at hl 1 rfl) ?_
        refine va_get (D := D) (ci := 3) (v := .ref aLF) (C := RX3) (T := TX3) (N := 11) hx hb hts inX3 hown hK hP 0 rfl rfl 9 (by decide) fl40 (fun _ h9 => h9) rfl dX3_obey_38 ?_
        refine lv_iload_n hx hb dX3_obey_41 rfl (lv_at hl 4 rfl) ?_
        refine m_iald (k := k) hx hb hK hP 1 0 rfl rfl (by omega) (by decide) dX3_obey_42 ?_
        refine lv_iload hx hb dX3_obey_43 (lv_at hl 0 rfl) ?_
        refine lv_isub hx hb dX3_obey_45 ?_
        refine lv_iadd hx hb dX3_obey_46 ?_
        refine lv_istore_n (lv' := [(2, .int (sm + ((hLF k) - r_31))), (4, .int r_31), (0, .ref aP), (1, .ref aD), (3, .int (nI k))]) hx hb dX3_obey_47 rfl hl (by decide) rfl (fun ls hl => ?_)
        refine lv_aload_n hx hb dX3_obey_48 rfl (lv_at hl 2 rfl) ?_
        refine va_get (D := D) (ci := 3) (v := .ref aLF) (C := RX3) (T := TX3) (N := 11) hx hb hts inX3 hown hK hP 0 rfl rfl 9 (by decide) fl40 (fun _ h9 => h9) rfl dX3_obey_49 ?_
        refine lv_iload_n hx hb dX3_obey_52 rfl (lv_at hl 4 rfl) ?_
        refine lv_iload hx hb dX3_obey_53 (lv_at hl 1 rfl) ?_
        refine m_iast (k := k) (x := r_31) hx hb hK hP hD hS 1 0 rfl rfl (by omega) (by decide) dX3_obey_55 (fun H locs hP hD hS => ?_)
        have hP : va_P D vwCl [ob aP 3 [.ref aTD, .ref aTC, .ref aTK, .ref aTR, .ref aDY, .ref aCP, .ref aDB, .ref aCR, .ref aRK, .ref aLF, .int (nI np)], ar cI aLF 40 (upd hLF k r_31), ar cI aRK 40 hRK, ar cI aDY 40 fDY, ar cI aMV 4 fMV, ob aD 2 [.ref aCU, .ref aMV, .int sp, .int bf, .int ln], ar cI aCU 4 fCU] H := hP
        have hD : va_D A [ob aP 3 [.ref aTD, .ref aTC, .ref aTK, .ref aTR, .ref aDY, .ref aCP, .ref aDB, .ref aCR, .ref aRK, .ref aLF, .int (nI np)], ar cI aLF 40 (upd hLF k r_31), ar cI aRK 40 hRK, ar cI aDY 40 fDY, ar cI aMV 4 fMV, ob aD 2 [.ref aCU, .ref aMV, .int sp, .int bf, .int ln], ar cI aCU 4 fCU] := hD
        refine lv_aload_n hx hb dX3_obey_56 rfl (lv_at hl 2 rfl) ?_
        refine va_get (D := D) (ci := 3) (v := .ref aRK) (C := RX3) (T := TX3) (N := 11) hx hb hts inX3 hown hK hP 0 rfl rfl 8 (by decide) fl37 (fun _ h9 => h9) rfl dX3_obey_57 ?_
        refine lv_iload_n hx hb dX3_obey_60 rfl (lv_at hl 4 rfl) ?_
        refine lv_aload_n hx hb dX3_obey_61 rfl (lv_at hl 3 rfl) ?_
        refine lv_aload_n hx hb dX3_obey_62 rfl (lv_at hl 2 rfl) ?_
        refine va_get (D := D) (ci := 3) (v := .ref aRK) (C := RX3) (T := TX3) (N := 11) hx hb hts inX3 hown hK hP 0 rfl rfl 8 (by decide) fl37 (fun _ h9 => h9) rfl dX3_obey_63 ?_
        refine lv_iload_n hx hb dX3_obey_66 rfl (lv_at hl 4 rfl) ?_
        refine m_iald (k := k) hx hb hK hP 2 0 rfl rfl (by omega) (by decide) dX3_obey_67 ?_
        refine lv_aload_n hx hb dX3_obey_68 rfl (lv_at hl 2 rfl) ?_
        refine va_get (D := D) (ci := 3) (v := .ref aDY) (C := RX3) (T := TX3) (N := 11) hx hb hts inX3 hown hK hP 0 rfl rfl 4 (by decide) fl24 (fun _ h9 => h9) rfl dX3_obey_69 ?_
        refine lv_iload_n hx hb dX3_obey_72 rfl (lv_at hl 4 rfl) ?_
        refine m_iald (k := k) hx hb hK hP 3 0 rfl rfl (by omega) (by decide) dX3_obey_73 ?_
        refine m_cVi (As := [.int (hRK k), .int (fDY k)]) (rest := [.int (nI k), .ref aRK]) (wr := [ob aP 3 [.ref aTD, .ref aTC, .ref aTK, .ref aTR, .ref aDY, .ref aCP, .ref aDB, .ref aCR, .ref aRK, .ref aLF, .int (nI np)], ar cI aLF 40 (upd hLF k r_31), ar cI aRK 40 hRK, ar cI aDY 40 fDY, ar cI aCU 4 fCU]) ⟨hx, hb, hml, hown, hts⟩ (c_X2_rankFor l D cI cZ aD aCU aMV fMV sp bf ln (hRK k) (fDY k) (hv_31)) (cwV 2 hts gX3_obey_X2_rankFor rfl rfl rfl (by decide +kernel) ⟨Nat.le_of_ble_eq_true rfl, Nat.le_of_ble_eq_true rfl⟩) hN hK hP hD hS hA [5, 4] [0, 1, 2, 3, 6] rfl rfl (by decide) (by decide) (by decide) 0 (ci := 2) rfl rfl rfl rfl hl.1 rfl (by decide) dX3_obey_74 ⟨Nat.le_of_ble_eq_true rfl, Nat.le_of_ble_eq_true rfl⟩ (fun r_74 u_74 H locs hq_74 hP hD hS => ?_)
        have hq_74 : r_74 = dRank fMV bf (hRK k) (fDY k) := hq_74
        have hP : va_P D vwCl [ob aP 3 [.ref aTD, .ref aTC, .ref aTK, .ref aTR, .ref aDY, .ref aCP, .ref aDB, .ref aCR, .ref aRK, .ref aLF, .int (nI np)], ar cI aLF 40 (upd hLF k r_31), ar cI aRK 40 hRK, ar cI aDY 40 fDY, ar cI aCU 4 fCU, ob aD 2 [.ref aCU, .ref aMV, .int sp, .int bf, .int ln], ar cI aMV 4 fMV] H := hP
        have hD : va_D A [ob aP 3 [.ref aTD, .ref aTC, .ref aTK, .ref aTR, .ref aDY, .ref aCP, .ref aDB, .ref aCR, .ref aRK, .ref aLF, .int (nI np)], ar cI aLF 40 (upd hLF k r_31), ar cI aRK 40 hRK, ar cI aDY 40 fDY, ar cI aCU 4 fCU, ob aD 2 [.ref aCU, .ref aMV, .int sp, .int bf, .int ln], ar cI aMV 4 fMV] := hD
        refine m_iast (k := k) (x := r_74) hx hb hK hP hD hS 2 0 rfl rfl (by omega) (by decide) dX3_obey_77 (fun H locs hP hD hS => ?_)
        have hP : va_P D vwCl [ob aP 3 [.ref aTD, .ref aTC, .ref aTK, .ref aTR, .ref aDY, .ref aCP, .ref aDB, .ref aCR, .ref aRK, .ref aLF, .int (nI np)], ar cI aLF 40 (upd hLF k r_31), ar cI aRK 40 (upd hRK k r_74), ar cI aDY 40 fDY, ar cI aCU 4 fCU, ob aD 2 [.ref aCU, .ref aMV, .int sp, .int bf, .int ln], ar cI aMV 4 fMV] H := hP
        have hD : va_D A [ob aP 3 [.ref aTD, .ref aTC, .ref aTK, .ref aTR, .ref aDY, .ref aCP, .ref aDB, .ref aCR, .ref aRK, .ref aLF, .int (nI np)], ar cI aLF 40 (upd hLF k r_31), ar cI aRK 40 (upd hRK k r_74), ar cI aDY 40 fDY, ar cI aCU 4 fCU, ob aD 2 [.ref aCU, .ref aMV, .int sp, .int bf, .int ln], ar cI aMV 4 fMV] := hD
        refine lv_iinc (v := (nI (k + 1))) (lv' := [(3, .int (nI (k + 1))), (2, .int (sm + ((hLF k) - r_31))), (4, .int r_31), (0, .ref aP), (1, .ref aD)]) hx hb dX3_obey_78 hl (k := 4) rfl (nI_inc k 1 (by decide)) (by decide) rfl (fun ls hl => ?_)
        refine lv_goto (tgt := 4) hx hb dX3_obey_81 (by decide) ?_
        exact ih (k + 1) (sm + ((hLF k) - r_31)) (upd hLF k r_31) (upd hRK k r_74) (by omega) (by omega) (by rw [hs, hq_31, e1, e2]; rfl) (fil_step h1 (by rw [hq_31, e1, e2])) (fil_step h2 (by rw [hq_74, e2])) _ _ (hP.sub [0, 1, 2, 3, 5, 4, 6] rfl) (hD.sub [0, 1, 2, 3, 5, 4, 6] (by decide) rfl) hS ls (lv_sub hl [3, 4, 1, 0] rfl)
  exact L_4 ((np - 0) + 1) 0 0 fLF fRK (Nat.lt_succ_self _) (by omega) (rfl) (fil_0.symm) (fil_0.symm) _ _ (hP) (hD) hS ls (lv_sub hl [2, 3, 1, 0] rfl)
abbrev r_c_X5_append : Room := { frames := 0, cells := 0, slots := 0, locals := 0 }
set_option maxHeartbeats 4000000 in
set_option maxRecDepth 100000 in
theorem c_X5_append (l : Launch) (D : va_G) (cI cZ : ClassId) (aTA : Nat) (aBY : Nat) (fBY : Nat → Int32) (nt : Nat) (x : Int32) (hnt : nt + 4 ≤ 300) : MV l yX5_append wsX5_append r_c_X5_append D cI cZ [.ref aTA, .int x] [ob aTA 5 [.ref aBY, .int (nI nt)], ar cI aBY 300 fBY] (fun (u : (Nat → Int32)) => u = put4 fBY nt x) (fun (u : (Nat → Int32)) => [ob aTA 5 [.ref aBY, .int (nI (nt + 1 + 1 + 1 + 1))], ar cI aBY 300 u]) 0 0 := by
  refine MV.of (cc := cX5_append) (maxL := 3) (by decide) rfl (Nat.le_of_ble_eq_true rfl) ?_
  intro p e s m below meth c A Q hx hb hml hown hts hN hK hA ret hP hD hS ls hl hnm
  have hown : s.vm.findClass RX5 = some m.cls := hown
  have inX5 : ∀ w ∈ wsX50, w ∈ wsX5_append := by decide +kernel
  have fl9 := hts (.fieldLink RX5 9 "AdvanceBook$Tape" "bytes" "[I") (by decide +kernel)
  have fl15 := hts (.fieldLink RX5 15 "AdvanceBook$Tape" "length" "I") (by decide +kernel)
  have hP : va_P D vwCl [ob aTA 5 [.ref aBY, .int (nI nt)], ar cI aBY 300 fBY] s.heap := hP
  have hD : va_D A [ob aTA 5 [.ref aBY, .int (nI nt)], ar cI aBY 300 fBY] := hD
  have hl : lv_has ls 3 [(0, .ref aTA), (1, .int x)] := hl
  refine lv_bipush (v := 24) hx hb dX5_append_0 (by decide) ?_
  refine lv_istore_n (lv' := [(2, .int 24), (0, .ref aTA), (1, .int x)]) hx hb dX5_append_2 rfl hl (by decide) rfl (fun ls hl => ?_)
  refine lv_iload_n hx hb dX5_append_3 rfl (lv_at hl 0 rfl) ?_
  refine lv_if_lt (tgt := 49) hx hb dX5_append_4 (by decide) (fun c_4 => ?_) (fun c_4 => ?_)
  · skip
    exact absurd c_4 (by decide)
  · skip
    refine lv_aload_n hx hb dX5_append_7 rfl (lv_at hl 1 rfl) ?_
    refine va_get (D := D) (ci := 5) (v := .int (nI nt)) (C := RX5) (T := TX5) (N := 2) hx hb hts inX5 hown hK hP 0 rfl rfl 1 (by decide) fl15 (fun _ h9 => h9) rfl dX5_append_8 ?_
    refine lv_sipush (v := 300) hx hb dX5_append_11 (by decide) ?_
    refine lv_icmp_ge (tgt := 49) hx hb dX5_append_14 (by decide) (fun c_14 => ?_) (fun c_14 => ?_)
    · skip
      have k_14 : 300 ≤ nt := (nI_leI (a := 300) (b := nt) (by omega) (by omega)).mp c_14
      exact absurd k_14 (by omega)
    · skip
      have k_14 : ¬ 300 ≤ nt := fun h9 => c_14 ((nI_leI (a := 300) (b := nt) (by omega) (by omega)).mpr h9)
      refine lv_aload_n hx hb dX5_append_17 rfl (lv_at hl 1 rfl) ?_
      refine va_get (D := D) (ci := 5) (v := .ref aBY) (C := RX5) (T := TX5) (N := 2) hx hb hts inX5 hown hK hP 0 rfl rfl 0 (by decide) fl9 (fun _ h9 => h9) rfl dX5_append_18 ?_
      refine lv_aload_n hx hb dX5_append_21 rfl (lv_at hl 1 rfl) ?_
      refine va_get (D := D) (ci := 5) (v := .int (nI nt)) (C := RX5) (T := TX5) (N := 2) hx hb hts inX5 hown hK hP 0 rfl rfl 1 (by decide) fl15 (fun _ h9 => h9) rfl dX5_append_22 ?_
      refine lv_iload_n hx hb dX5_append_25 rfl (lv_at hl 2 rfl) ?_
      refine lv_iload_n hx hb dX5_append_26 rfl (lv_at hl 0 rfl) ?_
      refine lv_iushr (v := ((x).toUInt32 >>> ((24 : Int32).toUInt32 &&& Int32.toUInt32 31)).toInt32) hx hb dX5_append_27 rfl ?_
      refine lv_sipush (v := 255) hx hb dX5_append_28 (by decide) ?_
      refine lv_iand hx hb dX5_append_31 ?_
      refine m_iast (k := nt) (x := ((((x).toUInt32 >>> ((24 : Int32).toUInt32 &&& Int32.toUInt32 31)).toInt32) &&& 255)) hx hb hK hP hD hS 1 0 rfl rfl (by omega) (by decide) dX5_append_32 (fun H locs hP hD hS => ?_)
      have hP : va_P D vwCl [ob aTA 5 [.ref aBY, .int (nI nt)], ar cI aBY 300 (upd fBY nt ((((x).toUInt32 >>> ((24 : Int32).toUInt32 &&& Int32.toUInt32 31)).toInt32) &&& 255))] H := hP
      have hD : va_D A [ob aTA 5 [.ref aBY, .int (nI nt)], ar cI aBY 300 (upd fBY nt ((((x).toUInt32 >>> ((24 : Int32).toUInt32 &&& Int32.toUInt32 31)).toInt32) &&& 255))] := hD
      refine lv_aload_n hx hb dX5_append_33 rfl (lv_at hl 1 rfl) ?_
      refine lv_dup hx hb dX5_append_34 rfl ?_
      refine va_get (D := D) (ci := 5) (v := .int (nI nt)) (C := RX5) (T := TX5) (N := 2) hx hb hts inX5 hown hK hP 0 rfl rfl 1 (by decide) fl15 (fun _ h9 => h9) rfl dX5_append_35 ?_
      refine lv_iconst (v := 1) hx hb dX5_append_38 (by decide) ?_
      refine m_iaddN (a := nt) (b := 1) hx hb dX5_append_39 ?_
      refine va_put (D := D) (ci := 5) (v := .int (nI (nt + 1))) (ty := .int) (C := RX5) (T := TX5) (N := 2) hx hb hts inX5 tyX5 tyX5_ok nmX5 hown hK hP hD hS 0 rfl rfl 1 (by decide) fl15 (fun _ h9 => h9) rfl (by decide +kernel) (rfl) (rfl) (Nat.le_of_ble_eq_true rfl) dX5_append_40 (fun H locs hP hD hS => ?_)
      have hP : va_P D vwCl [ob aTA 5 [.ref aBY, .int (nI (nt + 1))], ar cI aBY 300 (upd fBY nt ((((x).toUInt32 >>> ((24 : Int32).toUInt32 &&& Int32.toUInt32 31)).toInt32) &&& 255))] H := hP
      have hD : va_D A [ob aTA 5 [.ref aBY, .int (nI (nt + 1))], ar cI aBY 300 (upd fBY nt ((((x).toUInt32 >>> ((24 : Int32).toUInt32 &&& Int32.toUInt32 31)).toInt32) &&& 255))] := hD
      refine lv_iinc (v := 16) (lv' := [(2, .int 16), (0, .ref aTA), (1, .int x)]) hx hb dX5_append_43 hl (k := 0) rfl (by decide) (by decide) rfl (fun ls hl => ?_)
      refine lv_goto (tgt := 3) hx hb dX5_append_46 (by decide) ?_
      refine lv_iload_n hx hb dX5_append_3 rfl (lv_at hl 0 rfl) ?_
      refine lv_if_lt (tgt := 49) hx hb dX5_append_4 (by decide) (fun c_4 => ?_) (fun c_4 => ?_)
      · skip
        exact absurd c_4 (by decide)
      · skip
        refine lv_aload_n hx hb dX5_append_7 rfl (lv_at hl 1 rfl) ?_
        refine va_get (D := D) (ci := 5) (v := .int (nI (nt + 1))) (C := RX5) (T := TX5) (N := 2) hx hb hts inX5 hown hK hP 0 rfl rfl 1 (by decide) fl15 (fun _ h9 => h9) rfl dX5_append_8 ?_
        refine lv_sipush (v := 300) hx hb dX5_append_11 (by decide) ?_
        refine lv_icmp_ge (tgt := 49) hx hb dX5_append_14 (by decide) (fun c_14 => ?_) (fun c_14 => ?_)
        · skip
          have k_14 : 300 ≤ (nt + 1) := (nI_leI (a := 300) (b := (nt + 1)) (by omega) (by omega)).mp c_14
          exact absurd k_14 (by omega)
        · skip
          have k_14 : ¬ 300 ≤ (nt + 1) := fun h9 => c_14 ((nI_leI (a := 300) (b := (nt + 1)) (by omega) (by omega)).mpr h9)
          refine lv_aload_n hx hb dX5_append_17 rfl (lv_at hl 1 rfl) ?_
          refine va_get (D := D) (ci := 5) (v := .ref aBY) (C := RX5) (T := TX5) (N := 2) hx hb hts inX5 hown hK hP 0 rfl rfl 0 (by decide) fl9 (fun _ h9 => h9) rfl dX5_append_18 ?_
          refine lv_aload_n hx hb dX5_append_21 rfl (lv_at hl 1 rfl) ?_
          refine va_get (D := D) (ci := 5) (v := .int (nI (nt + 1))) (C := RX5) (T := TX5) (N := 2) hx hb hts inX5 hown hK hP 0 rfl rfl 1 (by decide) fl15 (fun _ h9 => h9) rfl dX5_append_22 ?_
          refine lv_iload_n hx hb dX5_append_25 rfl (lv_at hl 2 rfl) ?_
          refine lv_iload_n hx hb dX5_append_26 rfl (lv_at hl 0 rfl) ?_
          refine lv_iushr (v := ((x).toUInt32 >>> ((16 : Int32).toUInt32 &&& Int32.toUInt32 31)).toInt32) hx hb dX5_append_27 rfl ?_
          refine lv_sipush (v := 255) hx hb dX5_append_28 (by decide) ?_
          refine lv_iand hx hb dX5_append_31 ?_
          refine m_iast (k := (nt + 1)) (x := ((((x).toUInt32 >>> ((16 : Int32).toUInt32 &&& Int32.toUInt32 31)).toInt32) &&& 255)) hx hb hK hP hD hS 1 0 rfl rfl (by omega) (by decide) dX5_append_32 (fun H locs hP hD hS => ?_)
          have hP : va_P D vwCl [ob aTA 5 [.ref aBY, .int (nI (nt + 1))], ar cI aBY 300 (upd (upd fBY nt ((((x).toUInt32 >>> ((24 : Int32).toUInt32 &&& Int32.toUInt32 31)).toInt32) &&& 255)) (nt + 1) ((((x).toUInt32 >>> ((16 : Int32).toUInt32 &&& Int32.toUInt32 31)).toInt32) &&& 255))] H := hP
          have hD : va_D A [ob aTA 5 [.ref aBY, .int (nI (nt + 1))], ar cI aBY 300 (upd (upd fBY nt ((((x).toUInt32 >>> ((24 : Int32).toUInt32 &&& Int32.toUInt32 31)).toInt32) &&& 255)) (nt + 1) ((((x).toUInt32 >>> ((16 : Int32).toUInt32 &&& Int32.toUInt32 31)).toInt32) &&& 255))] := hD
          refine lv_aload_n hx hb dX5_append_33 rfl (lv_at hl 1 rfl) ?_
          refine lv_dup hx hb dX5_append_34 rfl ?_
          refine va_get (D := D) (ci := 5) (v := .int (nI (nt + 1))) (C := RX5) (T := TX5) (N := 2) hx hb hts inX5 hown hK hP 0 rfl rfl 1 (by decide) fl15 (fun _ h9 => h9) rfl dX5_append_35 ?_
          refine lv_iconst (v := 1) hx hb dX5_append_38 (by decide) ?_
          refine m_iaddN (a := (nt + 1)) (b := 1) hx hb dX5_append_39 ?_
          refine va_put (D := D) (ci := 5) (v := .int (nI ((nt + 1) + 1))) (ty := .int) (C := RX5) (T := TX5) (N := 2) hx hb hts inX5 tyX5 tyX5_ok nmX5 hown hK hP hD hS 0 rfl rfl 1 (by decide) fl15 (fun _ h9 => h9) rfl (by decide +kernel) (rfl) (rfl) (Nat.le_of_ble_eq_true rfl) dX5_append_40 (fun H locs hP hD hS => ?_)
          have hP : va_P D vwCl [ob aTA 5 [.ref aBY, .int (nI ((nt + 1) + 1))], ar cI aBY 300 (upd (upd fBY nt ((((x).toUInt32 >>> ((24 : Int32).toUInt32 &&& Int32.toUInt32 31)).toInt32) &&& 255)) (nt + 1) ((((x).toUInt32 >>> ((16 : Int32).toUInt32 &&& Int32.toUInt32 31)).toInt32) &&& 255))] H := hP
          have hD : va_D A [ob aTA 5 [.ref aBY, .int (nI ((nt + 1) + 1))], ar cI aBY 300 (upd (upd fBY nt ((((x).toUInt32 >>> ((24 : Int32).toUInt32 &&& Int32.toUInt32 31)).toInt32) &&& 255)) (nt + 1) ((((x).toUInt32 >>> ((16 : Int32).toUInt32 &&& Int32.toUInt32 31)).toInt32) &&& 255))] := hD
          refine lv_iinc (v := 8) (lv' := [(2, .int 8), (0, .ref aTA), (1, .int x)]) hx hb dX5_append_43 hl (k := 0) rfl (by decide) (by decide) rfl (fun ls hl => ?_)
          refine lv_goto (tgt := 3) hx hb dX5_append_46 (by decide) ?_
          refine lv_iload_n hx hb dX5_append_3 rfl (lv_at hl 0 rfl) ?_
          refine lv_if_lt (tgt := 49) hx hb dX5_append_4 (by decide) (fun c_4 => ?_) (fun c_4 => ?_)
          · skip
            exact absurd c_4 (by decide)
          · skip
            refine lv_aload_n hx hb dX5_append_7 rfl (lv_at hl 1 rfl) ?_
            refine va_get (D := D) (ci := 5) (v := .int (nI ((nt + 1) + 1))) (C := RX5) (T := TX5) (N := 2) hx hb hts inX5 hown hK hP 0 rfl rfl 1 (by decide) fl15 (fun _ h9 => h9) rfl dX5_append_8 ?_
            refine lv_sipush (v := 300) hx hb dX5_append_11 (by decide) ?_
            refine lv_icmp_ge (tgt := 49) hx hb dX5_append_14 (by decide) (fun c_14 => ?_) (fun c_14 => ?_)
            · skip
              have k_14 : 300 ≤ ((nt + 1) + 1) := (nI_leI (a := 300) (b := ((nt + 1) + 1)) (by omega) (by omega)).mp c_14
              exact absurd k_14 (by omega)
            · skip
              have k_14 : ¬ 300 ≤ ((nt + 1) + 1) := fun h9 => c_14 ((nI_leI (a := 300) (b := ((nt + 1) + 1)) (by omega) (by omega)).mpr h9)
              refine lv_aload_n hx hb dX5_append_17 rfl (lv_at hl 1 rfl) ?_
              refine va_get (D := D) (ci := 5) (v := .ref aBY) (C := RX5) (T := TX5) (N := 2) hx hb hts inX5 hown hK hP 0 rfl rfl 0 (by decide) fl9 (fun _ h9 => h9) rfl dX5_append_18 ?_
              refine lv_aload_n hx hb dX5_append_21 rfl (lv_at hl 1 rfl) ?_
              refine va_get (D := D) (ci := 5) (v := .int (nI ((nt + 1) + 1))) (C := RX5) (T := TX5) (N := 2) hx hb hts inX5 hown hK hP 0 rfl rfl 1 (by decide) fl15 (fun _ h9 => h9) rfl dX5_append_22 ?_
              refine lv_iload_n hx hb dX5_append_25 rfl (lv_at hl 2 rfl) ?_
              refine lv_iload_n hx hb dX5_append_26 rfl (lv_at hl 0 rfl) ?_
              refine lv_iushr (v := ((x).toUInt32 >>> ((8 : Int32).toUInt32 &&& Int32.toUInt32 31)).toInt32) hx hb dX5_append_27 rfl ?_
              refine lv_sipush (v := 255) hx hb dX5_append_28 (by decide) ?_
              refine lv_iand hx hb dX5_append_31 ?_
              refine m_iast (k := ((nt + 1) + 1)) (x := ((((x).toUInt32 >>> ((8 : Int32).toUInt32 &&& Int32.toUInt32 31)).toInt32) &&& 255)) hx hb hK hP hD hS 1 0 rfl rfl (by omega) (by decide) dX5_append_32 (fun H locs hP hD hS => ?_)
              have hP : va_P D vwCl [ob aTA 5 [.ref aBY, .int (nI ((nt + 1) + 1))], ar cI aBY 300 (upd (upd (upd fBY nt ((((x).toUInt32 >>> ((24 : Int32).toUInt32 &&& Int32.toUInt32 31)).toInt32) &&& 255)) (nt + 1) ((((x).toUInt32 >>> ((16 : Int32).toUInt32 &&& Int32.toUInt32 31)).toInt32) &&& 255)) ((nt + 1) + 1) ((((x).toUInt32 >>> ((8 : Int32).toUInt32 &&& Int32.toUInt32 31)).toInt32) &&& 255))] H := hP
              have hD : va_D A [ob aTA 5 [.ref aBY, .int (nI ((nt + 1) + 1))], ar cI aBY 300 (upd (upd (upd fBY nt ((((x).toUInt32 >>> ((24 : Int32).toUInt32 &&& Int32.toUInt32 31)).toInt32) &&& 255)) (nt + 1) ((((x).toUInt32 >>> ((16 : Int32).toUInt32 &&& Int32.toUInt32 31)).toInt32) &&& 255)) ((nt + 1) + 1) ((((x).toUInt32 >>> ((8 : Int32).toUInt32 &&& Int32.toUInt32 31)).toInt32) &&& 255))] := hD
              refine lv_aload_n hx hb dX5_append_33 rfl (lv_at hl 1 rfl) ?_
              refine lv_dup hx hb dX5_append_34 rfl ?_
              refine va_get (D := D) (ci := 5) (v := .int (nI ((nt + 1) + 1))) (C := RX5) (T := TX5) (N := 2) hx hb hts inX5 hown hK hP 0 rfl rfl 1 (by decide) fl15 (fun _ h9 => h9) rfl dX5_append_35 ?_
              refine lv_iconst (v := 1) hx hb dX5_append_38 (by decide) ?_
              refine m_iaddN (a := ((nt + 1) + 1)) (b := 1) hx hb dX5_append_39 ?_
              refine va_put (D := D) (ci := 5) (v := .int (nI (((nt + 1) + 1) + 1))) (ty := .int) (C := RX5) (T := TX5) (N := 2) hx hb hts inX5 tyX5 tyX5_ok nmX5 hown hK hP hD hS 0 rfl rfl 1 (by decide) fl15 (fun _ h9 => h9) rfl (by decide +kernel) (rfl) (rfl) (Nat.le_of_ble_eq_true rfl) dX5_append_40 (fun H locs hP hD hS => ?_)
              have hP : va_P D vwCl [ob aTA 5 [.ref aBY, .int (nI (((nt + 1) + 1) + 1))], ar cI aBY 300 (upd (upd (upd fBY nt ((((x).toUInt32 >>> ((24 : Int32).toUInt32 &&& Int32.toUInt32 31)).toInt32) &&& 255)) (nt + 1) ((((x).toUInt32 >>> ((16 : Int32).toUInt32 &&& Int32.toUInt32 31)).toInt32) &&& 255)) ((nt + 1) + 1) ((((x).toUInt32 >>> ((8 : Int32).toUInt32 &&& Int32.toUInt32 31)).toInt32) &&& 255))] H := hP
              have hD : va_D A [ob aTA 5 [.ref aBY, .int (nI (((nt + 1) + 1) + 1))], ar cI aBY 300 (upd (upd (upd fBY nt ((((x).toUInt32 >>> ((24 : Int32).toUInt32 &&& Int32.toUInt32 31)).toInt32) &&& 255)) (nt + 1) ((((x).toUInt32 >>> ((16 : Int32).toUInt32 &&& Int32.toUInt32 31)).toInt32) &&& 255)) ((nt + 1) + 1) ((((x).toUInt32 >>> ((8 : Int32).toUInt32 &&& Int32.toUInt32 31)).toInt32) &&& 255))] := hD
              refine lv_iinc (v := 0) (lv' := [(2, .int 0), (0, .ref aTA), (1, .int x)]) hx hb dX5_append_43 hl (k := 0) rfl (by decide) (by decide) rfl (fun ls hl => ?_)
              refine lv_goto (tgt := 3) hx hb dX5_append_46 (by decide) ?_
              refine lv_iload_n hx hb dX5_append_3 rfl (lv_at hl 0 rfl) ?_
              refine lv_if_lt (tgt := 49) hx hb dX5_append_4 (by decide) (fun c_4 => ?_) (fun c_4 => ?_)
              · skip
                exact absurd c_4 (by decide)
              · skip
                refine lv_aload_n hx hb dX5_append_7 rfl (lv_at hl 1 rfl) ?_
                refine va_get (D := D) (ci := 5) (v := .int (nI (((nt + 1) + 1) + 1))) (C := RX5) (T := TX5) (N := 2) hx hb hts inX5 hown hK hP 0 rfl rfl 1 (by decide) fl15 (fun _ h9 => h9) rfl dX5_append_8 ?_
                refine lv_sipush (v := 300) hx hb dX5_append_11 (by decide) ?_
                refine lv_icmp_ge (tgt := 49) hx hb dX5_append_14 (by decide) (fun c_14 => ?_) (fun c_14 => ?_)
                · skip
                  have k_14 : 300 ≤ (((nt + 1) + 1) + 1) := (nI_leI (a := 300) (b := (((nt + 1) + 1) + 1)) (by omega) (by omega)).mp c_14
                  exact absurd k_14 (by omega)
                · skip
                  have k_14 : ¬ 300 ≤ (((nt + 1) + 1) + 1) := fun h9 => c_14 ((nI_leI (a := 300) (b := (((nt + 1) + 1) + 1)) (by omega) (by omega)).mpr h9)
                  refine lv_aload_n hx hb dX5_append_17 rfl (lv_at hl 1 rfl) ?_
                  refine va_get (D := D) (ci := 5) (v := .ref aBY) (C := RX5) (T := TX5) (N := 2) hx hb hts inX5 hown hK hP 0 rfl rfl 0 (by decide) fl9 (fun _ h9 => h9) rfl dX5_append_18 ?_
                  refine lv_aload_n hx hb dX5_append_21 rfl (lv_at hl 1 rfl) ?_
                  refine va_get (D := D) (ci := 5) (v := .int (nI (((nt + 1) + 1) + 1))) (C := RX5) (T := TX5) (N := 2) hx hb hts inX5 hown hK hP 0 rfl rfl 1 (by decide) fl15 (fun _ h9 => h9) rfl dX5_append_22 ?_
                  refine lv_iload_n hx hb dX5_append_25 rfl (lv_at hl 2 rfl) ?_
                  refine lv_iload_n hx hb dX5_append_26 rfl (lv_at hl 0 rfl) ?_
                  refine lv_iushr (v := ((x).toUInt32 >>> ((0 : Int32).toUInt32 &&& Int32.toUInt32 31)).toInt32) hx hb dX5_append_27 rfl ?_
                  refine lv_sipush (v := 255) hx hb dX5_append_28 (by decide) ?_
                  refine lv_iand hx hb dX5_append_31 ?_
                  refine m_iast (k := (((nt + 1) + 1) + 1)) (x := ((((x).toUInt32 >>> ((0 : Int32).toUInt32 &&& Int32.toUInt32 31)).toInt32) &&& 255)) hx hb hK hP hD hS 1 0 rfl rfl (by omega) (by decide) dX5_append_32 (fun H locs hP hD hS => ?_)
                  have hP : va_P D vwCl [ob aTA 5 [.ref aBY, .int (nI (((nt + 1) + 1) + 1))], ar cI aBY 300 (upd (upd (upd (upd fBY nt ((((x).toUInt32 >>> ((24 : Int32).toUInt32 &&& Int32.toUInt32 31)).toInt32) &&& 255)) (nt + 1) ((((x).toUInt32 >>> ((16 : Int32).toUInt32 &&& Int32.toUInt32 31)).toInt32) &&& 255)) ((nt + 1) + 1) ((((x).toUInt32 >>> ((8 : Int32).toUInt32 &&& Int32.toUInt32 31)).toInt32) &&& 255)) (((nt + 1) + 1) + 1) ((((x).toUInt32 >>> ((0 : Int32).toUInt32 &&& Int32.toUInt32 31)).toInt32) &&& 255))] H := hP
                  have hD : va_D A [ob aTA 5 [.ref aBY, .int (nI (((nt + 1) + 1) + 1))], ar cI aBY 300 (upd (upd (upd (upd fBY nt ((((x).toUInt32 >>> ((24 : Int32).toUInt32 &&& Int32.toUInt32 31)).toInt32) &&& 255)) (nt + 1) ((((x).toUInt32 >>> ((16 : Int32).toUInt32 &&& Int32.toUInt32 31)).toInt32) &&& 255)) ((nt + 1) + 1) ((((x).toUInt32 >>> ((8 : Int32).toUInt32 &&& Int32.toUInt32 31)).toInt32) &&& 255)) (((nt + 1) + 1) + 1) ((((x).toUInt32 >>> ((0 : Int32).toUInt32 &&& Int32.toUInt32 31)).toInt32) &&& 255))] := hD
                  refine lv_aload_n hx hb dX5_append_33 rfl (lv_at hl 1 rfl) ?_
                  refine lv_dup hx hb dX5_append_34 rfl ?_
                  refine va_get (D := D) (ci := 5) (v := .int (nI (((nt + 1) + 1) + 1))) (C := RX5) (T := TX5) (N := 2) hx hb hts inX5 hown hK hP 0 rfl rfl 1 (by decide) fl15 (fun _ h9 => h9) rfl dX5_append_35 ?_
                  refine lv_iconst (v := 1) hx hb dX5_append_38 (by decide) ?_
                  refine m_iaddN (a := (((nt + 1) + 1) + 1)) (b := 1) hx hb dX5_append_39 ?_
                  refine va_put (D := D) (ci := 5) (v := .int (nI ((((nt + 1) + 1) + 1) + 1))) (ty := .int) (C := RX5) (T := TX5) (N := 2) hx hb hts inX5 tyX5 tyX5_ok nmX5 hown hK hP hD hS 0 rfl rfl 1 (by decide) fl15 (fun _ h9 => h9) rfl (by decide +kernel) (rfl) (rfl) (Nat.le_of_ble_eq_true rfl) dX5_append_40 (fun H locs hP hD hS => ?_)
                  have hP : va_P D vwCl [ob aTA 5 [.ref aBY, .int (nI ((((nt + 1) + 1) + 1) + 1))], ar cI aBY 300 (upd (upd (upd (upd fBY nt ((((x).toUInt32 >>> ((24 : Int32).toUInt32 &&& Int32.toUInt32 31)).toInt32) &&& 255)) (nt + 1) ((((x).toUInt32 >>> ((16 : Int32).toUInt32 &&& Int32.toUInt32 31)).toInt32) &&& 255)) ((nt + 1) + 1) ((((x).toUInt32 >>> ((8 : Int32).toUInt32 &&& Int32.toUInt32 31)).toInt32) &&& 255)) (((nt + 1) + 1) + 1) ((((x).toUInt32 >>> ((0 : Int32).toUInt32 &&& Int32.toUInt32 31)).toInt32) &&& 255))] H := hP
                  have hD : va_D A [ob aTA 5 [.ref aBY, .int (nI ((((nt + 1) + 1) + 1) + 1))], ar cI aBY 300 (upd (upd (upd (upd fBY nt ((((x).toUInt32 >>> ((24 : Int32).toUInt32 &&& Int32.toUInt32 31)).toInt32) &&& 255)) (nt + 1) ((((x).toUInt32 >>> ((16 : Int32).toUInt32 &&& Int32.toUInt32 31)).toInt32) &&& 255)) ((nt + 1) + 1) ((((x).toUInt32 >>> ((8 : Int32).toUInt32 &&& Int32.toUInt32 31)).toInt32) &&& 255)) (((nt + 1) + 1) + 1) ((((x).toUInt32 >>> ((0 : Int32).toUInt32 &&& Int32.toUInt32 31)).toInt32) &&& 255))] := hD
                  refine lv_iinc (v := (-8)) (lv' := [(2, .int (-8)), (0, .ref aTA), (1, .int x)]) hx hb dX5_append_43 hl (k := 0) rfl (by decide) (by decide) rfl (fun ls hl => ?_)
                  refine lv_goto (tgt := 3) hx hb dX5_append_46 (by decide) ?_
                  refine lv_iload_n hx hb dX5_append_3 rfl (lv_at hl 0 rfl) ?_
                  refine lv_if_lt (tgt := 49) hx hb dX5_append_4 (by decide) (fun c_4 => ?_) (fun c_4 => ?_)
                  · skip
                    exact ret (upd (upd (upd (upd fBY nt ((((x).toUInt32 >>> ((24 : Int32).toUInt32 &&& Int32.toUInt32 31)).toInt32) &&& 255)) (nt + 1) ((((x).toUInt32 >>> ((16 : Int32).toUInt32 &&& Int32.toUInt32 31)).toInt32) &&& 255)) ((nt + 1) + 1) ((((x).toUInt32 >>> ((8 : Int32).toUInt32 &&& Int32.toUInt32 31)).toInt32) &&& 255)) (((nt + 1) + 1) + 1) ((((x).toUInt32 >>> ((0 : Int32).toUInt32 &&& Int32.toUInt32 31)).toInt32) &&& 255)) _ _ _ _ dX5_append_49 (rfl) (hP) (hD) hS
                  · skip
                    exact absurd c_4 (by decide)
end
