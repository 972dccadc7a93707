section
/-- a guard while the rows are written: over the whole library a round ends here (an unknown name would send all parts through it); taken out before the hand-in -/
theorem zz_guard : True := by
  fail_if_success (have zz_h := @Jvm.Stand.fitsSlot_none)
  trivial
end
section
-- ===== PART A: goes FIRST, ahead of the names: the tables' words, and 'selects' of the private methods out of them =====
/-- a private method of a class that the tables say can be made, by its rows of tables_1 -/
def lw_okq (q : MethodName × Nat) : Prop := (q.1.cls ≠ "java/lang/invoke/MethodHandle" ∧ q.1.cls ≠ "java/lang/invoke/VarHandle") ∧ Cond.instantiable q.1.cls q.2 ∈ tables_1 ∧ Cond.privateMethod q.1 ∈ tables_1 ∧ Cond.instanceMethod q.1 ∈ tables_1
theorem lw_p0 : lw_okq (⟨"TriggerAnalyzer$Exploration", "clear", "()V"⟩, 12) := ⟨⟨by decide +kernel, by decide +kernel⟩, List.mem_of_getElem? (i := 113) (by decide +kernel), List.mem_of_getElem? (i := 266) (by decide +kernel), List.mem_of_getElem? (i := 267) (by decide +kernel)⟩
theorem lw_p1 : lw_okq (⟨"TriggerAnalyzer$Exploration", "mark", "(II)V"⟩, 12) := ⟨⟨by decide +kernel, by decide +kernel⟩, List.mem_of_getElem? (i := 113) (by decide +kernel), List.mem_of_getElem? (i := 270) (by decide +kernel), List.mem_of_getElem? (i := 271) (by decide +kernel)⟩
theorem lw_p2 : lw_okq (⟨"TriggerAnalyzer$Exploration", "placeOf", "(II)I"⟩, 12) := ⟨⟨by decide +kernel, by decide +kernel⟩, List.mem_of_getElem? (i := 113) (by decide +kernel), List.mem_of_getElem? (i := 278) (by decide +kernel), List.mem_of_getElem? (i := 279) (by decide +kernel)⟩
theorem lw_p3 : lw_okq (⟨"TriggerAnalyzer$Exploration", "expand", "(I)V"⟩, 12) := ⟨⟨by decide +kernel, by decide +kernel⟩, List.mem_of_getElem? (i := 113) (by decide +kernel), List.mem_of_getElem? (i := 282) (by decide +kernel), List.mem_of_getElem? (i := 283) (by decide +kernel)⟩
theorem lw_p4 : lw_okq (⟨"TriggerAnalyzer$Exploration", "keepNext", "(II)V"⟩, 12) := ⟨⟨by decide +kernel, by decide +kernel⟩, List.mem_of_getElem? (i := 113) (by decide +kernel), List.mem_of_getElem? (i := 329) (by decide +kernel), List.mem_of_getElem? (i := 330) (by decide +kernel)⟩
theorem lw_p5 : lw_okq (⟨"TriggerAnalyzer$Prospect", "countIncoming", "(LTriggerAnalyzer$Exploration;)V"⟩, 8) := ⟨⟨by decide +kernel, by decide +kernel⟩, List.mem_of_getElem? (i := 135) (by decide +kernel), List.mem_of_getElem? (i := 337) (by decide +kernel), List.mem_of_getElem? (i := 338) (by decide +kernel)⟩
theorem lw_p6 : lw_okq (⟨"TriggerAnalyzer$Prospect", "startAtFirst", "()V"⟩, 8) := ⟨⟨by decide +kernel, by decide +kernel⟩, List.mem_of_getElem? (i := 135) (by decide +kernel), List.mem_of_getElem? (i := 349) (by decide +kernel), List.mem_of_getElem? (i := 350) (by decide +kernel)⟩
theorem lw_p7 : lw_okq (⟨"TriggerAnalyzer$Prospect", "enqueue", "(I)V"⟩, 8) := ⟨⟨by decide +kernel, by decide +kernel⟩, List.mem_of_getElem? (i := 135) (by decide +kernel), List.mem_of_getElem? (i := 353) (by decide +kernel), List.mem_of_getElem? (i := 354) (by decide +kernel)⟩
theorem lw_p8 : lw_okq (⟨"TriggerAnalyzer$Prospect", "take", "(LTriggerAnalyzer$Exploration;I)V"⟩, 8) := ⟨⟨by decide +kernel, by decide +kernel⟩, List.mem_of_getElem? (i := 135) (by decide +kernel), List.mem_of_getElem? (i := 357) (by decide +kernel), List.mem_of_getElem? (i := 358) (by decide +kernel)⟩
theorem lw_p9 : lw_okq (⟨"TriggerAnalyzer$Prospect", "lead", "(IIJ)V"⟩, 8) := ⟨⟨by decide +kernel, by decide +kernel⟩, List.mem_of_getElem? (i := 135) (by decide +kernel), List.mem_of_getElem? (i := 361) (by decide +kernel), List.mem_of_getElem? (i := 362) (by decide +kernel)⟩
theorem lw_p10 : lw_okq (⟨"TriggerAnalyzer$Judge", "spreadReach", "()V"⟩, 2) := ⟨⟨by decide +kernel, by decide +kernel⟩, List.mem_of_getElem? (i := 100) (by decide +kernel), List.mem_of_getElem? (i := 380) (by decide +kernel), List.mem_of_getElem? (i := 381) (by decide +kernel)⟩
theorem lw_p11 : lw_okq (⟨"TriggerAnalyzer$Judge", "areInConflict", "(II)Z"⟩, 2) := ⟨⟨by decide +kernel, by decide +kernel⟩, List.mem_of_getElem? (i := 100) (by decide +kernel), List.mem_of_getElem? (i := 397) (by decide +kernel), List.mem_of_getElem? (i := 398) (by decide +kernel)⟩
theorem lw_p12 : lw_okq (⟨"java/lang/Throwable", "fillInStackTrace", "(I)Ljava/lang/Throwable;"⟩, 6) := ⟨⟨by decide +kernel, by decide +kernel⟩, List.mem_of_getElem? (i := 485) (by decide +kernel), List.mem_of_getElem? (i := 483) (by decide +kernel), List.mem_of_getElem? (i := 484) (by decide +kernel)⟩
theorem lw_p13 : lw_okq (⟨"TriggerAnalyzer", "ruleAt", "(I)LTriggerAnalyzer$Rule;"⟩, 4) := ⟨⟨by decide +kernel, by decide +kernel⟩, List.mem_of_getElem? (i := 18) (by decide +kernel), List.mem_of_getElem? (i := 576) (by decide +kernel), List.mem_of_getElem? (i := 577) (by decide +kernel)⟩
theorem lw_p14 : lw_okq (⟨"TriggerAnalyzer", "exploredAt", "(I)I"⟩, 4) := ⟨⟨by decide +kernel, by decide +kernel⟩, List.mem_of_getElem? (i := 18) (by decide +kernel), List.mem_of_getElem? (i := 665) (by decide +kernel), List.mem_of_getElem? (i := 666) (by decide +kernel)⟩
theorem lw_p15 : lw_okq (⟨"TriggerAnalyzer", "needExplored", "()V"⟩, 4) := ⟨⟨by decide +kernel, by decide +kernel⟩, List.mem_of_getElem? (i := 18) (by decide +kernel), List.mem_of_getElem? (i := 669) (by decide +kernel), List.mem_of_getElem? (i := 670) (by decide +kernel)⟩
def lw_privs_1 : List (MethodName × Nat) := [(⟨"TriggerAnalyzer$Exploration", "clear", "()V"⟩, 12), (⟨"TriggerAnalyzer$Exploration", "mark", "(II)V"⟩, 12), (⟨"TriggerAnalyzer$Exploration", "placeOf", "(II)I"⟩, 12), (⟨"TriggerAnalyzer$Exploration", "expand", "(I)V"⟩, 12), (⟨"TriggerAnalyzer$Exploration", "keepNext", "(II)V"⟩, 12), (⟨"TriggerAnalyzer$Prospect", "countIncoming", "(LTriggerAnalyzer$Exploration;)V"⟩, 8), (⟨"TriggerAnalyzer$Prospect", "startAtFirst", "()V"⟩, 8), (⟨"TriggerAnalyzer$Prospect", "enqueue", "(I)V"⟩, 8), (⟨"TriggerAnalyzer$Prospect", "take", "(LTriggerAnalyzer$Exploration;I)V"⟩, 8), (⟨"TriggerAnalyzer$Prospect", "lead", "(IIJ)V"⟩, 8), (⟨"TriggerAnalyzer$Judge", "spreadReach", "()V"⟩, 2), (⟨"TriggerAnalyzer$Judge", "areInConflict", "(II)Z"⟩, 2), (⟨"java/lang/Throwable", "fillInStackTrace", "(I)Ljava/lang/Throwable;"⟩, 6), (⟨"TriggerAnalyzer", "ruleAt", "(I)LTriggerAnalyzer$Rule;"⟩, 4), (⟨"TriggerAnalyzer", "exploredAt", "(I)I"⟩, 4), (⟨"TriggerAnalyzer", "needExplored", "()V"⟩, 4)]
theorem lw_r1 : ∀ q ∈ lw_privs_1, lw_okq q := List.forall_mem_cons.mpr ⟨lw_p0, List.forall_mem_cons.mpr ⟨lw_p1, List.forall_mem_cons.mpr ⟨lw_p2, List.forall_mem_cons.mpr ⟨lw_p3, List.forall_mem_cons.mpr ⟨lw_p4, List.forall_mem_cons.mpr ⟨lw_p5, List.forall_mem_cons.mpr ⟨lw_p6, List.forall_mem_cons.mpr ⟨lw_p7, List.forall_mem_cons.mpr ⟨lw_p8, List.forall_mem_cons.mpr ⟨lw_p9, List.forall_mem_cons.mpr ⟨lw_p10, List.forall_mem_cons.mpr ⟨lw_p11, List.forall_mem_cons.mpr ⟨lw_p12, List.forall_mem_cons.mpr ⟨lw_p13, List.forall_mem_cons.mpr ⟨lw_p14, List.forall_mem_cons.mpr ⟨lw_p15, fun _ h => absurd h List.not_mem_nil⟩⟩⟩⟩⟩⟩⟩⟩⟩⟩⟩⟩⟩⟩⟩⟩
theorem lw_p16 : lw_okq (⟨"TriggerAnalyzerModel", "fail", "(I)I"⟩, 18) := ⟨⟨by decide +kernel, by decide +kernel⟩, List.mem_of_getElem? (i := 817) (by decide +kernel), List.mem_of_getElem? (i := 890) (by decide +kernel), List.mem_of_getElem? (i := 891) (by decide +kernel)⟩
theorem lw_p17 : lw_okq (⟨"TriggerAnalyzerModel", "isRule", "(I)Z"⟩, 18) := ⟨⟨by decide +kernel, by decide +kernel⟩, List.mem_of_getElem? (i := 817) (by decide +kernel), List.mem_of_getElem? (i := 904) (by decide +kernel), List.mem_of_getElem? (i := 905) (by decide +kernel)⟩
theorem lw_p18 : lw_okq (⟨"TriggerAnalyzerModel", "now", "()I"⟩, 18) := ⟨⟨by decide +kernel, by decide +kernel⟩, List.mem_of_getElem? (i := 817) (by decide +kernel), List.mem_of_getElem? (i := 935) (by decide +kernel), List.mem_of_getElem? (i := 936) (by decide +kernel)⟩
theorem lw_p19 : lw_okq (⟨"TriggerAnalyzerModel", "behind", "(II)I"⟩, 18) := ⟨⟨by decide +kernel, by decide +kernel⟩, List.mem_of_getElem? (i := 817) (by decide +kernel), List.mem_of_getElem? (i := 939) (by decide +kernel), List.mem_of_getElem? (i := 940) (by decide +kernel)⟩
theorem lw_p20 : lw_okq (⟨"TriggerAnalyzerModel", "become", "(I)V"⟩, 18) := ⟨⟨by decide +kernel, by decide +kernel⟩, List.mem_of_getElem? (i := 817) (by decide +kernel), List.mem_of_getElem? (i := 943) (by decide +kernel), List.mem_of_getElem? (i := 944) (by decide +kernel)⟩
theorem lw_p21 : lw_okq (⟨"TriggerAnalyzerModel", "readyIn", "(I)I"⟩, 18) := ⟨⟨by decide +kernel, by decide +kernel⟩, List.mem_of_getElem? (i := 817) (by decide +kernel), List.mem_of_getElem? (i := 962) (by decide +kernel), List.mem_of_getElem? (i := 963) (by decide +kernel)⟩
theorem lw_p22 : lw_okq (⟨"TriggerAnalyzerModel", "isTrue", "(II)Z"⟩, 18) := ⟨⟨by decide +kernel, by decide +kernel⟩, List.mem_of_getElem? (i := 817) (by decide +kernel), List.mem_of_getElem? (i := 970) (by decide +kernel), List.mem_of_getElem? (i := 971) (by decide +kernel)⟩
theorem lw_p23 : lw_okq (⟨"TriggerAnalyzerModel", "playIn", "(II)I"⟩, 18) := ⟨⟨by decide +kernel, by decide +kernel⟩, List.mem_of_getElem? (i := 817) (by decide +kernel), List.mem_of_getElem? (i := 974) (by decide +kernel), List.mem_of_getElem? (i := 975) (by decide +kernel)⟩
theorem lw_p24 : lw_okq (⟨"TriggerAnalyzerModel", "exploreAll", "()V"⟩, 18) := ⟨⟨by decide +kernel, by decide +kernel⟩, List.mem_of_getElem? (i := 817) (by decide +kernel), List.mem_of_getElem? (i := 990) (by decide +kernel), List.mem_of_getElem? (i := 991) (by decide +kernel)⟩
theorem lw_p25 : lw_okq (⟨"TriggerAnalyzerModel", "numberOf", "(I)I"⟩, 18) := ⟨⟨by decide +kernel, by decide +kernel⟩, List.mem_of_getElem? (i := 817) (by decide +kernel), List.mem_of_getElem? (i := 994) (by decide +kernel), List.mem_of_getElem? (i := 995) (by decide +kernel)⟩
theorem lw_p26 : lw_okq (⟨"TriggerAnalyzerModel", "asks", "(II)Z"⟩, 18) := ⟨⟨by decide +kernel, by decide +kernel⟩, List.mem_of_getElem? (i := 817) (by decide +kernel), List.mem_of_getElem? (i := 1002) (by decide +kernel), List.mem_of_getElem? (i := 1003) (by decide +kernel)⟩
theorem lw_p27 : lw_okq (⟨"TriggerAnalyzerModel", "isWhole", "()Z"⟩, 18) := ⟨⟨by decide +kernel, by decide +kernel⟩, List.mem_of_getElem? (i := 817) (by decide +kernel), List.mem_of_getElem? (i := 1006) (by decide +kernel), List.mem_of_getElem? (i := 1007) (by decide +kernel)⟩
theorem lw_p28 : lw_okq (⟨"TriggerAnalyzerModel", "settle", "()Z"⟩, 18) := ⟨⟨by decide +kernel, by decide +kernel⟩, List.mem_of_getElem? (i := 817) (by decide +kernel), List.mem_of_getElem? (i := 1022) (by decide +kernel), List.mem_of_getElem? (i := 1023) (by decide +kernel)⟩
theorem lw_p29 : lw_okq (⟨"TriggerAnalyzerModel", "isSettled", "(I)Z"⟩, 18) := ⟨⟨by decide +kernel, by decide +kernel⟩, List.mem_of_getElem? (i := 817) (by decide +kernel), List.mem_of_getElem? (i := 1026) (by decide +kernel), List.mem_of_getElem? (i := 1027) (by decide +kernel)⟩
theorem lw_p30 : lw_okq (⟨"TriggerAnalyzerModel", "isEnd", "(I)Z"⟩, 18) := ⟨⟨by decide +kernel, by decide +kernel⟩, List.mem_of_getElem? (i := 817) (by decide +kernel), List.mem_of_getElem? (i := 1030) (by decide +kernel), List.mem_of_getElem? (i := 1031) (by decide +kernel)⟩
theorem lw_p31 : lw_okq (⟨"TriggerAnalyzerModel", "triggers", "(I)I"⟩, 18) := ⟨⟨by decide +kernel, by decide +kernel⟩, List.mem_of_getElem? (i := 817) (by decide +kernel), List.mem_of_getElem? (i := 1070) (by decide +kernel), List.mem_of_getElem? (i := 1071) (by decide +kernel)⟩
def lw_privs_2 : List (MethodName × Nat) := [(⟨"TriggerAnalyzerModel", "fail", "(I)I"⟩, 18), (⟨"TriggerAnalyzerModel", "isRule", "(I)Z"⟩, 18), (⟨"TriggerAnalyzerModel", "now", "()I"⟩, 18), (⟨"TriggerAnalyzerModel", "behind", "(II)I"⟩, 18), (⟨"TriggerAnalyzerModel", "become", "(I)V"⟩, 18), (⟨"TriggerAnalyzerModel", "readyIn", "(I)I"⟩, 18), (⟨"TriggerAnalyzerModel", "isTrue", "(II)Z"⟩, 18), (⟨"TriggerAnalyzerModel", "playIn", "(II)I"⟩, 18), (⟨"TriggerAnalyzerModel", "exploreAll", "()V"⟩, 18), (⟨"TriggerAnalyzerModel", "numberOf", "(I)I"⟩, 18), (⟨"TriggerAnalyzerModel", "asks", "(II)Z"⟩, 18), (⟨"TriggerAnalyzerModel", "isWhole", "()Z"⟩, 18), (⟨"TriggerAnalyzerModel", "settle", "()Z"⟩, 18), (⟨"TriggerAnalyzerModel", "isSettled", "(I)Z"⟩, 18), (⟨"TriggerAnalyzerModel", "isEnd", "(I)Z"⟩, 18), (⟨"TriggerAnalyzerModel", "triggers", "(I)I"⟩, 18)]
theorem lw_r2 : ∀ q ∈ lw_privs_2, lw_okq q := List.forall_mem_cons.mpr ⟨lw_p16, List.forall_mem_cons.mpr ⟨lw_p17, List.forall_mem_cons.mpr ⟨lw_p18, List.forall_mem_cons.mpr ⟨lw_p19, List.forall_mem_cons.mpr ⟨lw_p20, List.forall_mem_cons.mpr ⟨lw_p21, List.forall_mem_cons.mpr ⟨lw_p22, List.forall_mem_cons.mpr ⟨lw_p23, List.forall_mem_cons.mpr ⟨lw_p24, List.forall_mem_cons.mpr ⟨lw_p25, List.forall_mem_cons.mpr ⟨lw_p26, List.forall_mem_cons.mpr ⟨lw_p27, List.forall_mem_cons.mpr ⟨lw_p28, List.forall_mem_cons.mpr ⟨lw_p29, List.forall_mem_cons.mpr ⟨lw_p30, List.forall_mem_cons.mpr ⟨lw_p31, fun _ h => absurd h List.not_mem_nil⟩⟩⟩⟩⟩⟩⟩⟩⟩⟩⟩⟩⟩⟩⟩⟩
theorem lw_p32 : lw_okq (⟨"TriggerAnalyzerModel", "doCommute", "(II)Z"⟩, 18) := ⟨⟨by decide +kernel, by decide +kernel⟩, List.mem_of_getElem? (i := 817) (by decide +kernel), List.mem_of_getElem? (i := 1082) (by decide +kernel), List.mem_of_getElem? (i := 1083) (by decide +kernel)⟩
theorem lw_p33 : lw_okq (⟨"TriggerAnalyzerModel", "disturbs", "(II)Z"⟩, 18) := ⟨⟨by decide +kernel, by decide +kernel⟩, List.mem_of_getElem? (i := 817) (by decide +kernel), List.mem_of_getElem? (i := 1086) (by decide +kernel), List.mem_of_getElem? (i := 1087) (by decide +kernel)⟩
theorem lw_p34 : lw_okq (⟨"TriggerAnalyzerModel", "isConflict", "(II)Z"⟩, 18) := ⟨⟨by decide +kernel, by decide +kernel⟩, List.mem_of_getElem? (i := 817) (by decide +kernel), List.mem_of_getElem? (i := 1094) (by decide +kernel), List.mem_of_getElem? (i := 1095) (by decide +kernel)⟩
def lw_privs_3 : List (MethodName × Nat) := [(⟨"TriggerAnalyzerModel", "doCommute", "(II)Z"⟩, 18), (⟨"TriggerAnalyzerModel", "disturbs", "(II)Z"⟩, 18), (⟨"TriggerAnalyzerModel", "isConflict", "(II)Z"⟩, 18)]
theorem lw_r3 : ∀ q ∈ lw_privs_3, lw_okq q := List.forall_mem_cons.mpr ⟨lw_p32, List.forall_mem_cons.mpr ⟨lw_p33, List.forall_mem_cons.mpr ⟨lw_p34, fun _ h => absurd h List.not_mem_nil⟩⟩⟩
def lw_privs : List (MethodName × Nat) := lw_privs_1 ++ (lw_privs_2 ++ (lw_privs_3))
def lw_tbl : List Cond := k2_sels lw_privs ++ tables_1
theorem lw_privs_ok : ∀ q ∈ lw_privs, lw_okq q := by
  show ∀ q ∈ lw_privs_1 ++ (lw_privs_2 ++ (lw_privs_3)), lw_okq q
  exact List.forall_mem_append.mpr ⟨lw_r1, List.forall_mem_append.mpr ⟨lw_r2, lw_r3⟩⟩
/-- the streams that the claim lets the run draw from -/
abbrev lw_cs : List Choice := [Jvm.Choice.named "NaN.bits"]
theorem lw_bits : nanBits ∈ lw_cs := by first | decide | exact List.mem_cons_self | simp [lw_cs, nanBits]
end
section
/-! ===== BEGIN words of one list among another's, by their places ===== -/
theorem goodIn_r {big : List Cond} (ws : List Cond) (ps : List Nat) (hp : ws = ps.filterMap (fun i => big[i]?)) (h : ws.all goodWord = true) : GoodIn big ws := by
  intro w hw
  have h1 := List.all_eq_true.mp h w hw
  rw [hp] at hw
  obtain ⟨i, -, hi⟩ := List.mem_filterMap.mp hw
  have hm : w ∈ big := by first | exact List.mem_of_getElem? hi | exact List.getElem?_mem hi
  exact ⟨hm, good_of_word h1⟩
theorem goodIn_app {big a b : List Cond} (ha : GoodIn big a) (hb : GoodIn big b) : GoodIn big (a ++ b) := fun w h => (List.mem_append.mp h).elim (ha w) (hb w)
theorem goodIn_ca {big a b : List Cond} {c : Cond} (ha : GoodIn big (c :: a)) (hb : GoodIn big b) : GoodIn big (c :: (a ++ b)) := fun w h => (List.mem_cons.mp h).elim (fun e => ha w (List.mem_cons.mpr (Or.inl e))) (fun h => (List.mem_append.mp h).elim (fun h => ha w (List.mem_cons.mpr (Or.inr h))) (hb w))
theorem goodIn_sub {big ws : List Cond} (hm : ∀ w ∈ ws, w ∈ big) (h : ws.all goodWord = true) : GoodIn big ws := fun w hw => ⟨hm w hw, good_of_word (List.all_eq_true.mp h w hw)⟩
/-! ===== END ===== -/

/-! ===== BEGIN exceptions that leave a method, and their catching by the caller (launches without stack traces) ===== -/
section VXA
/-! The laws vx_back, vx_callV, vx_callS, vx_callSW, vx_throw0, vx_throwS follow proofs of the library, with one case more: JvmDerived/Free/Laws.lean (Back.of_free), Shelf42/LK1.lean (callV, callS), Shelf/KitTraced.lean (throwNew0V, throwNewS). -/
/-- where a method has thrown q: the class by its name, the cell, what was written, the world -/
def vx_T (XC : String → State → State → Prop) (st : State) (q : Addr) (t : State) (mc ms : Nat) (free : Addr → Prop) : Prop :=
  ∃ (E : String) (ce : Cell) (L : List Loc), XC E st t ∧ t.heap[q]? = some ce ∧ ce.vm = .none ∧ st.vm.findClass E = some ce.cls ∧ st.WarmedH t.vm ∧ st.sameButNew ({ t with vm := st.vm } : State) L mc ms ∧ ∀ z ∈ L, free z.base
def vx_Q (Qc : Array Value → State → Outcome → State → Prop) (XC : String → State → State → Prop) (mc ms : Nat) (free : Addr → Prop) : Array Value → State → Outcome → State → Prop := fun a st o t =>
  (Qc a st o t ∧ ∃ L, FrameEnd st o t L mc ms ∧ ∀ q ∈ L, free q.base) ∨ ∃ q, o = .threw q ∧ vx_T XC st q t mc ms free
/-- a callee that returns or throws -/
def vx_Met (l : Launch) (y : MethodName) (ws : List Cond) (rm : Room) (Pc : Array Value → State → Prop) (Qc : Array Value → State → Outcome → State → Prop) (XC : String → State → State → Prop) (mc ms : Nat) (free : Addr → Prop) : Prop :=
  MetFree l y (headSpec ws rm) Pc (fun _ _ _ _ _ => True) (vx_Q Qc XC mc ms free)
def vx_Post (XC : String → State → State → Prop) (mc ms : Nat) (free : Addr → Prop) : Pt → Array Value → Addr → Pt → Prop := fun A a q B =>
  ∃ (g : JFrame) (mk : MethodId) (t : State) (L : List Loc) (E : String) (ce : Cell), B.U.heap = t.heap ∧ B.U.vm = t.vm ∧ XC E (A.U.calling g mk a) t ∧ t.heap[q]? = some ce ∧ ce.vm = .none ∧ A.U.vm.findClass E = some ce.cls ∧ B.locs = A.locs ++ L ∧ (∀ z ∈ L, free z.base) ∧ B.cells = A.cells + mc ∧ B.slots = A.slots + ms
def vx_Back (l : Launch) (R : Room) (p : Program) (e : Env) (below : List Frame) (s : State) (sargs : Array Value) (y : MethodName) (len W9 : Nat)
    (Pre : Pt → Array Value → Prop) (Post : Pt → Array Value → Option Value → Pt → Prop) (PostX : Pt → Array Value → Addr → Pt → Prop) : Prop :=
  ∀ (m : MethodId) (meth : Method) (c : Code) (A : Pt) (g : JFrame) (ig : Instr) (mk : MethodId) (a : Array Value),
    Stand p l e R s m sargs below meth c A.U A.locs A.cells A.slots → g.method = m → g.locals.size = c.maxLocals → decode c.code g.pc = .ok (ig, len) →
    2 * g.monitorRoom + (g.stack.map fun v => v.category).sum ≤ W9 → A.U.methodNamed? y = some mk → Pre A a →
    (∃ (v : Option Value) (B : Pt), Stand p l e R s m sargs below meth c B.U B.locs B.cells B.slots ∧ Post A a v B ∧
      Steps p.tables e below (doInvoke e (A.U.setTop g) [] mk a).1 (B.U.setTop { g with pc := g.pc + len, stack := v.toList ++ g.stack })) ∨
    (∃ (q : Addr) (B : Pt), Stand p l e R s m sargs below meth c B.U B.locs B.cells B.slots ∧ PostX A a q B ∧
      Steps p.tables e below (doInvoke e (A.U.setTop g) [] mk a).1 ((B.U.setTop g).pushFrame (.throwing q)))
section Payer
variable {l : Launch} {R : Room} {p : Program} {e : Env} {below : List Frame} {s : State} {sargs : Array Value} {y : MethodName} {len W9 : Nat}
theorem vx_back {ws : List Cond} {rm : Room} {Pc : Array Value → State → Prop} {Qc : Array Value → State → Outcome → State → Prop} {XC : String → State → State → Prop} {mc ms : Nat} {free : Addr → Prop} {bytes : ByteArray} {maxL : Nat} {ret : Option FieldType}
    (hM : vx_Met l y ws rm Pc Qc XC mc ms free) (hblind : FrameBlind Pc) (hrc : rm.cells = mc) (hrs : rm.slots = ms)
    (hframes : rm.frames + 1 ≤ R.frames) (hlocals : W9 + (maxL + 11) + rm.locals ≤ R.locals)
    (hws : ∀ w ∈ ws, ∀ a' U, s.WarmedH U.vm → w.before a' U = true) (hcode : Cond.code y bytes maxL ret ∈ ws) (hinit : ∀ a' U, s.WarmedH U.vm → (Cond.initialized y.cls).before a' U = true) :
    vx_Back l R p e below s sargs y len W9 (PreOf R mc ms Pc) (PostOf Qc mc ms free) (vx_Post XC mc ms free) := by
  intro m meth c A g ig mk a X hg hsize hdg hW hn hp
  have h1 : (headSpec ws rm).pre.before a A.U = true := atoms_intro fun w hw => hws w hw _ _ X.warmed
  have h2 : (Cond.code y bytes maxL ret).before a A.U = true := hws _ hcode _ _ X.warmed
  have h3 : (Cond.initialized y.cls).before a A.U = true := hinit _ _ X.warmed
  have h4 : A.cells + (headSpec ws rm).room.cells ≤ R.cells := by rw [show (headSpec ws rm).room.cells = mc from hrc]; exact hp.1
  have h5 : A.slots + (headSpec ws rm).room.slots ≤ R.slots := by rw [show (headSpec ws rm).room.slots = ms from hrs]; exact hp.2.1
  have hPc : Pc a (A.U.calling g mk a) := hblind _ _ _ _ hp.2.2
  obtain ⟨U, Ls, c0, s0⟩ := A
  dsimp only [Pt.U, Pt.locs, Pt.cells, Pt.slots] at h1 h2 h3 h4 h5 X hn hPc ⊢
  obtain ⟨methY, cY, hmY, hcY, -, hlY, -, -, -, -⟩ := Cond.code_spec hn h2
  obtain ⟨kY, hkY, -⟩ := className_of_methodNamed hn
  have hinitY : kY.init = .initialized := Cond.initialized_spec (findClass_of_methodNamed hn) hkY h3
  have h : At U g.method c below := by rw [hg]; exact X.here
  have hlocals9 : W9 + (maxL + 11) + (headSpec ws rm).room.locals ≤ R.locals := hlocals
  have happ : (headSpec ws rm).appliesLoose y e.platform (U.calling g mk a) = true :=
    Spec.appliesLoose_calling (g := g) h hdg hn hkY hinitY
      (X.room_calling (g := g) (R' := (headSpec ws rm).room) hsize hmY hcY hframes (by rw [hlY]; omega) h4 h5) h1
  obtain ⟨mid, hmid⟩ := h.above
  have hfr : (U.setTop g).frames = (.java g :: mid) ++ below := by rw [State.frames_setTop' g h.top, hmid]; rfl
  obtain ⟨o, s₂, hsteps, -, hend, hq⟩ := Steps.callFree hM p X.admits X.cas X.clock (acts := []) hfr happ hPc trivial
  have hq' : vx_Q Qc XC mc ms free a (U.calling g mk a) o s₂ := hq
  rw [State.frames_setTop' g h.top] at hend
  obtain ⟨g₀, hg0⟩ := Option.isSome_iff_exists.mp h.top
  obtain ⟨r, hr⟩ := State.topJava?_eq_some.mp hg0
  have hr' : (({ U with heap := s₂.heap, slotsUsed := s₂.slotsUsed } : State).setVm s₂.vm).frames = .java g₀ :: r := hr
  rcases hq' with ⟨hqc, L, hfe, hL⟩ | ⟨q, rfl, E, ce, L, hx, hce, hcv, hcl, hW₂, hsm, hL⟩
  · obtain ⟨⟨v, rfl⟩, hW₂, e2, q2, q3, q4, q5, q6⟩ := id hfe
    have e3 : s₂ = ({ (U.calling g mk a).setFrames s₂.frames with heap := s₂.heap, slotsUsed := s₂.slotsUsed } : State).setVm s₂.vm := by
      have : s₂ = ({ s₂ with vm := (U.calling g mk a).vm } : State).setVm s₂.vm := rfl
      rw [e2] at this
      exact this
    obtain ⟨c₂, i₂, len₂, hc₂, hd₂, hf₂⟩ := hend
    have hW' : U.WarmedH s₂.vm := hW₂
    have hcc : c₂ = c := by
      have h1 : s₂.code? g.method = U.code? g.method := by
        rw [State.code?_eq, State.code?_eq, hW'.alike.method?]
      exact Option.some.inj (hc₂.symm.trans (h1.trans h.code))
    subst hcc
    have hlen : len₂ = len := by rw [hdg] at hd₂; cases hd₂; rfl
    subst hlen
    have hs₂ : s₂ = (({ U with heap := s₂.heap, slotsUsed := s₂.slotsUsed } : State).setVm s₂.vm).setTop { g with pc := g.pc + len₂, stack := v.toList ++ g.stack } := by
      refine e3.trans ?_
      rw [hf₂, State.calling_eq h.top, State.setFrames_setFrames, State.setTop_of_frames _ hr', hr]
      rfl
    have hsame : U.sameButNew ({ U with heap := s₂.heap, slotsUsed := s₂.slotsUsed } : State) L mc ms := by
      refine ⟨?_, q2, q3, q4, q5, q6⟩
      obtain ⟨t, ht, -⟩ := State.frames_cons hr
      show ({ U with heap := s₂.heap, slotsUsed := s₂.slotsUsed } : State) = { U.setFrames U.frames with heap := s₂.heap, slotsUsed := s₂.slotsUsed }
      rw [State.setFrames_self ht]
    subst hg
    refine Or.inl ⟨v, ⟨(({ U with heap := s₂.heap, slotsUsed := s₂.slotsUsed } : State).setVm s₂.vm), Ls ++ L, c0 + mc, s0 + ms⟩,
      ⟨X.admits, X.cas, X.clock, X.frames, X.room, X.hears, X.method, X.code, (X.here.setHeapUsed s₂.heap s₂.slotsUsed).setVm hW'.alike, X.tail, State.WarmedH.trans X.warmed hW', X.limits, X.bytes, X.same.trans (hsame.setVm s.vm)⟩,
      ⟨g, mk, s₂, L, rfl, rfl, hqc, rfl, hL, rfl, rfl⟩, ?_⟩
    show Steps p.tables e below _ ((({ U with heap := s₂.heap, slotsUsed := s₂.slotsUsed } : State).setVm s₂.vm).setTop { g with pc := g.pc + len₂, stack := v.toList ++ g.stack })
    rw [← hs₂]
    exact hsteps
  · obtain ⟨e2, q2, q3, q4, q5, q6⟩ := id hsm
    have e3 : s₂ = ({ (U.calling g mk a).setFrames s₂.frames with heap := s₂.heap, slotsUsed := s₂.slotsUsed } : State).setVm s₂.vm := by
      have : s₂ = ({ s₂ with vm := (U.calling g mk a).vm } : State).setVm s₂.vm := rfl
      rw [e2] at this
      exact this
    have hf₂ : s₂.frames = .throwing q :: .java g :: U.frames.tail := hend
    have hW' : U.WarmedH s₂.vm := hW₂
    have hs₂ : s₂ = ((({ U with heap := s₂.heap, slotsUsed := s₂.slotsUsed } : State).setVm s₂.vm).setTop g).pushFrame (.throwing q) := by
      refine e3.trans ?_
      rw [hf₂, State.calling_eq h.top, State.setFrames_setFrames, State.pushFrame, State.frames_setTop _ hr', State.setTop_of_frames _ hr', State.setFrames_setFrames, hr]
      rfl
    have hsame : U.sameButNew ({ U with heap := s₂.heap, slotsUsed := s₂.slotsUsed } : State) L mc ms := by
      refine ⟨?_, q2, q3, q4, q5, q6⟩
      obtain ⟨t, ht, -⟩ := State.frames_cons hr
      show ({ U with heap := s₂.heap, slotsUsed := s₂.slotsUsed } : State) = { U.setFrames U.frames with heap := s₂.heap, slotsUsed := s₂.slotsUsed }
      rw [State.setFrames_self ht]
    subst hg
    refine Or.inr ⟨q, ⟨(({ U with heap := s₂.heap, slotsUsed := s₂.slotsUsed } : State).setVm s₂.vm), Ls ++ L, c0 + mc, s0 + ms⟩,
      ⟨X.admits, X.cas, X.clock, X.frames, X.room, X.hears, X.method, X.code, (X.here.setHeapUsed s₂.heap s₂.slotsUsed).setVm hW'.alike, X.tail, State.WarmedH.trans X.warmed hW', X.limits, X.bytes, X.same.trans (hsame.setVm s.vm)⟩,
      ⟨g, mk, s₂, L, E, ce, rfl, rfl, hx, hce, hcv, hcl, rfl, hL, rfl, rfl⟩, ?_⟩
    show Steps p.tables e below _ (((({ U with heap := s₂.heap, slotsUsed := s₂.slotsUsed } : State).setVm s₂.vm).setTop g).pushFrame (.throwing q))
    rw [← hs₂]
    exact hsteps
end Payer
section Calls
variable {p : Program} {l : Launch} {e : Env} {R : Room} {s : State} {m : MethodId} {args : Array Value} {below : List Frame} {meth : Method} {c : Code} {T : State} {locs : List Loc} {cells slots : Nat}
theorem vx_callV (X : Stand p l e R s m args below meth c T locs cells slots) (hexec : p.tables.exec = Jvm.exec) {own C : String} {index : Nat} {y : MethodName} {bytes : ByteArray} {maxL : Nat} {ret : Option FieldType}
    (hown : s.vm.findClass own = some m.cls) (hlink : (Cond.methodLink own index y).before args s = true) (hinst : (Cond.instanceMethod y).before args s = true) (hsel : (Cond.selects C y y).before args s = true)
    (hcode : (Cond.code y bytes maxL ret).before args s = true) (hy : y.cls ≠ "java/lang/invoke/MethodHandle" ∧ y.cls ≠ "java/lang/invoke/VarHandle")
    {W9 : Nat} {Pre : Pt → Array Value → Prop} {Post : Pt → Array Value → Option Value → Pt → Prop} {PostX : Pt → Array Value → Addr → Pt → Prop} (hK : vx_Back l R p e below s args y 3 W9 Pre Post PostX)
    {b : Addr} {cellB : Cell} (hcell : T.heap[b]? = some cellB) (hobj : cellB.vm.isStatics = false) (hcls : s.vm.findClass C = some cellB.cls)
    {g : JFrame} (hg : g.method = m) (hsize : g.locals.size = c.maxLocals) {argsL rest : List Value} (hlen : ∀ sig, parseMethodDescriptor y.desc = some sig → argsL.length = sig.parameters.length)
    (hstack : g.stack = argsL.reverse ++ .ref b :: rest) (hW : 2 * g.monitorRoom + (rest.map fun v => v.category).sum ≤ W9) (hdg : decode c.code g.pc = .ok (.invokevirtual index, 3))
    (hpre : ∀ vm₁, s.WarmedH vm₁ → Pre ⟨T.setVm vm₁, locs, cells, slots⟩ (Value.ref b :: argsL).toArray) :
    (∃ (v : Option Value) (vm₁ : Vm) (B : Pt), s.WarmedH vm₁ ∧ Stand p l e R s m args below meth c B.U B.locs B.cells B.slots ∧ Post ⟨T.setVm vm₁, locs, cells, slots⟩ (Value.ref b :: argsL).toArray v B ∧
      ∀ target, Steps p.tables e below (B.U.setTop { g with pc := g.pc + 3, stack := v.toList ++ rest }) target → Steps p.tables e below (T.setTop g) target) ∨
    (∃ (q : Addr) (vm₁ : Vm) (B : Pt), s.WarmedH vm₁ ∧ Stand p l e R s m args below meth c B.U B.locs B.cells B.slots ∧ PostX ⟨T.setVm vm₁, locs, cells, slots⟩ (Value.ref b :: argsL).toArray q B ∧
      Steps p.tables e below (T.setTop g) ((B.U.setTop { g with stack := rest }).pushFrame (.throwing q))) := by
  obtain ⟨mk, methM, hnamed, hmethM, hstM, habM⟩ := Cond.instanceMethod_spec hinst
  obtain ⟨methM', cM, hmethM', -, -, -, -, -, -, hsigM⟩ := Cond.code_spec hnamed hcode
  cases hmethM.symm.trans hmethM'
  obtain ⟨c2, r2, m2, q1, q2, q3, q4, kP, hkP, hkPi⟩ := Cond.selects_spec hsel
  cases hcls.symm.trans q1
  cases (State.methodFound?_of_named hnamed hy).symm.trans q2
  cases hnamed.symm.trans q3
  have hselP : selectMethod e.platform s.vm cellB.cls mk = .method mk := by rw [Launch.admits_selectMethod X.admits]; exact q4
  obtain ⟨vm₁, X₁, hstep₁⟩ := X.invokevirtual hexec hown hlink hnamed hmethM hstM hkP hkPi hy (a := b) (cell := cellB) hcell
    (fun z h => by rw [h] at hobj; cases hobj) hselP hmethM habM hkP hkPi (g := g) hg (argsL := argsL) (rest := rest) (hlen _ hsigM) hstack hdg
  rcases hK m meth c ⟨T.setVm vm₁, locs, cells, slots⟩ { g with stack := rest } (.invokevirtual index) mk (Value.ref b :: argsL).toArray X₁ hg hsize hdg hW (X₁.named hnamed) (hpre vm₁ X₁.warmed) with ⟨v, B, X', hpost, hsteps⟩ | ⟨q, B, X', hpost, hsteps⟩
  · exact Or.inl ⟨v, vm₁, B, X₁.warmed, X', hpost, fun target h => hstep₁ _ fun acts => by rw [doInvoke_state]; exact hsteps.trans h⟩
  · exact Or.inr ⟨q, vm₁, B, X₁.warmed, X', hpost, hstep₁ _ fun acts => by rw [doInvoke_state]; exact hsteps⟩
theorem vx_callS (X : Stand p l e R s m args below meth c T locs cells slots) (hexec : p.tables.exec = Jvm.exec) {own : String} {index : Nat} {y : MethodName} {bytes : ByteArray} {maxL : Nat} {ret : Option FieldType}
    (hown : s.vm.findClass own = some m.cls) (hlink : (Cond.methodLink own index y).before args s = true) (hstat : (Cond.static y).before args s = true) (hinit : (Cond.initialized y.cls).before args s = true)
    (hcode : (Cond.code y bytes maxL ret).before args s = true) (hy : y.cls ≠ "java/lang/invoke/MethodHandle" ∧ y.cls ≠ "java/lang/invoke/VarHandle")
    {W9 : Nat} {Pre : Pt → Array Value → Prop} {Post : Pt → Array Value → Option Value → Pt → Prop} {PostX : Pt → Array Value → Addr → Pt → Prop} (hK : vx_Back l R p e below s args y 3 W9 Pre Post PostX)
    {g : JFrame} (hg : g.method = m) (hsize : g.locals.size = c.maxLocals) {argsL rest : List Value} (hlen : ∀ sig, parseMethodDescriptor y.desc = some sig → argsL.length = sig.parameters.length)
    (hstack : g.stack = argsL.reverse ++ rest) (hW : 2 * g.monitorRoom + (rest.map fun v => v.category).sum ≤ W9) (hdg : decode c.code g.pc = .ok (.invokestatic index, 3))
    (hpre : ∀ vm₁, s.WarmedH vm₁ → Pre ⟨T.setVm vm₁, locs, cells, slots⟩ argsL.toArray) :
    (∃ (v : Option Value) (vm₁ : Vm) (B : Pt), s.WarmedH vm₁ ∧ Stand p l e R s m args below meth c B.U B.locs B.cells B.slots ∧ Post ⟨T.setVm vm₁, locs, cells, slots⟩ argsL.toArray v B ∧
      ∀ target, Steps p.tables e below (B.U.setTop { g with pc := g.pc + 3, stack := v.toList ++ rest }) target → Steps p.tables e below (T.setTop g) target) ∨
    (∃ (q : Addr) (vm₁ : Vm) (B : Pt), s.WarmedH vm₁ ∧ Stand p l e R s m args below meth c B.U B.locs B.cells B.slots ∧ PostX ⟨T.setVm vm₁, locs, cells, slots⟩ argsL.toArray q B ∧
      Steps p.tables e below (T.setTop g) ((B.U.setTop { g with stack := rest }).pushFrame (.throwing q))) := by
  obtain ⟨mk, hnamed⟩ := Cond.code_named hcode
  obtain ⟨methM, cM, hmethM, -, -, -, -, -, -, hsigM⟩ := Cond.code_spec hnamed hcode
  have hstatic : methM.isStatic = true := Cond.static_spec hnamed hmethM hstat
  obtain ⟨kP, hkP, -⟩ := className_of_methodNamed hnamed
  have hinitP : kP.init = .initialized := Cond.initialized_spec (findClass_of_methodNamed hnamed) hkP hinit
  obtain ⟨vm₁, X₁, hstep₁⟩ := X.invokestatic hexec hown hlink hnamed hmethM hstatic hkP hinitP hy (g := g) hg (argsL := argsL) (rest := rest) (hlen _ hsigM) hstack hdg
  rcases hK m meth c ⟨T.setVm vm₁, locs, cells, slots⟩ { g with stack := rest } (.invokestatic index) mk argsL.toArray X₁ hg hsize hdg hW (X₁.named hnamed) (hpre vm₁ X₁.warmed) with ⟨v, B, X', hpost, hsteps⟩ | ⟨q, B, X', hpost, hsteps⟩
  · exact Or.inl ⟨v, vm₁, B, X₁.warmed, X', hpost, fun target h => hstep₁ _ fun acts => by rw [doInvoke_state]; exact hsteps.trans h⟩
  · exact Or.inr ⟨q, vm₁, B, X₁.warmed, X', hpost, hstep₁ _ fun acts => by rw [doInvoke_state]; exact hsteps⟩
end Calls
theorem vx_cls {s : State} {T : State} {vm₁ : Vm} {E : String} {k : ClassId} (hW : s.WarmedH vm₁) (h : (T.setVm vm₁).vm.findClass E = some k) : s.vm.findClass E = some k := by
  have h1 : vm₁.findClass E = some k := h
  rw [hW.alike.findClass] at h1
  exact h1
/-- the method's frame g, with q thrown over it -/
def vx_W (p : Program) (l : Launch) (e : Env) (R : Room) (s : State) (m : MethodId) (args : Array Value) (below : List Frame) (meth : Method) (c : Code) (H : Heap) (locs : List Loc) (cells slots : Nat) (Q : State → Prop) (g : JFrame) (q : Addr) : Prop :=
  ∀ T : State, T.heap = H → Stand p l e R s m args below meth c T locs cells slots → ∃ t, Steps p.tables e below ((T.setTop g).pushFrame (.throwing q)) t ∧ Q t
def vx_Run (p : Program) (l : Launch) (e : Env) (R : Room) (s : State) (m : MethodId) (args : Array Value) (below : List Frame) (meth : Method) (c : Code) (H : Heap) (locs : List Loc) (cells slots mc ms : Nat) (g : JFrame) (rest : List Value) (Qa : State → Outcome → State → Prop) (XC : String → State → State → Prop) (free : Addr → Prop) : Prop :=
  ∀ T : State, T.heap = H → Stand p l e R s m args below meth c T locs cells slots →
    (∃ (v : Option Value) (st₀ t T' : State) (L : List Loc), st₀.heap = H ∧ Stand p l e R s m args below meth c T' (locs ++ L) (cells + mc) (slots + ms) ∧ (∀ q ∈ L, free q.base) ∧ T'.heap = t.heap ∧ T'.vm = t.vm ∧ Qa st₀ (.returned v) t ∧
      Goes p e below T g T' { g with pc := g.pc + 3, stack := v.toList ++ rest }) ∨
    (∃ (q : Addr) (st₀ t T' : State) (L : List Loc) (E : String) (ce : Cell), st₀.heap = H ∧ Stand p l e R s m args below meth c T' (locs ++ L) (cells + mc) (slots + ms) ∧ (∀ z ∈ L, free z.base) ∧ T'.heap = t.heap ∧ T'.vm = t.vm ∧ XC E st₀ t ∧ t.heap[q]? = some ce ∧ ce.vm = .none ∧ s.vm.findClass E = some ce.cls ∧
      Steps p.tables e below (T.setTop g) ((T'.setTop { g with stack := rest }).pushFrame (.throwing q)))
def vx_X {S : Type} (px : S → Prop) (B : String → S → State → Prop) (A : Nat → Prop) : String → State → State → Prop := fun E st t => ∃ u : S, px u ∧ B E u t ∧ va_F A st t
section Runs
variable {p : Program} {l : Launch} {e : Env} {R : Room} {s : State} {m : MethodId} {args : Array Value} {below : List Frame} {meth : Method} {c : Code} {H : Heap} {locs : List Loc} {cells slots : Nat}
variable {y : MethodName} {bytes cc : ByteArray} {maxL nL mc ms n index : Nat} {ret : Option FieldType} {ws : List Cond} {rm : Room} {Pc : Array Value → State → Prop} {Qc : Array Value → State → Outcome → State → Prop} {XC : String → State → State → Prop} {free : Addr → Prop} {Ts : List Cond} {own C : String} {b : Addr} {As rest : List Value} {g : JFrame}
theorem vx_callBack (cb : CallB R s args own index y bytes maxL ret ws rm mc ms n) (hM : vx_Met l y ws rm Pc Qc XC mc ms free) (hbl : FrameBlind Pc) : vx_Back l R p e below s args y 3 8 (PreOf R mc ms Pc) (PostOf Qc mc ms free) (vx_Post XC mc ms free) := by
  obtain ⟨hrc, hrs, hfr, hlo, hws, hcw, -, hini, -⟩ := cb
  exact vx_back (bytes := bytes) (maxL := maxL) (ret := ret) hM hbl hrc hrs hfr hlo hws hcw (fun a' U hW => word_at hW (Or.inl (by first | rfl | simp [Cond.onTables, Cond.keeps, Cond.steady])) hini)
theorem vx_runV (S : CallFix p m c cc nL s args Ts own) (hM : vx_Met l y ws rm Pc Qc XC mc ms free) (cw : CallW R s args own C index y bytes maxL ret ws rm mc ms n) (hp : PreV s H C b Pc As)
    (hg : g.method = m) (hn : As.length = n) (hsize : g.locals.size = nL) (hstack : g.stack = As.reverse ++ .ref b :: rest) (hW : 2 * g.monitorRoom + (rest.map fun v => v.category).sum ≤ 8) (hdg : decode cc g.pc = .ok (.invokevirtual index, 3)) (hf : cells + mc ≤ R.cells ∧ slots + ms ≤ R.slots) :
    vx_Run p l e R s m args below meth c H locs cells slots mc ms g rest (Qc (Value.ref b :: As).toArray) XC free := by
  have hK : vx_Back l R p e below s args y 3 8 (PreOf R mc ms Pc) (PostOf Qc mc ms free) (vx_Post XC mc ms free) := vx_callBack cw.1 hM hp.1
  obtain ⟨⟨-, -, -, -, -, -, hcode, -, hy, hlen, hl⟩, hin, hse⟩ := cw
  obtain ⟨hx, hb, hml, ho, -⟩ := S
  obtain ⟨-, ⟨cellB, hcB, hoB, hclB⟩, hPc⟩ := hp
  intro T hT X
  rcases vx_callV X hx (C := C) (bytes := bytes) (maxL := maxL) (ret := ret) ho hl hin hse hcode hy hK (by rw [hT]; exact hcB) hoB hclB hg (hsize.trans hml.symm) (argsL := As) (rest := rest) (fun sig h => hn.trans (hlen sig h)) hstack hW (by rw [hb]; exact hdg)
    (fun vm₁ hW₁ => ⟨hf.1, hf.2, hPc (T.setVm vm₁) hT hW₁⟩) with ⟨v, vm₁, ⟨U', l2, c2, s2⟩, hW₁, X', ⟨g', mk, t, L, e1, e2, hq, h1, hL, h2, h3⟩, st⟩ | ⟨q, vm₁, ⟨U', l2, c2, s2⟩, hW₁, X', ⟨g', mk, t, L, E, ce, e1, e2, hq, hce, hcv, hcl, h1, hL, h2, h3⟩, st⟩
  · dsimp only [Pt.U, Pt.locs, Pt.cells, Pt.slots] at X' e1 e2 h1 h2 h3 st
    subst h1; subst h2; subst h3
    exact Or.inl ⟨v, (T.setVm vm₁).calling g' mk (Value.ref b :: As).toArray, t, U', L, hT, X', hL, e1, e2, hq, st⟩
  · dsimp only [Pt.U, Pt.locs, Pt.cells, Pt.slots] at X' e1 e2 h1 h2 h3 st hcl
    subst h1; subst h2; subst h3
    exact Or.inr ⟨q, (T.setVm vm₁).calling g' mk (Value.ref b :: As).toArray, t, U', L, E, ce, hT, X', hL, e1, e2, hq, hce, hcv, vx_cls hW₁ hcl, st⟩
theorem vx_runS (S : CallFix p m c cc nL s args Ts own) (hM : vx_Met l y ws rm Pc Qc XC mc ms free) (cw : CallB R s args own index y bytes maxL ret ws rm mc ms n ∧ (Cond.static y).before args s = true) (hp : PreS s H Pc As)
    (hg : g.method = m) (hn : As.length = n) (hsize : g.locals.size = nL) (hstack : g.stack = As.reverse ++ rest) (hW : 2 * g.monitorRoom + (rest.map fun v => v.category).sum ≤ 8) (hdg : decode cc g.pc = .ok (.invokestatic index, 3)) (hf : cells + mc ≤ R.cells ∧ slots + ms ≤ R.slots) :
    vx_Run p l e R s m args below meth c H locs cells slots mc ms g rest (Qc As.toArray) XC free := by
  have hK : vx_Back l R p e below s args y 3 8 (PreOf R mc ms Pc) (PostOf Qc mc ms free) (vx_Post XC mc ms free) := vx_callBack cw.1 hM hp.1
  obtain ⟨⟨-, -, -, -, -, -, hcode, hini, hy, hlen, hl⟩, hstt⟩ := cw
  obtain ⟨hx, hb, hml, ho, -⟩ := S
  intro T hT X
  rcases vx_callS X hx (bytes := bytes) (maxL := maxL) (ret := ret) ho hl hstt hini hcode hy hK hg (hsize.trans hml.symm) (argsL := As) (rest := rest) (fun sig h => hn.trans (hlen sig h)) hstack hW (by rw [hb]; exact hdg)
    (fun vm₁ hW₁ => ⟨hf.1, hf.2, hp.2 (T.setVm vm₁) hT hW₁⟩) with ⟨v, vm₁, ⟨U', l2, c2, s2⟩, hW₁, X', ⟨g', mk, t, L, e1, e2, hq, h1, hL, h2, h3⟩, st⟩ | ⟨q, vm₁, ⟨U', l2, c2, s2⟩, hW₁, X', ⟨g', mk, t, L, E, ce, e1, e2, hq, hce, hcv, hcl, h1, hL, h2, h3⟩, st⟩
  · dsimp only [Pt.U, Pt.locs, Pt.cells, Pt.slots] at X' e1 e2 h1 h2 h3 st
    subst h1; subst h2; subst h3
    exact Or.inl ⟨v, (T.setVm vm₁).calling g' mk As.toArray, t, U', L, hT, X', hL, e1, e2, hq, st⟩
  · dsimp only [Pt.U, Pt.locs, Pt.cells, Pt.slots] at X' e1 e2 h1 h2 h3 st hcl
    subst h1; subst h2; subst h3
    exact Or.inr ⟨q, (T.setVm vm₁).calling g' mk As.toArray, t, U', L, E, ce, hT, X', hL, e1, e2, hq, hce, hcv, vx_cls hW₁ hcl, st⟩
end Runs
section Rows
variable {p : Program} {l : Launch} {e : Env} {R : Room} {s : State} {m : MethodId} {args : Array Value} {below : List Frame} {meth : Method} {c : Code} {H : Heap} {locs : List Loc} {cells slots : Nat} {Q : State → Prop}
variable {mc ms : Nat} {free : Addr → Prop} {A0 A1 : Nat → Prop} {H0 : Heap} {a : Array Value} {pc : Nat} {ls : Array Slot} {st0 rest : List Value}
theorem vx_keep {st₀ t T' : State} {L : List Loc} (h0 : st₀.heap = H) (e1 : T'.heap = t.heap) (hS : va_S A0 H0 H locs) (hA : ∀ q, q < H.size → A1 q → A0 q) (hf : ∀ q, free q → A0 q) (hL : ∀ q ∈ L, free q.base) (hF : va_F A1 st₀ t) :
    H.size ≤ T'.heap.size ∧ (∀ q : Nat, q < H.size → ¬ A1 q → T'.heap[q]? = H[q]?) ∧ va_S A0 H0 T'.heap (locs ++ L) := by
  obtain ⟨hz, hk⟩ := hF
  rw [h0] at hz hk
  exact ⟨by rw [e1]; exact hz, fun q h1 h2 => by rw [e1]; exact hk q h1 h2,
    ⟨Nat.le_trans hS.1 (by rw [e1]; exact hz), fun q h1 h2 => by rw [e1, hk q (Nat.lt_of_lt_of_le h1 hS.1) (fun z => h2 (hA q (Nat.lt_of_lt_of_le h1 hS.1) z))]; exact hS.2.1 q h1 h2, fun q hq => by
      rcases List.mem_append.mp hq with h | h
      · exact hS.2.2 q h
      · exact hf _ (hL q h)⟩⟩
theorem vx_calli {S SX : Type} {post : Int32 → S → Prop} {px : SX → Prop} {B : S → State → Prop} {BX : String → SX → State → Prop} {AX : Nat → Prop} (hr : vx_Run p l e R s m args below meth c H locs cells slots mc ms (F0 m pc ls st0) rest (va_Qi post B A1 a) (vx_X px BX AX) free) (hS : va_S A0 H0 H locs) (hA : ∀ q, q < H.size → A1 q → A0 q) (hf : ∀ q, free q → A0 q) (hAX : ∀ q, q < H.size → AX q → A0 q)
    (kx : ∀ (E : String) (ce : Cell) (q9 : Addr) (u : SX) (t : State) (H1 : Heap) (locs1 : List Loc), t.heap = H1 → s.vm.Alike t.vm → px u → BX E u t → H.size ≤ H1.size → (∀ q : Nat, q < H.size → ¬ AX q → H1[q]? = H[q]?) → va_S A0 H0 H1 locs1 → H1[q9]? = some ce → ce.vm = .none → s.vm.findClass E = some ce.cls → vx_W p l e R s m args below meth c H1 locs1 (cells + mc) (slots + ms) Q (F0 m pc ls rest) q9)
    (kk : ∀ (r : Int32) (u : S) (t : State) (H1 : Heap) (locs1 : List Loc), t.heap = H1 → s.vm.Alike t.vm → post r u → B u t → H.size ≤ H1.size → (∀ q : Nat, q < H.size → ¬ A1 q → H1[q]? = H[q]?) → va_S A0 H0 H1 locs1 → W p l e R s m args below meth c H1 locs1 (cells + mc) (slots + ms) Q (F0 m (pc + 3) ls (.int r :: rest))) : W p l e R s m args below meth c H locs cells slots Q (F0 m pc ls st0) := by
  intro T hT X
  rcases hr T hT X with ⟨v, st₀, t, T', L, h0, X', hL, e1, e2, ⟨⟨r, u, hv, hp, hb⟩, hF⟩, st⟩ | ⟨q, st₀, t, T', L, E, ce, h0, X', hL, e1, e2, ⟨u, hp, hb, hF⟩, hce, hcv, hcl, st⟩
  · cases hv
    obtain ⟨k1, k2, k3⟩ := vx_keep h0 e1 hS hA hf hL hF
    obtain ⟨t2, a1, b1⟩ := kk r u t T'.heap (locs ++ L) e1.symm (by rw [← e2]; exact X'.warmed.alike) hp hb k1 k2 k3 T' rfl X'
    exact ⟨t2, st t2 a1, b1⟩
  · obtain ⟨k1, k2, k3⟩ := vx_keep h0 e1 hS hAX hf hL hF
    obtain ⟨t2, a1, b1⟩ := kx E ce q u t T'.heap (locs ++ L) e1.symm (by rw [← e2]; exact X'.warmed.alike) hp hb k1 k2 k3 (by rw [e1]; exact hce) hcv hcl T' rfl X'
    exact ⟨t2, st.trans a1, b1⟩
theorem vx_calll {S SX : Type} {post : Int64 → S → Prop} {px : SX → Prop} {B : S → State → Prop} {BX : String → SX → State → Prop} {AX : Nat → Prop} (hr : vx_Run p l e R s m args below meth c H locs cells slots mc ms (F0 m pc ls st0) rest (va_Ql post B A1 a) (vx_X px BX AX) free) (hS : va_S A0 H0 H locs) (hA : ∀ q, q < H.size → A1 q → A0 q) (hf : ∀ q, free q → A0 q) (hAX : ∀ q, q < H.size → AX q → A0 q)
    (kx : ∀ (E : String) (ce : Cell) (q9 : Addr) (u : SX) (t : State) (H1 : Heap) (locs1 : List Loc), t.heap = H1 → s.vm.Alike t.vm → px u → BX E u t → H.size ≤ H1.size → (∀ q : Nat, q < H.size → ¬ AX q → H1[q]? = H[q]?) → va_S A0 H0 H1 locs1 → H1[q9]? = some ce → ce.vm = .none → s.vm.findClass E = some ce.cls → vx_W p l e R s m args below meth c H1 locs1 (cells + mc) (slots + ms) Q (F0 m pc ls rest) q9)
    (kk : ∀ (r : Int64) (u : S) (t : State) (H1 : Heap) (locs1 : List Loc), t.heap = H1 → s.vm.Alike t.vm → post r u → B u t → H.size ≤ H1.size → (∀ q : Nat, q < H.size → ¬ A1 q → H1[q]? = H[q]?) → va_S A0 H0 H1 locs1 → W p l e R s m args below meth c H1 locs1 (cells + mc) (slots + ms) Q (F0 m (pc + 3) ls (.long r :: rest))) : W p l e R s m args below meth c H locs cells slots Q (F0 m pc ls st0) := by
  intro T hT X
  rcases hr T hT X with ⟨v, st₀, t, T', L, h0, X', hL, e1, e2, ⟨⟨r, u, hv, hp, hb⟩, hF⟩, st⟩ | ⟨q, st₀, t, T', L, E, ce, h0, X', hL, e1, e2, ⟨u, hp, hb, hF⟩, hce, hcv, hcl, st⟩
  · cases hv
    obtain ⟨k1, k2, k3⟩ := vx_keep h0 e1 hS hA hf hL hF
    obtain ⟨t2, a1, b1⟩ := kk r u t T'.heap (locs ++ L) e1.symm (by rw [← e2]; exact X'.warmed.alike) hp hb k1 k2 k3 T' rfl X'
    exact ⟨t2, st t2 a1, b1⟩
  · obtain ⟨k1, k2, k3⟩ := vx_keep h0 e1 hS hAX hf hL hF
    obtain ⟨t2, a1, b1⟩ := kx E ce q u t T'.heap (locs ++ L) e1.symm (by rw [← e2]; exact X'.warmed.alike) hp hb k1 k2 k3 (by rw [e1]; exact hce) hcv hcl T' rfl X'
    exact ⟨t2, st.trans a1, b1⟩
theorem vx_callf {S SX : Type} {post : UInt32 → S → Prop} {px : SX → Prop} {B : S → State → Prop} {BX : String → SX → State → Prop} {AX : Nat → Prop} (hr : vx_Run p l e R s m args below meth c H locs cells slots mc ms (F0 m pc ls st0) rest (va_Qf post B A1 a) (vx_X px BX AX) free) (hS : va_S A0 H0 H locs) (hA : ∀ q, q < H.size → A1 q → A0 q) (hf : ∀ q, free q → A0 q) (hAX : ∀ q, q < H.size → AX q → A0 q)
    (kx : ∀ (E : String) (ce : Cell) (q9 : Addr) (u : SX) (t : State) (H1 : Heap) (locs1 : List Loc), t.heap = H1 → s.vm.Alike t.vm → px u → BX E u t → H.size ≤ H1.size → (∀ q : Nat, q < H.size → ¬ AX q → H1[q]? = H[q]?) → va_S A0 H0 H1 locs1 → H1[q9]? = some ce → ce.vm = .none → s.vm.findClass E = some ce.cls → vx_W p l e R s m args below meth c H1 locs1 (cells + mc) (slots + ms) Q (F0 m pc ls rest) q9)
    (kk : ∀ (r : UInt32) (u : S) (t : State) (H1 : Heap) (locs1 : List Loc), t.heap = H1 → s.vm.Alike t.vm → post r u → B u t → H.size ≤ H1.size → (∀ q : Nat, q < H.size → ¬ A1 q → H1[q]? = H[q]?) → va_S A0 H0 H1 locs1 → W p l e R s m args below meth c H1 locs1 (cells + mc) (slots + ms) Q (F0 m (pc + 3) ls (.float r :: rest))) : W p l e R s m args below meth c H locs cells slots Q (F0 m pc ls st0) := by
  intro T hT X
  rcases hr T hT X with ⟨v, st₀, t, T', L, h0, X', hL, e1, e2, ⟨⟨r, u, hv, hp, hb⟩, hF⟩, st⟩ | ⟨q, st₀, t, T', L, E, ce, h0, X', hL, e1, e2, ⟨u, hp, hb, hF⟩, hce, hcv, hcl, st⟩
  · cases hv
    obtain ⟨k1, k2, k3⟩ := vx_keep h0 e1 hS hA hf hL hF
    obtain ⟨t2, a1, b1⟩ := kk r u t T'.heap (locs ++ L) e1.symm (by rw [← e2]; exact X'.warmed.alike) hp hb k1 k2 k3 T' rfl X'
    exact ⟨t2, st t2 a1, b1⟩
  · obtain ⟨k1, k2, k3⟩ := vx_keep h0 e1 hS hAX hf hL hF
    obtain ⟨t2, a1, b1⟩ := kx E ce q u t T'.heap (locs ++ L) e1.symm (by rw [← e2]; exact X'.warmed.alike) hp hb k1 k2 k3 (by rw [e1]; exact hce) hcv hcl T' rfl X'
    exact ⟨t2, st.trans a1, b1⟩
theorem vx_calld {S SX : Type} {post : UInt64 → S → Prop} {px : SX → Prop} {B : S → State → Prop} {BX : String → SX → State → Prop} {AX : Nat → Prop} (hr : vx_Run p l e R s m args below meth c H locs cells slots mc ms (F0 m pc ls st0) rest (va_Qd post B A1 a) (vx_X px BX AX) free) (hS : va_S A0 H0 H locs) (hA : ∀ q, q < H.size → A1 q → A0 q) (hf : ∀ q, free q → A0 q) (hAX : ∀ q, q < H.size → AX q → A0 q)
    (kx : ∀ (E : String) (ce : Cell) (q9 : Addr) (u : SX) (t : State) (H1 : Heap) (locs1 : List Loc), t.heap = H1 → s.vm.Alike t.vm → px u → BX E u t → H.size ≤ H1.size → (∀ q : Nat, q < H.size → ¬ AX q → H1[q]? = H[q]?) → va_S A0 H0 H1 locs1 → H1[q9]? = some ce → ce.vm = .none → s.vm.findClass E = some ce.cls → vx_W p l e R s m args below meth c H1 locs1 (cells + mc) (slots + ms) Q (F0 m pc ls rest) q9)
    (kk : ∀ (r : UInt64) (u : S) (t : State) (H1 : Heap) (locs1 : List Loc), t.heap = H1 → s.vm.Alike t.vm → post r u → B u t → H.size ≤ H1.size → (∀ q : Nat, q < H.size → ¬ A1 q → H1[q]? = H[q]?) → va_S A0 H0 H1 locs1 → W p l e R s m args below meth c H1 locs1 (cells + mc) (slots + ms) Q (F0 m (pc + 3) ls (.double r :: rest))) : W p l e R s m args below meth c H locs cells slots Q (F0 m pc ls st0) := by
  intro T hT X
  rcases hr T hT X with ⟨v, st₀, t, T', L, h0, X', hL, e1, e2, ⟨⟨r, u, hv, hp, hb⟩, hF⟩, st⟩ | ⟨q, st₀, t, T', L, E, ce, h0, X', hL, e1, e2, ⟨u, hp, hb, hF⟩, hce, hcv, hcl, st⟩
  · cases hv
    obtain ⟨k1, k2, k3⟩ := vx_keep h0 e1 hS hA hf hL hF
    obtain ⟨t2, a1, b1⟩ := kk r u t T'.heap (locs ++ L) e1.symm (by rw [← e2]; exact X'.warmed.alike) hp hb k1 k2 k3 T' rfl X'
    exact ⟨t2, st t2 a1, b1⟩
  · obtain ⟨k1, k2, k3⟩ := vx_keep h0 e1 hS hAX hf hL hF
    obtain ⟨t2, a1, b1⟩ := kx E ce q u t T'.heap (locs ++ L) e1.symm (by rw [← e2]; exact X'.warmed.alike) hp hb k1 k2 k3 (by rw [e1]; exact hce) hcv hcl T' rfl X'
    exact ⟨t2, st.trans a1, b1⟩
theorem vx_callv {S SX : Type} {post : S → Prop} {px : SX → Prop} {B : S → State → Prop} {BX : String → SX → State → Prop} {AX : Nat → Prop} (hr : vx_Run p l e R s m args below meth c H locs cells slots mc ms (F0 m pc ls st0) rest (va_Qv post B A1 a) (vx_X px BX AX) free) (hS : va_S A0 H0 H locs) (hA : ∀ q, q < H.size → A1 q → A0 q) (hf : ∀ q, free q → A0 q) (hAX : ∀ q, q < H.size → AX q → A0 q)
    (kx : ∀ (E : String) (ce : Cell) (q9 : Addr) (u : SX) (t : State) (H1 : Heap) (locs1 : List Loc), t.heap = H1 → s.vm.Alike t.vm → px u → BX E u t → H.size ≤ H1.size → (∀ q : Nat, q < H.size → ¬ AX q → H1[q]? = H[q]?) → va_S A0 H0 H1 locs1 → H1[q9]? = some ce → ce.vm = .none → s.vm.findClass E = some ce.cls → vx_W p l e R s m args below meth c H1 locs1 (cells + mc) (slots + ms) Q (F0 m pc ls rest) q9)
    (kk : ∀ (u : S) (t : State) (H1 : Heap) (locs1 : List Loc), t.heap = H1 → s.vm.Alike t.vm → post u → B u t → H.size ≤ H1.size → (∀ q : Nat, q < H.size → ¬ A1 q → H1[q]? = H[q]?) → va_S A0 H0 H1 locs1 → W p l e R s m args below meth c H1 locs1 (cells + mc) (slots + ms) Q (F0 m (pc + 3) ls (rest))) : W p l e R s m args below meth c H locs cells slots Q (F0 m pc ls st0) := by
  intro T hT X
  rcases hr T hT X with ⟨v, st₀, t, T', L, h0, X', hL, e1, e2, ⟨⟨u, hv, hp, hb⟩, hF⟩, st⟩ | ⟨q, st₀, t, T', L, E, ce, h0, X', hL, e1, e2, ⟨u, hp, hb, hF⟩, hce, hcv, hcl, st⟩
  · cases hv
    obtain ⟨k1, k2, k3⟩ := vx_keep h0 e1 hS hA hf hL hF
    obtain ⟨t2, a1, b1⟩ := kk u t T'.heap (locs ++ L) e1.symm (by rw [← e2]; exact X'.warmed.alike) hp hb k1 k2 k3 T' rfl X'
    exact ⟨t2, st t2 a1, b1⟩
  · obtain ⟨k1, k2, k3⟩ := vx_keep h0 e1 hS hAX hf hL hF
    obtain ⟨t2, a1, b1⟩ := kx E ce q u t T'.heap (locs ++ L) e1.symm (by rw [← e2]; exact X'.warmed.alike) hp hb k1 k2 k3 (by rw [e1]; exact hce) hcv hcl T' rfl X'
    exact ⟨t2, st.trans a1, b1⟩
/-- caught by the row x of this method's table; the rows ahead don't take it -/
theorem vx_catch {own name : String} {E : String} {ce : Cell} {q : Addr} (hown : s.vm.findClass own = some m.cls) (pre : List ExceptionTableEntry) (x : ExceptionTableEntry) (suf : List ExceptionTableEntry) (hsplit : c.exceptionTable.toList = pre ++ x :: suf)
    (hpass : ∀ z ∈ pre, covers z pc = false ∨ (z.catchType ≠ 0 ∧ ∃ nm : String, (Cond.classLink own z.catchType nm).before args s = true ∧ va_Nc E nm s)) (hx : covers x pc = true) (h0 : x.catchType ≠ 0)
    (hlink : (Cond.classLink own x.catchType name).before args s = true) (hcast : (Cond.castable E name).before args s = true) (hcell : H[q]? = some ce) (hv : ce.vm = .none) (hcl : s.vm.findClass E = some ce.cls)
    (kk : W p l e R s m args below meth c H locs cells slots Q (F0 m x.handlerPc ls [.ref q])) : vx_W p l e R s m args below meth c H locs cells slots Q (F0 m pc ls rest) q := by
  intro T hT X
  have hpl : e.platform.magicAccessors = ({} : Platform).magicAccessors := by rw [X.admits.platform]
  obtain ⟨c3, c4, hc3, hc4, hasg⟩ := Cond.castable_spec hcast
  cases Option.some.inj (hc3.symm.trans hcl)
  obtain ⟨c5, hc5, hcl5⟩ := Cond.classLink_spec hown hlink e.platform hpl
  cases Option.some.inj (hc4.symm.trans hc5)
  obtain ⟨vm', X', st⟩ := X.thenCaughtThrough q (g := F0 m pc ls rest) rfl (Steps.refl _) (by rw [hT]; exact hcell) (by rw [hv]; rfl) (by obtain ⟨k9, h9, -⟩ := Vm.findClass_spec hcl; exact ⟨k9, h9⟩) pre x suf hsplit
    (fun z hz => by
      rcases hpass z hz with h | ⟨hz0, nm, hl1, hn1⟩
      · exact Or.inl h
      · obtain ⟨c6, hc6, hcl6⟩ := Cond.classLink_spec hown hl1 e.platform hpl
        obtain ⟨a8, b8, h1, h2, h3⟩ := hn1
        cases Option.some.inj (h1.symm.trans hcl)
        cases Option.some.inj (h2.symm.trans hc6)
        exact Or.inr ⟨hz0, _, hcl6, h3⟩) hx (Or.inr ⟨h0, c4, hcl5, hasg⟩)
  obtain ⟨t, a1, b1⟩ := kk (T.setVm vm') hT X'
  exact ⟨t, st.trans a1, b1⟩
end Rows
section Ends
variable {p : Program} {l : Launch} {e : Env} {R : Room} {s : State} {m : MethodId} {args : Array Value} {below : List Frame} {meth : Method} {c : Code} {H : Heap} {locs : List Loc} {cells slots : Nat} {Q : State → Prop}
variable {mc ms : Nat} {free : Addr → Prop} {A0 A1 : Nat → Prop} {H0 : Heap} {a : Array Value} {ls : Array Slot} {st0 rest : List Value}
variable {Qc : Array Value → State → Outcome → State → Prop} {XC : String → State → State → Prop}
/-- what a body that may throw owes at its end -/
def vx_MQ (below : List Frame) (Qc : Array Value → State → Outcome → State → Prop) (XC : String → State → State → Prop) (a : Array Value) (s : State) (mc ms : Nat) (free : Addr → Prop) : State → Prop := fun t =>
  ∃ o, t.status = .running ∧ Ended t below o ∧ vx_Q Qc XC mc ms free a s o t
theorem vx_ret {g : JFrame} {mc ms : Nat} (k : W p l e R s m args below meth c H locs cells slots (MQ below Qc args s mc ms free) g) : W p l e R s m args below meth c H locs cells slots (vx_MQ below Qc XC args s mc ms free) g := by
  intro T hT X
  obtain ⟨t, a1, o, b1, b2, b3, b4⟩ := k T hT X
  exact ⟨t, a1, o, b1, b2, Or.inl ⟨b3, b4⟩⟩
/-- not caught here: it goes on to the caller -/
theorem vx_widen {g : JFrame} {q : Addr} {k n : Nat} (h1 : cells ≤ k) (h2 : slots ≤ n) (kk : vx_W p l e R s m args below meth c H locs k n Q g q) : vx_W p l e R s m args below meth c H locs cells slots Q g q := fun T hT X => kk T hT (stand_widen X h1 h2)
theorem vx_out {pc : Nat} {E : String} {ce : Cell} {q : Addr} {mc ms : Nat} (hout : ∀ x ∈ c.exceptionTable.toList, covers x pc = false) (hlocks : meth.locks = false) (hcell : H[q]? = some ce) (hv : ce.vm = .none) (hcl : s.vm.findClass E = some ce.cls)
    (hx : ∀ t : State, t.heap = H → s.vm.Alike t.vm → XC E s t) (hf : ∀ z ∈ locs, free z.base) (hc : cells ≤ mc) (hs : slots ≤ ms) :
    vx_W p l e R s m args below meth c H locs cells slots (vx_MQ below Qc XC args s mc ms free) (F0 m pc ls rest) q := by
  intro T hT X
  obtain ⟨st1, hrun, hend, hW, hsm⟩ := X.leaveThrown q (g := F0 m pc ls rest) rfl rfl rfl hout hlocks
  have hcell9 : (T.setFrames (.throwing q :: below)).heap[q]? = some ce := by
    show T.heap[q]? = some ce
    rw [hT]; exact hcell
  exact ⟨_, st1, .threw q, hrun, hend, Or.inr ⟨q, rfl, E, ce, locs, hx _ hT hW.alike, hcell9, hv, hcl, hW, hsm.mono hc hs, hf⟩⟩
theorem vx_frame {U : State} {k n : Nat} (h : s.sameButNew ({ U with vm := s.vm } : State) locs k n) : s.heap.size ≤ U.heap.size ∧ ∀ q : Nat, q < s.heap.size → (∀ z ∈ locs, z.base ≠ q) → U.heap[q]? = s.heap[q]? := by
  obtain ⟨-, h2, -, -, -, h6⟩ := h
  refine ⟨h2, fun q hq hz => ?_⟩
  obtain ⟨c9, e1, e2, e3, e4⟩ := h6 q _ (Array.getElem?_eq_getElem hq)
  have hs : c9.slots = (s.heap[q]).slots := Array.ext_getElem? fun i => e4 i fun hm => hz _ hm rfl
  have h9 : c9 = s.heap[q] := by
    rw [hs] at e2
    exact e2
  have e5 : U.heap[q]? = some c9 := e1
  rw [e5, h9, Array.getElem?_eq_getElem hq]
/-- the words of a throw but the four that speak of the heap -/
def vx_no (w : Cond) : Bool := decide (w ≠ .isRef (.static Bundle.tN "UNASSIGNED_STACK" Bundle.steD)) && decide (w ≠ .isRef (.static Bundle.tN "SUPPRESSED_SENTINEL" Bundle.listD)) && decide (w ≠ .laysStatic Bundle.tN "UNASSIGNED_STACK" Bundle.steD) && decide (w ≠ .laysStatic Bundle.tN "SUPPRESSED_SENTINEL" Bundle.listD)
def vx_at0 (own : String) (ic : Nat) (X : String) (names : List String) : List Cond := (Bundle.ownAtoms0 own ic X names).filter vx_no
def vx_atS (own : String) (ic : Nat) (X : String) (names : List String) : List Cond := (Bundle.ownAtoms own ic X names).filter vx_no
/-- a word that the tables alone decide, or a good one -/
def vx_ot (w : Cond) : Bool := w.onTables || goodWord w
theorem vx_ot_at {args a' : Array Value} {s U : State} {w : Cond} (hW : s.WarmedH U.vm) (hvm : s.vm = U.vm) (hg : vx_ot w = true) (h : w.before args s = true) : w.before a' U = true := by
  simp only [vx_ot, Bool.or_eq_true] at hg
  rcases hg with hg | hg
  · exact va_tabs hg hvm h
  · exact word_at hW (good_of_word hg) h
/-- a list's words: the good ones out of the method's own list, the others by premises of their own -/
theorem vx_hat {args : Array Value} {s : State} {L B : List Cond} (h1 : ∀ w ∈ L.filter goodWord, w.before args s = true) (h2 : ∀ w ∈ L.filter (fun w => !goodWord w), w ∈ B) (h3 : ∀ w ∈ B, w.before args s = true) : ∀ w ∈ L, w.before args s = true := by
  intro w hw
  by_cases g : goodWord w = true
  · exact h1 w (List.mem_filter.mpr ⟨hw, g⟩)
  · refine h3 w (h2 w (List.mem_filter.mpr ⟨hw, ?_⟩))
    show (!goodWord w) = true
    cases hgw : goodWord w
    · rfl
    · exact absurd hgw g
theorem vx_c {args : Array Value} {s : State} {w : Cond} {B : List Cond} (h : w.before args s = true) (t : ∀ w ∈ B, w.before args s = true) : ∀ w' ∈ w :: B, w'.before args s = true := fun w' h' => (List.mem_cons.mp h').elim (fun e => by rw [e]; exact h) (t w')
theorem vx_n {args : Array Value} {s : State} : ∀ w ∈ ([] : List Cond), w.before args s = true := fun _ h => nomatch h
theorem vx_own {args : Array Value} {s : State} {L : List Cond} (h1 : ∀ w ∈ L.filter vx_no, w.before args s = true)
    (hU : (Cond.isRef (.static Bundle.tN "UNASSIGNED_STACK" Bundle.steD)).before args s = true) (hN : (Cond.isRef (.static Bundle.tN "SUPPRESSED_SENTINEL" Bundle.listD)).before args s = true)
    (lU : (Cond.laysStatic Bundle.tN "UNASSIGNED_STACK" Bundle.steD).before args s = true) (lN : (Cond.laysStatic Bundle.tN "SUPPRESSED_SENTINEL" Bundle.listD).before args s = true) : ∀ w ∈ L, w.before args s = true := by
  intro w hw
  by_cases e1 : w = .isRef (.static Bundle.tN "UNASSIGNED_STACK" Bundle.steD)
  · rw [e1]; exact hU
  · by_cases e2 : w = .isRef (.static Bundle.tN "SUPPRESSED_SENTINEL" Bundle.listD)
    · rw [e2]; exact hN
    · by_cases e3 : w = .laysStatic Bundle.tN "UNASSIGNED_STACK" Bundle.steD
      · rw [e3]; exact lU
      · by_cases e4 : w = .laysStatic Bundle.tN "SUPPRESSED_SENTINEL" Bundle.listD
        · rw [e4]; exact lN
        · exact h1 w (List.mem_filter.mpr ⟨hw, by unfold vx_no; rw [decide_eq_true e1, decide_eq_true e2, decide_eq_true e3, decide_eq_true e4]; rfl⟩)
/-- where a static field lies, its class's statics cell in H -/
def vx_L (C n d : String) (A : Nat → Prop) (U : State) (H : Heap) : Prop := ∃ (c : ClassId) (k : Class) (i : Nat) (f : Field) (a : Nat) (cell : Cell), U.vm.findClass C = some c ∧ U.fieldFound? C n d = some (c, k, i, f) ∧ f.isStatic = true ∧ k.statics = some a ∧ H[a]? = some cell ∧ cell.vm.isStatics = true ∧ cell.cls = c ∧ f.slot < cell.slots.size ∧ k.staticTypes[f.slot]? = some f.type ∧ ¬ A a
theorem vx_L.moved {C n d : String} {A : Nat → Prop} {u U : State} {H : Heap} (hvm : u.vm.Alike U.vm) (h : vx_L C n d A u H) : vx_L C n d A U H := by
  obtain ⟨c, k, i, f, a, cell, h1, h2, h3, h4, h5, h6, h7, h8, h9, h10⟩ := h
  obtain ⟨k', hi', he⟩ := State.fieldFound?_setVm hvm h2
  exact ⟨c, k', i, f, a, cell, by rw [hvm.findClass]; exact h1, hi', h3, by rw [he]; exact h4, h5, h6, h7, h8, by rw [he]; exact h9, h10⟩
theorem vx_L.kept {C n d : String} {A : Nat → Prop} {U : State} {H H1 : Heap} (h : vx_L C n d A U H) (hq : ∀ a : Nat, a < H.size → ¬ A a → H1[a]? = H[a]?) : vx_L C n d A U H1 := by
  obtain ⟨c, k, i, f, a, cell, h1, h2, h3, h4, h5, h6, h7, h8, h9, h10⟩ := h
  exact ⟨c, k, i, f, a, cell, h1, h2, h3, h4, by rw [hq a (Array.getElem?_eq_some_iff.mp h5).1 h10]; exact h5, h6, h7, h8, h9, h10⟩
theorem vx_L.narrow {C n d : String} {A B : Nat → Prop} {U : State} {H : Heap} (h : vx_L C n d A U H) (hAB : ∀ q, B q → A q) : vx_L C n d B U H := by
  obtain ⟨c, k, i, f, a, cell, h1, h2, h3, h4, h5, h6, h7, h8, h9, h10⟩ := h
  exact ⟨c, k, i, f, a, cell, h1, h2, h3, h4, h5, h6, h7, h8, h9, fun z => h10 (hAB _ z)⟩
theorem vx_L.word {C n d : String} {A : Nat → Prop} {s : State} {args : Array Value} (h : vx_L C n d A s s.heap) : (Cond.laysStatic C n d).before args s = true := by
  obtain ⟨c, k, i, f, a, cell, h1, h2, h3, h4, h5, h6, h7, h8, h9, -⟩ := h
  show (Cond.laysStatic C n d).holds args s none s [] = true
  exact Cond.laysStatic_of h1 h2 h3 h4 h5 h6 h7 h8 h9
/-- .. and what it holds: null or some reference -/
def vx_Zq (C n d : String) (A : Nat → Prop) (U : State) (H : Heap) : Prop := va_Zq C n d A U H ∧ vx_L C n d A U H
theorem vx_Zq.moved {C n d : String} {A : Nat → Prop} {u U : State} {H : Heap} (hvm : u.vm.Alike U.vm) (h : vx_Zq C n d A u H) : vx_Zq C n d A U H := ⟨va_Zq.moved hvm h.1, vx_L.moved hvm h.2⟩
theorem vx_Zq.kept {C n d : String} {A : Nat → Prop} {U : State} {H H1 : Heap} (h : vx_Zq C n d A U H) (hq : ∀ a : Nat, a < H.size → ¬ A a → H1[a]? = H[a]?) : vx_Zq C n d A U H1 := ⟨va_Zq.kept h.1 hq, vx_L.kept h.2 hq⟩
theorem vx_Zq.narrow {C n d : String} {A B : Nat → Prop} {U : State} {H : Heap} (h : vx_Zq C n d A U H) (hAB : ∀ q, B q → A q) : vx_Zq C n d B U H := ⟨va_Zq.narrow h.1 hAB, vx_L.narrow h.2 hAB⟩
theorem vx_Zqof {args : Array Value} {s : State} {C n d : String} {A : Nat → Prop} (hl : (Cond.laysStatic C n d).before args s = true) (hini : (Cond.initialized C).before args s = true) (h : (Cond.isRef (.static C n d)).before args s = true) (hA : ∀ a : Nat, a < s.heap.size → ¬ A a) : vx_Zq C n d A s s.heap := by
  refine ⟨va_Zqof hl hini h hA, ?_⟩
  obtain ⟨c, k, i, f, a, cell, h1, h2, h3, h4, h5, h6, h7, h8, h9⟩ := Cond.laysStatic_spec hl
  exact ⟨c, k, i, f, a, cell, h1, h2, h3, h4, h5, h6, h7, h8, h9, hA a (Array.getElem?_eq_some_iff.mp h5).1⟩
theorem vx_isRef {C n d : String} {v : Value} {A : Nat → Prop} {s : State} {args : Array Value} (h : va_Z C n d v A s s.heap) (hv : v.isRef = true) : (Cond.isRef (.static C n d)).before args s = true := by
  obtain ⟨cf, kf, fi, f, a, cell, h1, h2, h3, h4, h5, h6, h7, -⟩ := h
  have he : (Term.static C n d).eval args s none [] s = some v := by
    simp [Term.eval, State.fieldNamed?, h1, h2, h4, h5, h6, h7]
  simp only [Cond.before, Cond.holds, Cond.value, he]
  cases v <;> simp_all [Value.isRef]
theorem vx_isRefq {C n d : String} {A : Nat → Prop} {s : State} {args : Array Value} (h : va_Zq C n d A s s.heap) : (Cond.isRef (.static C n d)).before args s = true := by
  rcases h with h | ⟨t, h⟩
  · exact vx_isRef h rfl
  · exact vx_isRef h rfl
/-- the same frame, seen from here: as if the method were called anew in this heap -/
theorem vx_rebase {T : State} (X : Stand p l e R s m args below meth c T locs cells slots) {R' : Room} (hf : R'.frames ≤ R.frames) (hl : R'.locals ≤ R.locals) (hc : cells + R'.cells ≤ R.cells) (hs : slots + R'.slots ≤ R.slots) :
    Stand p l e R' ((T.setVm s.vm).setFrames (.invoking m args :: below)) m args below meth c T [] 0 0 := by
  have htop : (T.setVm s.vm).topJava?.isSome := X.here.top
  have hF : ((T.setVm s.vm).setFrames (.invoking m args :: below)).frames = .invoking m args :: below := State.frames_setFrames _ (State.cur_lt_of_top htop)
  obtain ⟨g₀, hg0⟩ := Option.isSome_iff_exists.mp htop
  obtain ⟨r, hr⟩ := State.topJava?_eq_some.mp hg0
  have hl9 : e.platform.stackLimits (T.setVm s.vm).me = e.platform.stackLimits s.me := X.limits
  have hb9 : (T.setVm s.vm).me.stackBytes = s.me.stackBytes := X.bytes
  refine ⟨X.admits, X.cas, X.clock, hF, ?_, X.hears, X.method, X.code, X.here, X.tail, X.warmed, ?_, ?_, ?_⟩
  · have h := X.room
    have hU : ((T.setVm s.vm).setFrames (.invoking m args :: below)).localsInUse = s.localsInUse := by
      rw [State.localsInUse_invoking hF (meth := meth) (c := c) X.method X.code, State.localsInUse_invoking X.frames X.method X.code]
    simp only [State.hasRoom, Bool.and_eq_true, decide_eq_true_eq] at h ⊢
    obtain ⟨⟨⟨⟨h1, h2, h3, h4, h5, h6⟩, h7⟩, h8⟩, h9⟩ := h
    rw [X.frames, List.length_cons] at h2 h3
    have q1 := X.heapSize
    have q2 := X.used
    simp only [hF, hU, List.length_cons, State.stackLimits_setFrames, State.stackBytes_setFrames, hl9, hb9]
    refine ⟨⟨⟨⟨by omega, by omega, by omega, by omega, by omega, h6⟩, ?_⟩, ?_⟩, X.book⟩
    · show T.heap.size + R'.cells ≤ e.platform.maxCells
      omega
    · show T.slotsUsed + R'.slots ≤ e.platform.maxSlots
      omega
  · rw [State.stackLimits_setFrames]; rfl
  · rw [State.stackBytes_setFrames]; rfl
  · refine ⟨?_, Nat.le_refl _, Nat.le_refl _, ?_, ?_, fun a c9 h9 => ⟨c9, h9, rfl, rfl, fun _ _ => rfl⟩⟩
    · obtain ⟨t, ht, -⟩ := State.frames_cons hr
      show T.setVm s.vm = { ((T.setVm s.vm).setFrames (.invoking m args :: below)).setFrames (T.setVm s.vm).frames with heap := T.heap, slotsUsed := T.slotsUsed }
      rw [State.setFrames_setFrames, State.setFrames_self ht]
      rfl
    · show T.slotsUsed = T.slotsUsed + ((T.heap.toList.drop T.heap.size).map (·.slots.size)).sum
      rw [List.drop_eq_nil_of_le (Nat.le_of_eq Array.length_toList)]
      rfl
    · show ((T.heap.toList.drop T.heap.size).map (·.slots.size)).sum ≤ 0
      rw [List.drop_eq_nil_of_le (Nat.le_of_eq Array.length_toList)]
      exact Nat.le_refl _
/-- 'throw new E()': new; dup; invokespecial; athrow -/
theorem vx_throw0 {cc : ByteArray} {pc : Nat} (hexec : p.tables.exec = Jvm.exec) (hb : c.code = cc) (hl : l.stackTraces = false) {own cls : String} {names : List String} {ik ic mc ms : Nat} {A : Nat → Prop}
    (hown : s.vm.findClass own = some m.cls) (hcls : Bundle.fit cls = true) (hnames : ∀ n ∈ names, Bundle.fit n = true)
    (hk : (Cond.classLink own ik cls).before args s = true) (hini : (Cond.initialized cls).before args s = true) (hat : ∀ w ∈ vx_at0 own ic cls names, w.before args s = true)
    (hgood : ∀ w ∈ Cond.classLink own ik cls :: Cond.initialized cls :: vx_at0 own ic cls names, vx_ot w = true)
    (hU : vx_Zq Bundle.tN "UNASSIGNED_STACK" Bundle.steD A s s.heap) (hN : vx_Zq Bundle.tN "SUPPRESSED_SENTINEL" Bundle.listD A s s.heap) (hS : va_S A s.heap H locs) (hsize : ls.size = c.maxLocals)
    (d0 : decode cc pc = .ok (.new ik, 3)) (d3 : decode cc (pc + 3) = .ok (.dup, 1)) (d4 : decode cc (pc + 4) = .ok (.invokespecial ic, 3)) (d7 : decode cc (pc + 7) = .ok (.athrow, 1))
    (hout : ∀ x ∈ c.exceptionTable.toList, covers x (pc + 7) = false)
    (hRframes : names.length + 3 < R.frames) (hRlocals : (rest.map fun v => v.category).sum + (13 * (names.length + 1) + 42) ≤ R.locals) (hRcells : cells + 1 ≤ R.cells) (hRslots : slots + 6 ≤ R.slots) (hlocks : meth.locks = false)
    (hx : ∀ t : State, s.vm.Alike t.vm → H.size ≤ t.heap.size → (∀ q : Nat, q < H.size → t.heap[q]? = H[q]?) → XC cls s t)
    (hf : ∀ z ∈ locs, free z.base) (hc : cells + 1 ≤ mc) (hs : slots + 6 ≤ ms) :
    W p l e R s m args below meth c H locs cells slots (vx_MQ below Qc XC args s mc ms free) (F0 m pc ls rest) := by
  intro T hT X
  have htr : e.platform.stackTraces = false := (show e.platform.stackTraces = l.stackTraces by rw [X.admits.platform]).trans hl
  have Y := vx_rebase X (R' := { frames := R.frames, locals := R.locals, cells := 1, slots := 6 }) (Nat.le_refl _) (Nat.le_refl _) hRcells hRslots
  obtain ⟨s', hA⟩ : ∃ z, z = (T.setVm s.vm).setFrames (.invoking m args :: below) := ⟨_, rfl⟩
  rw [← hA] at Y
  have hvm : s'.vm = s.vm := by rw [hA]; rfl
  have hhp : s'.heap = H := by rw [hA]; exact hT
  have hW0 : s.WarmedH s'.vm := by rw [hvm]; exact State.WarmedH.refl s
  have hat' : ∀ w ∈ vx_at0 own ic cls names, w.before args s' = true := fun w hw => vx_ot_at hW0 hvm.symm (hgood w (List.mem_cons_of_mem _ (List.mem_cons_of_mem _ hw))) (hat w hw)
  have hk' : (Cond.classLink own ik cls).before args s' = true := vx_ot_at hW0 hvm.symm (hgood _ List.mem_cons_self) hk
  have hini' : (Cond.initialized cls).before args s' = true := vx_ot_at hW0 hvm.symm (hgood _ (List.mem_cons_of_mem _ List.mem_cons_self)) hini
  have hU' : vx_Zq Bundle.tN "UNASSIGNED_STACK" Bundle.steD A s' s'.heap := by rw [hhp]; exact vx_Zq.moved hW0.alike (hU.kept hS.2.1)
  have hN' : vx_Zq Bundle.tN "SUPPRESSED_SENTINEL" Bundle.listD A s' s'.heap := by rw [hhp]; exact vx_Zq.moved hW0.alike (hN.kept hS.2.1)
  have h : ∀ w ∈ Bundle.ownAtoms0 own ic cls names, w.before args s' = true := vx_own hat' (vx_isRefq hU'.1) (vx_isRefq hN'.1) hU'.2.word hN'.2.word
  have hown' : s'.vm.findClass own = some m.cls := by rw [hvm]; exact hown
  have hins : (Cond.instantiable cls 6).before args s' = true := h _ (by simp [Bundle.ownAtoms0])
  obtain ⟨vm₁, cX, kX, hfX, hkX, -, -, X₁, st1⟩ := Y.newCold hexec (own := own) (C := cls) (index := ik) (n := 6) hown' hk' hins hini'
    (g := F0 m pc ls rest) rfl (by rw [hb]; exact d0) (Nat.le_refl _) (Nat.le_refl _)
  generalize hT1 : (T.setVm vm₁).pushCell { cls := cX, slots := kX.instanceTypes.map defaultValue, vm := .none } = T1 at X₁ st1
  have hcat : (Value.ref T.heap.size).category = 1 := rfl
  have hcellA : T1.heap[T.heap.size]? = some (freshCell cX kX) := by rw [← hT1]; exact State.heap_pushCell_size _ _
  have d3' : decode c.code (pc + 3) = .ok (.dup, 1) := by rw [hb]; exact d3
  obtain ⟨U, hsteps, hrun, hend, hW, hsame, ce, hce, hO⟩ := X₁.ctorThrow0 hexec htr (own := own) (cls := cls) (names := names) (ic := ic) hown' hcls hnames h (fun x hx => nomatch hx) hfX hkX hcellA (by rw [hhp, hT]; exact Nat.le_refl _)
    (g := { method := m, pc := pc + 4, locals := ls, stack := .ref T.heap.size :: .ref T.heap.size :: rest, locked := none }) rfl hsize rfl rfl (rest := rest) rfl
    (by rw [hb]; exact d4) (by rw [hb]; exact d7) hout hRframes (by simp only [List.map_cons, List.sum_cons, hcat]; omega) hlocks
  obtain ⟨f1, f2⟩ := vx_frame hsame
  rw [hhp] at f1 f2
  have hWs : s.WarmedH U.vm := State.WarmedH.trans hW0 hW
  have hcl : s.vm.findClass cls = some ce.cls := by
    have h9 := hO.cls
    rw [hvm] at h9
    exact h9
  have hall : s.sameButNew ({ U with vm := s.vm } : State) locs mc ms := by
    subst hA
    obtain ⟨e1, e2⟩ := hsame
    rw [State.setFrames_setFrames] at e1
    have h2 : (T.setVm s.vm).sameButNew ({ U with vm := s.vm } : State) [] (0 + 1) (0 + 6) := ⟨e1, e2⟩
    have h3 := X.same.trans h2
    rw [List.append_nil] at h3
    exact h3.mono hc hs
  refine ⟨U, ?_, .threw T.heap.size, hrun, hend, Or.inr ⟨T.heap.size, rfl, cls, ce, locs, hx U hWs.alike f1 (fun q hq => f2 q hq (fun z hz => nomatch hz)), hce, hO.vm, hcl, hWs, hall, hf⟩⟩
  refine st1 _ ?_
  show Steps p.tables e below (T1.setTop { method := m, pc := pc + 3, locals := ls, stack := .ref T.heap.size :: rest, locked := none }) _
  jvm_step X₁.here [X₁.here.top, hexec, d3', Value.category]
  exact hsteps
/-- 'throw new E("text")': new; dup; ldc; invokespecial; athrow -/
theorem vx_throwS {cc : ByteArray} {pc : Nat} (hexec : p.tables.exec = Jvm.exec) (hb : c.code = cc) (hl : l.stackTraces = false) {own cls text : String} {names : List String} {ik is ic mc ms sa : Nat} {A : Nat → Prop}
    (hown : s.vm.findClass own = some m.cls) (hcls : Bundle.fit cls = true) (hnames : ∀ n ∈ names, Bundle.fit n = true)
    (hk : (Cond.classLink own ik cls).before args s = true) (hini : (Cond.initialized cls).before args s = true) (hstr : vk_R own is text sa s) (hat : ∀ w ∈ vx_atS own ic cls names, w.before args s = true)
    (hgood : ∀ w ∈ Cond.classLink own ik cls :: Cond.initialized cls :: vx_atS own ic cls names, vx_ot w = true)
    (hU : vx_Zq Bundle.tN "UNASSIGNED_STACK" Bundle.steD A s s.heap) (hN : vx_Zq Bundle.tN "SUPPRESSED_SENTINEL" Bundle.listD A s s.heap) (hS : va_S A s.heap H locs) (hsize : ls.size = c.maxLocals)
    (d0 : decode cc pc = .ok (.new ik, 3)) (d3 : decode cc (pc + 3) = .ok (.dup, 1)) (d4 : decode cc (pc + 4) = .ok (.ldc is, 2)) (d6 : decode cc (pc + 6) = .ok (.invokespecial ic, 3)) (d9 : decode cc (pc + 9) = .ok (.athrow, 1))
    (hout : ∀ x ∈ c.exceptionTable.toList, covers x (pc + 9) = false)
    (hRframes : names.length + 3 < R.frames) (hRlocals : (rest.map fun v => v.category).sum + (13 * (names.length + 1) + 43) ≤ R.locals) (hRcells : cells + 1 ≤ R.cells) (hRslots : slots + 6 ≤ R.slots) (hlocks : meth.locks = false)
    (hx : ∀ t : State, s.vm.Alike t.vm → H.size ≤ t.heap.size → (∀ q : Nat, q < H.size → t.heap[q]? = H[q]?) → XC cls s t)
    (hf : ∀ z ∈ locs, free z.base) (hc : cells + 1 ≤ mc) (hs : slots + 6 ≤ ms) :
    W p l e R s m args below meth c H locs cells slots (vx_MQ below Qc XC args s mc ms free) (F0 m pc ls rest) := by
  intro T hT X
  have htr : e.platform.stackTraces = false := (show e.platform.stackTraces = l.stackTraces by rw [X.admits.platform]).trans hl
  have Y := vx_rebase X (R' := { frames := R.frames, locals := R.locals, cells := 1, slots := 6 }) (Nat.le_refl _) (Nat.le_refl _) hRcells hRslots
  obtain ⟨s', hA⟩ : ∃ z, z = (T.setVm s.vm).setFrames (.invoking m args :: below) := ⟨_, rfl⟩
  rw [← hA] at Y
  have hvm : s'.vm = s.vm := by rw [hA]; rfl
  have hhp : s'.heap = H := by rw [hA]; exact hT
  have hW0 : s.WarmedH s'.vm := by rw [hvm]; exact State.WarmedH.refl s
  have hat' : ∀ w ∈ vx_atS own ic cls names, w.before args s' = true := fun w hw => vx_ot_at hW0 hvm.symm (hgood w (List.mem_cons_of_mem _ (List.mem_cons_of_mem _ hw))) (hat w hw)
  have hk' : (Cond.classLink own ik cls).before args s' = true := vx_ot_at hW0 hvm.symm (hgood _ List.mem_cons_self) hk
  have hini' : (Cond.initialized cls).before args s' = true := vx_ot_at hW0 hvm.symm (hgood _ (List.mem_cons_of_mem _ List.mem_cons_self)) hini
  have hU' : vx_Zq Bundle.tN "UNASSIGNED_STACK" Bundle.steD A s' s'.heap := by rw [hhp]; exact vx_Zq.moved hW0.alike (hU.kept hS.2.1)
  have hN' : vx_Zq Bundle.tN "SUPPRESSED_SENTINEL" Bundle.listD A s' s'.heap := by rw [hhp]; exact vx_Zq.moved hW0.alike (hN.kept hS.2.1)
  have h : ∀ w ∈ Bundle.ownAtoms own ic cls names, w.before args s' = true := vx_own hat' (vx_isRefq hU'.1) (vx_isRefq hN'.1) hU'.2.word hN'.2.word
  have hown' : s'.vm.findClass own = some m.cls := by rw [hvm]; exact hown
  have hins : (Cond.instantiable cls 6).before args s' = true := h _ (by simp [Bundle.ownAtoms])
  obtain ⟨vm₁, cX, kX, hfX, hkX, -, -, X₁, st1⟩ := Y.newCold hexec (own := own) (C := cls) (index := ik) (n := 6) hown' hk' hins hini'
    (g := F0 m pc ls rest) rfl (by rw [hb]; exact d0) (Nat.le_refl _) (Nat.le_refl _)
  generalize hT1 : (T.setVm vm₁).pushCell { cls := cX, slots := kX.instanceTypes.map defaultValue, vm := .none } = T1 at X₁ st1
  have hcat : (Value.ref T.heap.size).category = 1 := rfl
  have hcellA : T1.heap[T.heap.size]? = some (freshCell cX kX) := by rw [← hT1]; exact State.heap_pushCell_size _ _
  have d3' : decode c.code (pc + 3) = .ok (.dup, 1) := by rw [hb]; exact d3
  have d4' : decode c.code (pc + 4) = .ok (.ldc is, 2) := by rw [hb]; exact d4
  have hstr' : vk_R own is text sa s' := vk_R.warm hW0 hstr
  obtain ⟨U, hsteps, hrun, hend, hW, hsame, ce, hce, hO⟩ := X₁.ctorThrowS hexec htr (own := own) (cls := cls) (names := names) (ic := ic) hown' hcls hnames h (fun x hx => nomatch hx) hfX hkX hcellA (by rw [hhp, hT]; exact Nat.le_refl _) (msg := .ref sa) rfl
    (g := { method := m, pc := pc + 6, locals := ls, stack := .ref sa :: .ref T.heap.size :: .ref T.heap.size :: rest, locked := none }) rfl hsize rfl rfl (rest := rest) rfl
    (by rw [hb]; exact d6) (by rw [hb]; exact d9) hout hRframes (by simp only [List.map_cons, List.sum_cons, hcat]; omega) hlocks
  obtain ⟨f1, f2⟩ := vx_frame hsame
  rw [hhp] at f1 f2
  have hWs : s.WarmedH U.vm := State.WarmedH.trans hW0 hW
  have hcl : s.vm.findClass cls = some ce.cls := by
    have h9 := hO.cls
    rw [hvm] at h9
    exact h9
  have hall : s.sameButNew ({ U with vm := s.vm } : State) locs mc ms := by
    subst hA
    obtain ⟨e1, e2⟩ := hsame
    rw [State.setFrames_setFrames] at e1
    have h2 : (T.setVm s.vm).sameButNew ({ U with vm := s.vm } : State) [] (0 + 1) (0 + 6) := ⟨e1, e2⟩
    have h3 := X.same.trans h2
    rw [List.append_nil] at h3
    exact h3.mono hc hs
  refine ⟨U, ?_, .threw T.heap.size, hrun, hend, Or.inr ⟨T.heap.size, rfl, cls, ce, locs, hx U hWs.alike f1 (fun q hq => f2 q hq (fun z hz => nomatch hz)), hce, hO.vm, hcl, hWs, hall, hf⟩⟩
  refine st1 _ ?_
  show Steps p.tables e below (T1.setTop { method := m, pc := pc + 3, locals := ls, stack := .ref T.heap.size :: rest, locked := none }) _
  jvm_step X₁.here [X₁.here.top, hexec, d3', Value.category]
  exact X₁.ldcString hexec (own := own) (text := text) (index := is) (a := sa) hown' hstr'.1 hstr'.2
    (g := { method := m, pc := pc + 4, locals := ls, stack := .ref T.heap.size :: .ref T.heap.size :: rest, locked := none }) rfl d4' _ hsteps
/-- 'throw new E("text")', the text by a wide index -/
theorem vx_throwSW {cc : ByteArray} {pc : Nat} (hexec : p.tables.exec = Jvm.exec) (hb : c.code = cc) (hl : l.stackTraces = false) {own cls text : String} {names : List String} {ik is ic mc ms sa : Nat} {A : Nat → Prop}
    (hown : s.vm.findClass own = some m.cls) (hcls : Bundle.fit cls = true) (hnames : ∀ n ∈ names, Bundle.fit n = true)
    (hk : (Cond.classLink own ik cls).before args s = true) (hini : (Cond.initialized cls).before args s = true) (hstr : vk_R own is text sa s) (hat : ∀ w ∈ vx_atS own ic cls names, w.before args s = true)
    (hgood : ∀ w ∈ Cond.classLink own ik cls :: Cond.initialized cls :: vx_atS own ic cls names, vx_ot w = true)
    (hU : vx_Zq Bundle.tN "UNASSIGNED_STACK" Bundle.steD A s s.heap) (hN : vx_Zq Bundle.tN "SUPPRESSED_SENTINEL" Bundle.listD A s s.heap) (hS : va_S A s.heap H locs) (hsize : ls.size = c.maxLocals)
    (d0 : decode cc pc = .ok (.new ik, 3)) (d3 : decode cc (pc + 3) = .ok (.dup, 1)) (d4 : decode cc (pc + 4) = .ok (.ldc_w is, 3)) (d7 : decode cc (pc + 7) = .ok (.invokespecial ic, 3)) (d10 : decode cc (pc + 10) = .ok (.athrow, 1))
    (hout : ∀ x ∈ c.exceptionTable.toList, covers x (pc + 10) = false)
    (hRframes : names.length + 3 < R.frames) (hRlocals : (rest.map fun v => v.category).sum + (13 * (names.length + 1) + 43) ≤ R.locals) (hRcells : cells + 1 ≤ R.cells) (hRslots : slots + 6 ≤ R.slots) (hlocks : meth.locks = false)
    (hx : ∀ t : State, s.vm.Alike t.vm → H.size ≤ t.heap.size → (∀ q : Nat, q < H.size → t.heap[q]? = H[q]?) → XC cls s t)
    (hf : ∀ z ∈ locs, free z.base) (hc : cells + 1 ≤ mc) (hs : slots + 6 ≤ ms) :
    W p l e R s m args below meth c H locs cells slots (vx_MQ below Qc XC args s mc ms free) (F0 m pc ls rest) := by
  intro T hT X
  have htr : e.platform.stackTraces = false := (show e.platform.stackTraces = l.stackTraces by rw [X.admits.platform]).trans hl
  have Y := vx_rebase X (R' := { frames := R.frames, locals := R.locals, cells := 1, slots := 6 }) (Nat.le_refl _) (Nat.le_refl _) hRcells hRslots
  obtain ⟨s', hA⟩ : ∃ z, z = (T.setVm s.vm).setFrames (.invoking m args :: below) := ⟨_, rfl⟩
  rw [← hA] at Y
  have hvm : s'.vm = s.vm := by rw [hA]; rfl
  have hhp : s'.heap = H := by rw [hA]; exact hT
  have hW0 : s.WarmedH s'.vm := by rw [hvm]; exact State.WarmedH.refl s
  have hat' : ∀ w ∈ vx_atS own ic cls names, w.before args s' = true := fun w hw => vx_ot_at hW0 hvm.symm (hgood w (List.mem_cons_of_mem _ (List.mem_cons_of_mem _ hw))) (hat w hw)
  have hk' : (Cond.classLink own ik cls).before args s' = true := vx_ot_at hW0 hvm.symm (hgood _ List.mem_cons_self) hk
  have hini' : (Cond.initialized cls).before args s' = true := vx_ot_at hW0 hvm.symm (hgood _ (List.mem_cons_of_mem _ List.mem_cons_self)) hini
  have hU' : vx_Zq Bundle.tN "UNASSIGNED_STACK" Bundle.steD A s' s'.heap := by rw [hhp]; exact vx_Zq.moved hW0.alike (hU.kept hS.2.1)
  have hN' : vx_Zq Bundle.tN "SUPPRESSED_SENTINEL" Bundle.listD A s' s'.heap := by rw [hhp]; exact vx_Zq.moved hW0.alike (hN.kept hS.2.1)
  have h : ∀ w ∈ Bundle.ownAtoms own ic cls names, w.before args s' = true := vx_own hat' (vx_isRefq hU'.1) (vx_isRefq hN'.1) hU'.2.word hN'.2.word
  have hown' : s'.vm.findClass own = some m.cls := by rw [hvm]; exact hown
  have hins : (Cond.instantiable cls 6).before args s' = true := h _ (by simp [Bundle.ownAtoms])
  obtain ⟨vm₁, cX, kX, hfX, hkX, -, -, X₁, st1⟩ := Y.newCold hexec (own := own) (C := cls) (index := ik) (n := 6) hown' hk' hins hini'
    (g := F0 m pc ls rest) rfl (by rw [hb]; exact d0) (Nat.le_refl _) (Nat.le_refl _)
  generalize hT1 : (T.setVm vm₁).pushCell { cls := cX, slots := kX.instanceTypes.map defaultValue, vm := .none } = T1 at X₁ st1
  have hcat : (Value.ref T.heap.size).category = 1 := rfl
  have hcellA : T1.heap[T.heap.size]? = some (freshCell cX kX) := by rw [← hT1]; exact State.heap_pushCell_size _ _
  have d3' : decode c.code (pc + 3) = .ok (.dup, 1) := by rw [hb]; exact d3
  have d4' : decode c.code (pc + 4) = .ok (.ldc_w is, 3) := by rw [hb]; exact d4
  have hstr' : vk_R own is text sa s' := vk_R.warm hW0 hstr
  obtain ⟨U, hsteps, hrun, hend, hW, hsame, ce, hce, hO⟩ := X₁.ctorThrowS hexec htr (own := own) (cls := cls) (names := names) (ic := ic) hown' hcls hnames h (fun x hx => nomatch hx) hfX hkX hcellA (by rw [hhp, hT]; exact Nat.le_refl _) (msg := .ref sa) rfl
    (g := { method := m, pc := pc + 7, locals := ls, stack := .ref sa :: .ref T.heap.size :: .ref T.heap.size :: rest, locked := none }) rfl hsize rfl rfl (rest := rest) rfl
    (by rw [hb]; exact d7) (by rw [hb]; exact d10) hout hRframes (by simp only [List.map_cons, List.sum_cons, hcat]; omega) hlocks
  obtain ⟨f1, f2⟩ := vx_frame hsame
  rw [hhp] at f1 f2
  have hWs : s.WarmedH U.vm := State.WarmedH.trans hW0 hW
  have hcl : s.vm.findClass cls = some ce.cls := by
    have h9 := hO.cls
    rw [hvm] at h9
    exact h9
  have hall : s.sameButNew ({ U with vm := s.vm } : State) locs mc ms := by
    subst hA
    obtain ⟨e1, e2⟩ := hsame
    rw [State.setFrames_setFrames] at e1
    have h2 : (T.setVm s.vm).sameButNew ({ U with vm := s.vm } : State) [] (0 + 1) (0 + 6) := ⟨e1, e2⟩
    have h3 := X.same.trans h2
    rw [List.append_nil] at h3
    exact h3.mono hc hs
  refine ⟨U, ?_, .threw T.heap.size, hrun, hend, Or.inr ⟨T.heap.size, rfl, cls, ce, locs, hx U hWs.alike f1 (fun q hq => f2 q hq (fun z hz => nomatch hz)), hce, hO.vm, hcl, hWs, hall, hf⟩⟩
  refine st1 _ ?_
  show Steps p.tables e below (T1.setTop { method := m, pc := pc + 3, locals := ls, stack := .ref T.heap.size :: rest, locked := none }) _
  jvm_step X₁.here [X₁.here.top, hexec, d3', Value.category]
  exact X₁.ldcStringW hexec (own := own) (text := text) (index := is) (a := sa) hown' hstr'.1 hstr'.2
    (g := { method := m, pc := pc + 4, locals := ls, stack := .ref T.heap.size :: .ref T.heap.size :: rest, locked := none }) rfl d4' _ hsteps
end Ends
section Bodies
variable {l : Launch}
theorem vx_ofW {y : MethodName} {ws ws' : List Cond} {rm : Room} {Pc : Array Value → State → Prop} {Qc : Array Value → State → Outcome → State → Prop} {XC : String → State → State → Prop} {mc ms : Nat} {free : Addr → Prop} {cc : ByteArray} {maxL : Nat} {ret : Option FieldType}
    (hy : plainName y.cls = true) (hw : ws = Cond.code y cc maxL ret :: ws')
    (body : ∀ p e s m args below meth c s₁, BodyLoose p l y (headSpec ws rm) cc maxL ret e s m args below meth c s₁ → c.maxLocals = maxL → (∀ x ∈ c.exceptionTable.toList, False) → Pc args s →
      W p l e (headSpec ws rm).room s m args below meth c s.heap [] 0 0 (vx_MQ below Qc XC args s mc ms free) (entryFrame m args maxL)) : vx_Met l y ws rm Pc Qc XC mc ms free := by
  refine MetFree.of_bodyS (code := cc) (maxLocals := maxL) (ret := ret) hy ?_ ?_
  · intro args s m h hn
    obtain ⟨meth, c, h1, h2, h3, h4, h5, h6, -, -⟩ := Cond.code_spec hn (atoms_spec (ws := ws) h _ (by rw [hw]; exact List.mem_cons_self))
    exact ⟨meth, c, h1, h2, h3, h4, h5, h6⟩
  · intro p e s m args below meth c s₁ B hml hP _
    have hh0 : s₁.heap = s.heap := by rw [B.state]; rfl
    have ht : ∀ x ∈ c.exceptionTable.toList, False := by
      obtain ⟨meth9, c9, h1, h2, -, -, -, -, h7, -⟩ := Cond.code_spec B.named (atoms_spec (ws := ws) B.pre _ (by rw [hw]; exact List.mem_cons_self))
      cases Option.some.inj (h1.symm.trans B.method)
      cases Option.some.inj (h2.symm.trans (Stand.of_body B).code)
      intro x hx
      rw [Array.isEmpty_iff.mp h7] at hx
      cases hx
    obtain ⟨t, a1, o, b1, b2, b3⟩ := body p e s m args below meth c s₁ B hml ht hP s₁ hh0 (Stand.of_body B)
    exact ⟨t, o, a1, b1, b2, b3⟩
/-- the table of a body with handlers -/
theorem vx_table {p : Program} {x y : MethodName} {S : Spec} {cc bytes : ByteArray} {maxL maxL' : Nat} {ret ret' : Option FieldType} {e : Env} {s s₁ : State} {m : MethodId} {args : Array Value} {below : List Frame} {meth : Method} {c : Code} {hh : List (Nat × Nat × Nat × Nat)}
    (B : BodyLoose p l y S cc maxL ret e s m args below meth c s₁) (h : (Cond.codeWith y bytes maxL' ret' hh).before args s = true) : c.exceptionTable.toList = tableOf hh := by
  obtain ⟨m9, meth9, c9, hn9, h1, h2, -, -, h6, -⟩ := Cond.codeWith_spec h
  cases Option.some.inj (hn9.symm.trans B.named)
  cases Option.some.inj (h1.symm.trans B.method)
  cases Option.some.inj (h2.symm.trans (Stand.of_body B).code)
  rw [← h6, table_eq]
end Bodies
end VXA
/-! ===== END ===== -/
/-! ===== BEGIN a static call of a method with an exception table ===== -/
section VXS
variable {p : Program} {l : Launch} {e : Env} {R : Room} {s : State} {m : MethodId} {args : Array Value} {below : List Frame} {meth : Method} {c : Code} {T : State} {H : Heap} {locs : List Loc} {cells slots : Nat}
abbrev vx_CSW (R : Room) (s : State) (args : Array Value) (own : String) (index : Nat) (y : MethodName) (bytes : ByteArray) (maxL : Nat) (ret : Option FieldType) (hh : List (Nat × Nat × Nat × Nat)) (ws : List Cond) (rm : Room) (mc ms n : Nat) : Prop :=
  (rm.cells = mc ∧ rm.slots = ms ∧ rm.frames + 1 ≤ R.frames ∧ 8 + (maxL + 11) + rm.locals ≤ R.locals ∧ (∀ w ∈ ws, ∀ (a' : Array Value) (U : State), s.WarmedH U.vm → w.before a' U = true) ∧ Cond.codeWith y bytes maxL ret hh ∈ ws) ∧
  (Cond.codeWith y bytes maxL ret hh).before args s = true ∧ (Cond.initialized y.cls).before args s = true ∧ (y.cls ≠ "java/lang/invoke/MethodHandle" ∧ y.cls ≠ "java/lang/invoke/VarHandle") ∧
  (∀ sig, parseMethodDescriptor y.desc = some sig → n = sig.parameters.length) ∧ (Cond.methodLink own index y).before args s = true ∧ (Cond.static y).before args s = true
theorem vx_cwSW {own : String} {index maxL mc ms : Nat} {y : MethodName} {bytes : ByteArray} {ret : Option FieldType} {hh : List (Nat × Nat × Nat × Nat)} {Ts ws ws' : List Cond} {rm : Room} (n : Nat) (ht : ∀ w ∈ Ts, w.before args s = true) (hT : GoodIn Ts (va_wsS own index y ws)) (hw : ws = Cond.codeWith y bytes maxL ret hh :: ws') (hrc : rm.cells = mc) (hrs : rm.slots = ms)
    (hd : y.cls ≠ "java/lang/invoke/MethodHandle" ∧ y.cls ≠ "java/lang/invoke/VarHandle" ∧ (parseMethodDescriptor y.desc).map (fun d => d.parameters.length) = some n) (hR : rm.frames + 1 ≤ R.frames ∧ 8 + (maxL + 11) + rm.locals ≤ R.locals) :
    vx_CSW R s args own index y bytes maxL ret hh ws rm mc ms n := by
  have ok : ∀ w ∈ va_wsS own index y ws, w.before args s = true := fun w h => ht w (hT w h).1
  have hG : GoodIn Ts ws := fun w h => hT w (by unfold va_wsS; exact List.mem_append_right _ h)
  have hc : Cond.codeWith y bytes maxL ret hh ∈ ws := by rw [hw]; exact List.mem_cons_self
  refine ⟨⟨hrc, hrs, hR.1, hR.2, pay_in ht hG, hc⟩, ht _ (hG _ hc).1, ok _ (by simp [va_wsS]), ⟨hd.1, hd.2.1⟩, fun sig h => ?_, ok _ (by simp [va_wsS]), ok _ (by simp [va_wsS])⟩
  have h2 := hd.2.2
  rw [h] at h2
  exact (Option.some.inj h2).symm
theorem vx_callSW (X : Stand p l e R s m args below meth c T locs cells slots) (hexec : p.tables.exec = Jvm.exec) {own : String} {index : Nat} {y : MethodName} {bytes : ByteArray} {maxL : Nat} {ret : Option FieldType} {hh : List (Nat × Nat × Nat × Nat)}
    (hown : s.vm.findClass own = some m.cls) (hlink : (Cond.methodLink own index y).before args s = true) (hstat : (Cond.static y).before args s = true) (hinit : (Cond.initialized y.cls).before args s = true)
    (hcode : (Cond.codeWith y bytes maxL ret hh).before args s = true) (hy : y.cls ≠ "java/lang/invoke/MethodHandle" ∧ y.cls ≠ "java/lang/invoke/VarHandle")
    {W9 : Nat} {Pre : Pt → Array Value → Prop} {Post : Pt → Array Value → Option Value → Pt → Prop} (hK : Back l R p e below s args y 3 W9 Pre Post)
    {g : JFrame} (hg : g.method = m) (hsize : g.locals.size = c.maxLocals) {argsL rest : List Value} (hlen : ∀ sig, parseMethodDescriptor y.desc = some sig → argsL.length = sig.parameters.length)
    (hstack : g.stack = argsL.reverse ++ rest) (hW : 2 * g.monitorRoom + (rest.map fun v => v.category).sum ≤ W9) (hdg : decode c.code g.pc = .ok (.invokestatic index, 3))
    (hpre : ∀ vm₁, s.WarmedH vm₁ → Pre ⟨T.setVm vm₁, locs, cells, slots⟩ argsL.toArray) :
    ∃ (v : Option Value) (vm₁ : Vm) (B : Pt), s.WarmedH vm₁ ∧ Stand p l e R s m args below meth c B.U B.locs B.cells B.slots ∧ Post ⟨T.setVm vm₁, locs, cells, slots⟩ argsL.toArray v B ∧
      ∀ target, Steps p.tables e below (B.U.setTop { g with pc := g.pc + 3, stack := v.toList ++ rest }) target → Steps p.tables e below (T.setTop g) target := by
  obtain ⟨mk, methM, cM, hnamed, hmethM, -, -, -, -, -, -, hsigM⟩ := Cond.codeWith_spec hcode
  have hstatic : methM.isStatic = true := Cond.static_spec hnamed hmethM hstat
  obtain ⟨kP, hkP, -⟩ := className_of_methodNamed hnamed
  have hinitP : kP.init = .initialized := Cond.initialized_spec (findClass_of_methodNamed hnamed) hkP hinit
  obtain ⟨vm₁, X₁, hstep₁⟩ := X.invokestatic hexec hown hlink hnamed hmethM hstatic hkP hinitP hy (g := g) hg (argsL := argsL) (rest := rest) (hlen _ hsigM) hstack hdg
  obtain ⟨v, B, X', hpost, hsteps⟩ := hK m meth c ⟨T.setVm vm₁, locs, cells, slots⟩ { g with stack := rest } (.invokestatic index) mk argsL.toArray X₁ hg hsize hdg hW (X₁.named hnamed) (hpre vm₁ X₁.warmed)
  exact ⟨v, vm₁, B, X₁.warmed, X', hpost, fun target h => hstep₁ _ fun acts => by rw [doInvoke_state]; exact hsteps.trans h⟩
theorem vx_runSW {y : MethodName} {bytes cc : ByteArray} {maxL nL mc ms n index : Nat} {ret : Option FieldType} {hh : List (Nat × Nat × Nat × Nat)} {ws : List Cond} {rm : Room} {Pc : Array Value → State → Prop} {Qc : Array Value → State → Outcome → State → Prop} {free : Addr → Prop} {Ts : List Cond} {own : String} {As rest : List Value} {g : JFrame}
    (S : CallFix p m c cc nL s args Ts own) (hM : Met l y ws rm Pc Qc mc ms free) (cw : vx_CSW R s args own index y bytes maxL ret hh ws rm mc ms n) (hp : PreS s H Pc As)
    (hg : g.method = m) (hn : As.length = n) (hsize : g.locals.size = nL) (hstack : g.stack = As.reverse ++ rest) (hW : 2 * g.monitorRoom + (rest.map fun v => v.category).sum ≤ 8) (hdg : decode cc g.pc = .ok (.invokestatic index, 3)) (hf : cells + mc ≤ R.cells ∧ slots + ms ≤ R.slots) :
    va_Run p l e R s m args below meth c H locs cells slots mc ms g rest (Qc As.toArray) (free) := by
  obtain ⟨⟨hrc, hrs, hfr, hlo, hws, hcw⟩, hcode, hini, hy, hlen, hl, hstt⟩ := cw
  have hK : Back l R p e below s args y 3 8 (PreOf R mc ms Pc) (PostOf Qc mc ms free) := va_backW (hh := hh) (bytes := bytes) (maxL := maxL) (ret := ret) hM hp.1 hrc hrs hfr hlo hws hcw (fun a' U hW => word_at hW (Or.inl (by first | rfl | simp [Cond.onTables, Cond.keeps, Cond.steady])) hini)
  obtain ⟨hx, hb, hml, ho, -⟩ := S
  intro T hT X
  obtain ⟨v, vm₁, ⟨U', l2, c2, s2⟩, hW₁, X', ⟨g', mk, t, L, e1, e2, hq, h1, hL, h2, h3⟩, st⟩ := vx_callSW X hx (hh := hh) (bytes := bytes) (maxL := maxL) (ret := ret) ho hl hstt hini hcode hy hK hg (hsize.trans hml.symm) (argsL := As) (rest := rest) (fun sig h => hn.trans (hlen sig h)) hstack hW (by rw [hb]; exact hdg)
    (fun vm₁ hW₁ => ⟨hf.1, hf.2, hp.2 (T.setVm vm₁) hT hW₁⟩)
  dsimp only [Pt.U, Pt.locs, Pt.cells, Pt.slots] at X' e1 e2 h1 h2 h3 st
  subst h1; subst h2; subst h3
  exact ⟨v, (T.setVm vm₁).calling g' mk As.toArray, t, U', L, hT, X', hL, e1, e2, hq, st⟩
/-- not caught here, past rows that name other classes: it goes on to the caller -/
theorem vx_outP {p : Program} {l : Launch} {e : Env} {R : Room} {s : State} {m : MethodId} {args : Array Value} {below : List Frame} {meth : Method} {c : Code} {H : Heap} {locs : List Loc} {cells slots : Nat} {free : Addr → Prop} {ls : Array Slot} {rest : List Value} {Qc : Array Value → State → Outcome → State → Prop} {XC : String → State → State → Prop}
    {pc : Nat} {own E : String} {ce : Cell} {q : Addr} {mc ms : Nat} (hown : s.vm.findClass own = some m.cls) (hlocks : meth.locks = false)
    (hpass : ∀ z ∈ c.exceptionTable.toList, covers z pc = false ∨ (z.catchType ≠ 0 ∧ ∃ nm : String, (Cond.classLink own z.catchType nm).before args s = true ∧ va_Nc E nm s)) (hcell : H[q]? = some ce) (hv : ce.vm = .none) (hcl : s.vm.findClass E = some ce.cls)
    (hx : ∀ t : State, t.heap = H → s.vm.Alike t.vm → XC E s t) (hf : ∀ z ∈ locs, free z.base) (hc : cells ≤ mc) (hs : slots ≤ ms) :
    vx_W p l e R s m args below meth c H locs cells slots (vx_MQ below Qc XC args s mc ms free) (F0 m pc ls rest) q := by
  intro T hT X
  have hpl : e.platform.magicAccessors = ({} : Platform).magicAccessors := by rw [X.admits.platform]
  obtain ⟨vm', hW', X', st⟩ := X.outThrough hlocks q (g := F0 m pc ls rest) rfl rfl rfl (cell := ce) (by rw [hT]; exact hcell) (by rw [hv]; rfl)
    (by obtain ⟨k9, h9, -⟩ := Vm.findClass_spec hcl; exact ⟨k9, h9⟩) (fun z hz => by
      rcases hpass z hz with h | ⟨hz0, nm, hl1, hn1⟩
      · exact Or.inl h
      · obtain ⟨c6, hc6, hcl6⟩ := Cond.classLink_spec hown hl1 e.platform hpl
        obtain ⟨a8, b8, h1, h2, h3⟩ := hn1
        cases Option.some.inj (h1.symm.trans hcl)
        cases Option.some.inj (h2.symm.trans hc6)
        exact Or.inr ⟨hz0, _, hcl6, h3⟩)
  obtain ⟨g₀, hfr⟩ := X'.frames_eq
  have hcell9 : ((T.setVm vm').setFrames (.throwing q :: below)).heap[q]? = some ce := by
    show T.heap[q]? = some ce
    rw [hT]; exact hcell
  have hend : Ended ((T.setVm vm').setFrames (.throwing q :: below)) below (.threw q) := State.frames_setFrames _ (State.cur_lt_of_frames hfr)
  refine ⟨(T.setVm vm').setFrames (.throwing q :: below), ?_, .threw q, X'.here.running, hend, Or.inr ⟨q, rfl, E, ce, locs, hx _ hT (X'.ends _).1.alike, hcell9, hv, hcl, (X'.ends _).1, (X'.ends _).2.mono hc hs, hf⟩⟩
  rw [X.pushThrowing_eq]
  exact st
/-- a thing of a world lies in the heap -/
theorem vx_lt {D : va_G} {cl : List vw_C} {ws : va_W} {H1 : Heap} (h : va_P D cl ws H1) {k : Nat} {q : Nat × va_E} (hk : ws[k]? = some q) : q.1 < H1.size := (h k q hk).lt
end VXS
/-! ===== END ===== -/
/-! ===== BEGIN methods with a table of their own: called by a name, returning or throwing ===== -/
section VXH
/-! vx_backW, vx_callVX, vx_callSX, vx_callVW, vx_runVW, vx_runVX, vx_runSX, vx_ofWH follow the same proofs as their sisters above (Free/Laws.lean, Shelf42/LK1.lean); vx_outP calls Shelf42/NT130.lean (outThrough). -/
section
variable {l : Launch} {R : Room} {p : Program} {e : Env} {below : List Frame} {s : State} {sargs : Array Value} {y : MethodName} {len W9 : Nat}
theorem vx_backW {ws : List Cond} {rm : Room} {Pc : Array Value → State → Prop} {Qc : Array Value → State → Outcome → State → Prop} {XC : String → State → State → Prop} {mc ms : Nat} {free : Addr → Prop} {bytes : ByteArray} {maxL : Nat} {ret : Option FieldType} {hh : List (Nat × Nat × Nat × Nat)}
    (hM : vx_Met l y ws rm Pc Qc XC mc ms free) (hblind : FrameBlind Pc) (hrc : rm.cells = mc) (hrs : rm.slots = ms)
    (hframes : rm.frames + 1 ≤ R.frames) (hlocals : W9 + (maxL + 11) + rm.locals ≤ R.locals)
    (hws : ∀ w ∈ ws, ∀ a' U, s.WarmedH U.vm → w.before a' U = true) (hcode : Cond.codeWith y bytes maxL ret hh ∈ ws) (hinit : ∀ a' U, s.WarmedH U.vm → (Cond.initialized y.cls).before a' U = true) :
    vx_Back l R p e below s sargs y len W9 (PreOf R mc ms Pc) (PostOf Qc mc ms free) (vx_Post XC mc ms free) := by
  intro m meth c A g ig mk a X hg hsize hdg hW hn hp
  have h1 : (headSpec ws rm).pre.before a A.U = true := atoms_intro fun w hw => hws w hw _ _ X.warmed
  have h2 : (Cond.codeWith y bytes maxL ret hh).before a A.U = true := hws _ hcode _ _ X.warmed
  have h3 : (Cond.initialized y.cls).before a A.U = true := hinit _ _ X.warmed
  have h4 : A.cells + (headSpec ws rm).room.cells ≤ R.cells := by rw [show (headSpec ws rm).room.cells = mc from hrc]; exact hp.1
  have h5 : A.slots + (headSpec ws rm).room.slots ≤ R.slots := by rw [show (headSpec ws rm).room.slots = ms from hrs]; exact hp.2.1
  have hPc : Pc a (A.U.calling g mk a) := hblind _ _ _ _ hp.2.2
  obtain ⟨U, Ls, c0, s0⟩ := A
  dsimp only [Pt.U, Pt.locs, Pt.cells, Pt.slots] at h1 h2 h3 h4 h5 X hn hPc ⊢
  obtain ⟨m9, methY, cY, hn9, hmY, hcY, -, hlY, -⟩ := Cond.codeWith_spec h2
  cases Option.some.inj (hn9.symm.trans hn)
  obtain ⟨kY, hkY, -⟩ := className_of_methodNamed hn
  have hinitY : kY.init = .initialized := Cond.initialized_spec (findClass_of_methodNamed hn) hkY h3
  have h : At U g.method c below := by rw [hg]; exact X.here
  have hlocals9 : W9 + (maxL + 11) + (headSpec ws rm).room.locals ≤ R.locals := hlocals
  have happ : (headSpec ws rm).appliesLoose y e.platform (U.calling g mk a) = true :=
    Spec.appliesLoose_calling (g := g) h hdg hn hkY hinitY
      (X.room_calling (g := g) (R' := (headSpec ws rm).room) hsize hmY hcY hframes (by rw [hlY]; omega) h4 h5) h1
  obtain ⟨mid, hmid⟩ := h.above
  have hfr : (U.setTop g).frames = (.java g :: mid) ++ below := by rw [State.frames_setTop' g h.top, hmid]; rfl
  obtain ⟨o, s₂, hsteps, -, hend, hq⟩ := Steps.callFree hM p X.admits X.cas X.clock (acts := []) hfr happ hPc trivial
  have hq' : vx_Q Qc XC mc ms free a (U.calling g mk a) o s₂ := hq
  rw [State.frames_setTop' g h.top] at hend
  obtain ⟨g₀, hg0⟩ := Option.isSome_iff_exists.mp h.top
  obtain ⟨r, hr⟩ := State.topJava?_eq_some.mp hg0
  have hr' : (({ U with heap := s₂.heap, slotsUsed := s₂.slotsUsed } : State).setVm s₂.vm).frames = .java g₀ :: r := hr
  rcases hq' with ⟨hqc, L, hfe, hL⟩ | ⟨q, rfl, E, ce, L, hx, hce, hcv, hcl, hW₂, hsm, hL⟩
  · obtain ⟨⟨v, rfl⟩, hW₂, e2, q2, q3, q4, q5, q6⟩ := id hfe
    have e3 : s₂ = ({ (U.calling g mk a).setFrames s₂.frames with heap := s₂.heap, slotsUsed := s₂.slotsUsed } : State).setVm s₂.vm := by
      have : s₂ = ({ s₂ with vm := (U.calling g mk a).vm } : State).setVm s₂.vm := rfl
      rw [e2] at this
      exact this
    obtain ⟨c₂, i₂, len₂, hc₂, hd₂, hf₂⟩ := hend
    have hW' : U.WarmedH s₂.vm := hW₂
    have hcc : c₂ = c := by
      have h1 : s₂.code? g.method = U.code? g.method := by
        rw [State.code?_eq, State.code?_eq, hW'.alike.method?]
      exact Option.some.inj (hc₂.symm.trans (h1.trans h.code))
    subst hcc
    have hlen : len₂ = len := by rw [hdg] at hd₂; cases hd₂; rfl
    subst hlen
    have hs₂ : s₂ = (({ U with heap := s₂.heap, slotsUsed := s₂.slotsUsed } : State).setVm s₂.vm).setTop { g with pc := g.pc + len₂, stack := v.toList ++ g.stack } := by
      refine e3.trans ?_
      rw [hf₂, State.calling_eq h.top, State.setFrames_setFrames, State.setTop_of_frames _ hr', hr]
      rfl
    have hsame : U.sameButNew ({ U with heap := s₂.heap, slotsUsed := s₂.slotsUsed } : State) L mc ms := by
      refine ⟨?_, q2, q3, q4, q5, q6⟩
      obtain ⟨t, ht, -⟩ := State.frames_cons hr
      show ({ U with heap := s₂.heap, slotsUsed := s₂.slotsUsed } : State) = { U.setFrames U.frames with heap := s₂.heap, slotsUsed := s₂.slotsUsed }
      rw [State.setFrames_self ht]
    subst hg
    refine Or.inl ⟨v, ⟨(({ U with heap := s₂.heap, slotsUsed := s₂.slotsUsed } : State).setVm s₂.vm), Ls ++ L, c0 + mc, s0 + ms⟩,
      ⟨X.admits, X.cas, X.clock, X.frames, X.room, X.hears, X.method, X.code, (X.here.setHeapUsed s₂.heap s₂.slotsUsed).setVm hW'.alike, X.tail, State.WarmedH.trans X.warmed hW', X.limits, X.bytes, X.same.trans (hsame.setVm s.vm)⟩,
      ⟨g, mk, s₂, L, rfl, rfl, hqc, rfl, hL, rfl, rfl⟩, ?_⟩
    show Steps p.tables e below _ ((({ U with heap := s₂.heap, slotsUsed := s₂.slotsUsed } : State).setVm s₂.vm).setTop { g with pc := g.pc + len₂, stack := v.toList ++ g.stack })
    rw [← hs₂]
    exact hsteps
  · obtain ⟨e2, q2, q3, q4, q5, q6⟩ := id hsm
    have e3 : s₂ = ({ (U.calling g mk a).setFrames s₂.frames with heap := s₂.heap, slotsUsed := s₂.slotsUsed } : State).setVm s₂.vm := by
      have : s₂ = ({ s₂ with vm := (U.calling g mk a).vm } : State).setVm s₂.vm := rfl
      rw [e2] at this
      exact this
    have hf₂ : s₂.frames = .throwing q :: .java g :: U.frames.tail := hend
    have hW' : U.WarmedH s₂.vm := hW₂
    have hs₂ : s₂ = ((({ U with heap := s₂.heap, slotsUsed := s₂.slotsUsed } : State).setVm s₂.vm).setTop g).pushFrame (.throwing q) := by
      refine e3.trans ?_
      rw [hf₂, State.calling_eq h.top, State.setFrames_setFrames, State.pushFrame, State.frames_setTop _ hr', State.setTop_of_frames _ hr', State.setFrames_setFrames, hr]
      rfl
    have hsame : U.sameButNew ({ U with heap := s₂.heap, slotsUsed := s₂.slotsUsed } : State) L mc ms := by
      refine ⟨?_, q2, q3, q4, q5, q6⟩
      obtain ⟨t, ht, -⟩ := State.frames_cons hr
      show ({ U with heap := s₂.heap, slotsUsed := s₂.slotsUsed } : State) = { U.setFrames U.frames with heap := s₂.heap, slotsUsed := s₂.slotsUsed }
      rw [State.setFrames_self ht]
    subst hg
    refine Or.inr ⟨q, ⟨(({ U with heap := s₂.heap, slotsUsed := s₂.slotsUsed } : State).setVm s₂.vm), Ls ++ L, c0 + mc, s0 + ms⟩,
      ⟨X.admits, X.cas, X.clock, X.frames, X.room, X.hears, X.method, X.code, (X.here.setHeapUsed s₂.heap s₂.slotsUsed).setVm hW'.alike, X.tail, State.WarmedH.trans X.warmed hW', X.limits, X.bytes, X.same.trans (hsame.setVm s.vm)⟩,
      ⟨g, mk, s₂, L, E, ce, rfl, rfl, hx, hce, hcv, hcl, rfl, hL, rfl, rfl⟩, ?_⟩
    show Steps p.tables e below _ (((({ U with heap := s₂.heap, slotsUsed := s₂.slotsUsed } : State).setVm s₂.vm).setTop g).pushFrame (.throwing q))
    rw [← hs₂]
    exact hsteps
end
variable {p : Program} {l : Launch} {e : Env} {R : Room} {s : State} {m : MethodId} {args : Array Value} {below : List Frame} {meth : Method} {c : Code} {T : State} {H : Heap} {locs : List Loc} {cells slots : Nat}
theorem vx_callVX (X : Stand p l e R s m args below meth c T locs cells slots) (hexec : p.tables.exec = Jvm.exec) {own C : String} {index : Nat} {y : MethodName} {bytes : ByteArray} {maxL : Nat} {ret : Option FieldType} {hh : List (Nat × Nat × Nat × Nat)}
    (hown : s.vm.findClass own = some m.cls) (hlink : (Cond.methodLink own index y).before args s = true) (hinst : (Cond.instanceMethod y).before args s = true) (hsel : (Cond.selects C y y).before args s = true)
    (hcode : (Cond.codeWith y bytes maxL ret hh).before args s = true) (hy : y.cls ≠ "java/lang/invoke/MethodHandle" ∧ y.cls ≠ "java/lang/invoke/VarHandle")
    {W9 : Nat} {Pre : Pt → Array Value → Prop} {Post : Pt → Array Value → Option Value → Pt → Prop} {PostX : Pt → Array Value → Addr → Pt → Prop} (hK : vx_Back l R p e below s args y 3 W9 Pre Post PostX)
    {b : Addr} {cellB : Cell} (hcell : T.heap[b]? = some cellB) (hobj : cellB.vm.isStatics = false) (hcls : s.vm.findClass C = some cellB.cls)
    {g : JFrame} (hg : g.method = m) (hsize : g.locals.size = c.maxLocals) {argsL rest : List Value} (hlen : ∀ sig, parseMethodDescriptor y.desc = some sig → argsL.length = sig.parameters.length)
    (hstack : g.stack = argsL.reverse ++ .ref b :: rest) (hW : 2 * g.monitorRoom + (rest.map fun v => v.category).sum ≤ W9) (hdg : decode c.code g.pc = .ok (.invokevirtual index, 3))
    (hpre : ∀ vm₁, s.WarmedH vm₁ → Pre ⟨T.setVm vm₁, locs, cells, slots⟩ (Value.ref b :: argsL).toArray) :
    (∃ (v : Option Value) (vm₁ : Vm) (B : Pt), s.WarmedH vm₁ ∧ Stand p l e R s m args below meth c B.U B.locs B.cells B.slots ∧ Post ⟨T.setVm vm₁, locs, cells, slots⟩ (Value.ref b :: argsL).toArray v B ∧
      ∀ target, Steps p.tables e below (B.U.setTop { g with pc := g.pc + 3, stack := v.toList ++ rest }) target → Steps p.tables e below (T.setTop g) target) ∨
    (∃ (q : Addr) (vm₁ : Vm) (B : Pt), s.WarmedH vm₁ ∧ Stand p l e R s m args below meth c B.U B.locs B.cells B.slots ∧ PostX ⟨T.setVm vm₁, locs, cells, slots⟩ (Value.ref b :: argsL).toArray q B ∧
      Steps p.tables e below (T.setTop g) ((B.U.setTop { g with stack := rest }).pushFrame (.throwing q))) := by
  obtain ⟨mk, methM, hnamed, hmethM, hstM, habM⟩ := Cond.instanceMethod_spec hinst
  obtain ⟨m8, methM', cM, hn8, hmethM', -, -, -, -, -, -, hsigM⟩ := Cond.codeWith_spec hcode
  cases Option.some.inj (hn8.symm.trans hnamed)
  cases hmethM.symm.trans hmethM'
  obtain ⟨c2, r2, m2, q1, q2, q3, q4, kP, hkP, hkPi⟩ := Cond.selects_spec hsel
  cases hcls.symm.trans q1
  cases (State.methodFound?_of_named hnamed hy).symm.trans q2
  cases hnamed.symm.trans q3
  have hselP : selectMethod e.platform s.vm cellB.cls mk = .method mk := by rw [Launch.admits_selectMethod X.admits]; exact q4
  obtain ⟨vm₁, X₁, hstep₁⟩ := X.invokevirtual hexec hown hlink hnamed hmethM hstM hkP hkPi hy (a := b) (cell := cellB) hcell
    (fun z h => by rw [h] at hobj; cases hobj) hselP hmethM habM hkP hkPi (g := g) hg (argsL := argsL) (rest := rest) (hlen _ hsigM) hstack hdg
  rcases hK m meth c ⟨T.setVm vm₁, locs, cells, slots⟩ { g with stack := rest } (.invokevirtual index) mk (Value.ref b :: argsL).toArray X₁ hg hsize hdg hW (X₁.named hnamed) (hpre vm₁ X₁.warmed) with ⟨v, B, X', hpost, hsteps⟩ | ⟨q, B, X', hpost, hsteps⟩
  · exact Or.inl ⟨v, vm₁, B, X₁.warmed, X', hpost, fun target h => hstep₁ _ fun acts => by rw [doInvoke_state]; exact hsteps.trans h⟩
  · exact Or.inr ⟨q, vm₁, B, X₁.warmed, X', hpost, hstep₁ _ fun acts => by rw [doInvoke_state]; exact hsteps⟩
theorem vx_callSX (X : Stand p l e R s m args below meth c T locs cells slots) (hexec : p.tables.exec = Jvm.exec) {own : String} {index : Nat} {y : MethodName} {bytes : ByteArray} {maxL : Nat} {ret : Option FieldType} {hh : List (Nat × Nat × Nat × Nat)}
    (hown : s.vm.findClass own = some m.cls) (hlink : (Cond.methodLink own index y).before args s = true) (hstat : (Cond.static y).before args s = true) (hinit : (Cond.initialized y.cls).before args s = true)
    (hcode : (Cond.codeWith y bytes maxL ret hh).before args s = true) (hy : y.cls ≠ "java/lang/invoke/MethodHandle" ∧ y.cls ≠ "java/lang/invoke/VarHandle")
    {W9 : Nat} {Pre : Pt → Array Value → Prop} {Post : Pt → Array Value → Option Value → Pt → Prop} {PostX : Pt → Array Value → Addr → Pt → Prop} (hK : vx_Back l R p e below s args y 3 W9 Pre Post PostX)
    {g : JFrame} (hg : g.method = m) (hsize : g.locals.size = c.maxLocals) {argsL rest : List Value} (hlen : ∀ sig, parseMethodDescriptor y.desc = some sig → argsL.length = sig.parameters.length)
    (hstack : g.stack = argsL.reverse ++ rest) (hW : 2 * g.monitorRoom + (rest.map fun v => v.category).sum ≤ W9) (hdg : decode c.code g.pc = .ok (.invokestatic index, 3))
    (hpre : ∀ vm₁, s.WarmedH vm₁ → Pre ⟨T.setVm vm₁, locs, cells, slots⟩ argsL.toArray) :
    (∃ (v : Option Value) (vm₁ : Vm) (B : Pt), s.WarmedH vm₁ ∧ Stand p l e R s m args below meth c B.U B.locs B.cells B.slots ∧ Post ⟨T.setVm vm₁, locs, cells, slots⟩ argsL.toArray v B ∧
      ∀ target, Steps p.tables e below (B.U.setTop { g with pc := g.pc + 3, stack := v.toList ++ rest }) target → Steps p.tables e below (T.setTop g) target) ∨
    (∃ (q : Addr) (vm₁ : Vm) (B : Pt), s.WarmedH vm₁ ∧ Stand p l e R s m args below meth c B.U B.locs B.cells B.slots ∧ PostX ⟨T.setVm vm₁, locs, cells, slots⟩ argsL.toArray q B ∧
      Steps p.tables e below (T.setTop g) ((B.U.setTop { g with stack := rest }).pushFrame (.throwing q))) := by
  obtain ⟨mk, methM, cM, hnamed, hmethM, -, -, -, -, -, -, hsigM⟩ := Cond.codeWith_spec hcode
  have hstatic : methM.isStatic = true := Cond.static_spec hnamed hmethM hstat
  obtain ⟨kP, hkP, -⟩ := className_of_methodNamed hnamed
  have hinitP : kP.init = .initialized := Cond.initialized_spec (findClass_of_methodNamed hnamed) hkP hinit
  obtain ⟨vm₁, X₁, hstep₁⟩ := X.invokestatic hexec hown hlink hnamed hmethM hstatic hkP hinitP hy (g := g) hg (argsL := argsL) (rest := rest) (hlen _ hsigM) hstack hdg
  rcases hK m meth c ⟨T.setVm vm₁, locs, cells, slots⟩ { g with stack := rest } (.invokestatic index) mk argsL.toArray X₁ hg hsize hdg hW (X₁.named hnamed) (hpre vm₁ X₁.warmed) with ⟨v, B, X', hpost, hsteps⟩ | ⟨q, B, X', hpost, hsteps⟩
  · exact Or.inl ⟨v, vm₁, B, X₁.warmed, X', hpost, fun target h => hstep₁ _ fun acts => by rw [doInvoke_state]; exact hsteps.trans h⟩
  · exact Or.inr ⟨q, vm₁, B, X₁.warmed, X', hpost, hstep₁ _ fun acts => by rw [doInvoke_state]; exact hsteps⟩
theorem vx_callVW (X : Stand p l e R s m args below meth c T locs cells slots) (hexec : p.tables.exec = Jvm.exec) {own C : String} {index : Nat} {y : MethodName} {bytes : ByteArray} {maxL : Nat} {ret : Option FieldType} {hh : List (Nat × Nat × Nat × Nat)}
    (hown : s.vm.findClass own = some m.cls) (hlink : (Cond.methodLink own index y).before args s = true) (hinst : (Cond.instanceMethod y).before args s = true) (hsel : (Cond.selects C y y).before args s = true)
    (hcode : (Cond.codeWith y bytes maxL ret hh).before args s = true) (hy : y.cls ≠ "java/lang/invoke/MethodHandle" ∧ y.cls ≠ "java/lang/invoke/VarHandle")
    {W9 : Nat} {Pre : Pt → Array Value → Prop} {Post : Pt → Array Value → Option Value → Pt → Prop} (hK : Back l R p e below s args y 3 W9 Pre Post)
    {b : Addr} {cellB : Cell} (hcell : T.heap[b]? = some cellB) (hobj : cellB.vm.isStatics = false) (hcls : s.vm.findClass C = some cellB.cls)
    {g : JFrame} (hg : g.method = m) (hsize : g.locals.size = c.maxLocals) {argsL rest : List Value} (hlen : ∀ sig, parseMethodDescriptor y.desc = some sig → argsL.length = sig.parameters.length)
    (hstack : g.stack = argsL.reverse ++ .ref b :: rest) (hW : 2 * g.monitorRoom + (rest.map fun v => v.category).sum ≤ W9) (hdg : decode c.code g.pc = .ok (.invokevirtual index, 3))
    (hpre : ∀ vm₁, s.WarmedH vm₁ → Pre ⟨T.setVm vm₁, locs, cells, slots⟩ (Value.ref b :: argsL).toArray) :
    ∃ (v : Option Value) (vm₁ : Vm) (B : Pt), s.WarmedH vm₁ ∧ Stand p l e R s m args below meth c B.U B.locs B.cells B.slots ∧ Post ⟨T.setVm vm₁, locs, cells, slots⟩ (Value.ref b :: argsL).toArray v B ∧
      ∀ target, Steps p.tables e below (B.U.setTop { g with pc := g.pc + 3, stack := v.toList ++ rest }) target → Steps p.tables e below (T.setTop g) target := by
  obtain ⟨mk, methM, hnamed, hmethM, hstM, habM⟩ := Cond.instanceMethod_spec hinst
  obtain ⟨m8, methM', cM, hn8, hmethM', -, -, -, -, -, -, hsigM⟩ := Cond.codeWith_spec hcode
  cases Option.some.inj (hn8.symm.trans hnamed)
  cases hmethM.symm.trans hmethM'
  obtain ⟨c2, r2, m2, q1, q2, q3, q4, kP, hkP, hkPi⟩ := Cond.selects_spec hsel
  cases hcls.symm.trans q1
  cases (State.methodFound?_of_named hnamed hy).symm.trans q2
  cases hnamed.symm.trans q3
  have hselP : selectMethod e.platform s.vm cellB.cls mk = .method mk := by rw [Launch.admits_selectMethod X.admits]; exact q4
  obtain ⟨vm₁, X₁, hstep₁⟩ := X.invokevirtual hexec hown hlink hnamed hmethM hstM hkP hkPi hy (a := b) (cell := cellB) hcell
    (fun z h => by rw [h] at hobj; cases hobj) hselP hmethM habM hkP hkPi (g := g) hg (argsL := argsL) (rest := rest) (hlen _ hsigM) hstack hdg
  obtain ⟨v, B, X', hpost, hsteps⟩ := hK m meth c ⟨T.setVm vm₁, locs, cells, slots⟩ { g with stack := rest } (.invokevirtual index) mk (Value.ref b :: argsL).toArray X₁ hg hsize hdg hW (X₁.named hnamed) (hpre vm₁ X₁.warmed)
  exact ⟨v, vm₁, B, X₁.warmed, X', hpost, fun target h => hstep₁ _ fun acts => by rw [doInvoke_state]; exact hsteps.trans h⟩
abbrev vx_CVW (R : Room) (s : State) (args : Array Value) (own C : String) (index : Nat) (y : MethodName) (bytes : ByteArray) (maxL : Nat) (ret : Option FieldType) (hh : List (Nat × Nat × Nat × Nat)) (ws : List Cond) (rm : Room) (mc ms n : Nat) : Prop :=
  (rm.cells = mc ∧ rm.slots = ms ∧ rm.frames + 1 ≤ R.frames ∧ 8 + (maxL + 11) + rm.locals ≤ R.locals ∧ (∀ w ∈ ws, ∀ (a' : Array Value) (U : State), s.WarmedH U.vm → w.before a' U = true) ∧ Cond.codeWith y bytes maxL ret hh ∈ ws) ∧
  (Cond.codeWith y bytes maxL ret hh).before args s = true ∧ (Cond.initialized y.cls).before args s = true ∧ (y.cls ≠ "java/lang/invoke/MethodHandle" ∧ y.cls ≠ "java/lang/invoke/VarHandle") ∧
  (∀ sig, parseMethodDescriptor y.desc = some sig → n = sig.parameters.length) ∧ (Cond.methodLink own index y).before args s = true ∧ (Cond.instanceMethod y).before args s = true ∧ (Cond.selects C y y).before args s = true
theorem vx_cwVW {own C : String} {index maxL mc ms : Nat} {y : MethodName} {bytes : ByteArray} {ret : Option FieldType} {hh : List (Nat × Nat × Nat × Nat)} {Ts ws ws' : List Cond} {rm : Room} (n : Nat) (ht : ∀ w ∈ Ts, w.before args s = true) (hT : GoodIn Ts (wsV own index C y ws)) (hw : ws = Cond.codeWith y bytes maxL ret hh :: ws') (hrc : rm.cells = mc) (hrs : rm.slots = ms)
    (hd : y.cls = C ∧ y.cls ≠ "java/lang/invoke/MethodHandle" ∧ y.cls ≠ "java/lang/invoke/VarHandle" ∧ (parseMethodDescriptor y.desc).map (fun d => d.parameters.length) = some n) (hR : rm.frames + 1 ≤ R.frames ∧ 8 + (maxL + 11) + rm.locals ≤ R.locals) :
    vx_CVW R s args own C index y bytes maxL ret hh ws rm mc ms n := by
  obtain ⟨hC, hd⟩ := hd
  subst hC
  have ok : ∀ w ∈ wsV own index y.cls y ws, w.before args s = true := fun w h => ht w (hT w h).1
  have hG : GoodIn Ts ws := fun w h => hT w (by unfold wsV; exact List.mem_append_right _ h)
  have hc : Cond.codeWith y bytes maxL ret hh ∈ ws := by rw [hw]; exact List.mem_cons_self
  refine ⟨⟨hrc, hrs, hR.1, hR.2, pay_in ht hG, hc⟩, ht _ (hG _ hc).1, ok _ (by simp [wsV]), ⟨hd.1, hd.2.1⟩, fun sig h => ?_, ok _ (by simp [wsV]), ok _ (by simp [wsV]), ok _ (by simp [wsV])⟩
  have h2 := hd.2.2
  rw [h] at h2
  exact (Option.some.inj h2).symm
theorem vx_runVW {y : MethodName} {bytes cc : ByteArray} {maxL nL mc ms n index : Nat} {ret : Option FieldType} {hh : List (Nat × Nat × Nat × Nat)} {ws : List Cond} {rm : Room} {Pc : Array Value → State → Prop} {Qc : Array Value → State → Outcome → State → Prop} {free : Addr → Prop} {Ts : List Cond} {own C : String} {b : Addr} {As rest : List Value} {g : JFrame}
    (S : CallFix p m c cc nL s args Ts own) (hM : Met l y ws rm Pc Qc mc ms free) (cw : vx_CVW R s args own C index y bytes maxL ret hh ws rm mc ms n) (hp : PreV s H C b Pc As)
    (hg : g.method = m) (hn : As.length = n) (hsize : g.locals.size = nL) (hstack : g.stack = As.reverse ++ .ref b :: rest) (hW : 2 * g.monitorRoom + (rest.map fun v => v.category).sum ≤ 8) (hdg : decode cc g.pc = .ok (.invokevirtual index, 3)) (hf : cells + mc ≤ R.cells ∧ slots + ms ≤ R.slots) :
    va_Run p l e R s m args below meth c H locs cells slots mc ms g rest (Qc (Value.ref b :: As).toArray) free := by
  obtain ⟨⟨hrc, hrs, hfr, hlo, hws, hcw⟩, hcode, hini, hy, hlen, hl, hin, hse⟩ := cw
  have hK : Back l R p e below s args y 3 8 (PreOf R mc ms Pc) (PostOf Qc mc ms free) := va_backW (hh := hh) (bytes := bytes) (maxL := maxL) (ret := ret) hM hp.1 hrc hrs hfr hlo hws hcw (fun a' U hW => word_at hW (Or.inl (by first | rfl | simp [Cond.onTables, Cond.keeps, Cond.steady])) hini)
  obtain ⟨hx, hb, hml, ho, -⟩ := S
  obtain ⟨-, ⟨cellB, hcB, hoB, hclB⟩, hPc⟩ := hp
  intro T hT X
  obtain ⟨v, vm₁, ⟨U', l2, c2, s2⟩, hW₁, X', ⟨g', mk, t, L, e1, e2, hq, h1, hL, h2, h3⟩, st⟩ := vx_callVW X hx (C := C) (hh := hh) (bytes := bytes) (maxL := maxL) (ret := ret) ho hl hin hse hcode hy hK (by rw [hT]; exact hcB) hoB hclB hg (hsize.trans hml.symm) (argsL := As) (rest := rest) (fun sig h => hn.trans (hlen sig h)) hstack hW (by rw [hb]; exact hdg)
    (fun vm₁ hW₁ => ⟨hf.1, hf.2, hPc (T.setVm vm₁) hT hW₁⟩)
  dsimp only [Pt.U, Pt.locs, Pt.cells, Pt.slots] at X' e1 e2 h1 h2 h3 st
  subst h1; subst h2; subst h3
  exact ⟨v, (T.setVm vm₁).calling g' mk (Value.ref b :: As).toArray, t, U', L, hT, X', hL, e1, e2, hq, st⟩
section
variable {y : MethodName} {bytes cc : ByteArray} {maxL nL mc ms n index : Nat} {ret : Option FieldType} {ws : List Cond} {rm : Room} {Pc : Array Value → State → Prop} {Qc : Array Value → State → Outcome → State → Prop} {XC : String → State → State → Prop} {free : Addr → Prop} {Ts : List Cond} {own C : String} {b : Addr} {As rest : List Value} {g : JFrame}
theorem vx_runVX {hh : List (Nat × Nat × Nat × Nat)} (S : CallFix p m c cc nL s args Ts own) (hM : vx_Met l y ws rm Pc Qc XC mc ms free) (cw : vx_CVW R s args own C index y bytes maxL ret hh ws rm mc ms n) (hp : PreV s H C b Pc As)
    (hg : g.method = m) (hn : As.length = n) (hsize : g.locals.size = nL) (hstack : g.stack = As.reverse ++ .ref b :: rest) (hW : 2 * g.monitorRoom + (rest.map fun v => v.category).sum ≤ 8) (hdg : decode cc g.pc = .ok (.invokevirtual index, 3)) (hf : cells + mc ≤ R.cells ∧ slots + ms ≤ R.slots) :
    vx_Run p l e R s m args below meth c H locs cells slots mc ms g rest (Qc (Value.ref b :: As).toArray) XC free := by
  obtain ⟨⟨hrc, hrs, hfr, hlo, hws, hcw⟩, hcode, hini, hy, hlen, hl, hin, hse⟩ := cw
  have hK : vx_Back l R p e below s args y 3 8 (PreOf R mc ms Pc) (PostOf Qc mc ms free) (vx_Post XC mc ms free) := vx_backW (hh := hh) (bytes := bytes) (maxL := maxL) (ret := ret) hM hp.1 hrc hrs hfr hlo hws hcw (fun a' U hW => word_at hW (Or.inl (by first | rfl | simp [Cond.onTables, Cond.keeps, Cond.steady])) hini)
  obtain ⟨hx, hb, hml, ho, -⟩ := S
  obtain ⟨-, ⟨cellB, hcB, hoB, hclB⟩, hPc⟩ := hp
  intro T hT X
  rcases vx_callVX X hx (C := C) (hh := hh) (bytes := bytes) (maxL := maxL) (ret := ret) ho hl hin hse hcode hy hK (by rw [hT]; exact hcB) hoB hclB hg (hsize.trans hml.symm) (argsL := As) (rest := rest) (fun sig h => hn.trans (hlen sig h)) hstack hW (by rw [hb]; exact hdg)
    (fun vm₁ hW₁ => ⟨hf.1, hf.2, hPc (T.setVm vm₁) hT hW₁⟩) with ⟨v, vm₁, ⟨U', l2, c2, s2⟩, hW₁, X', ⟨g', mk, t, L, e1, e2, hq, h1, hL, h2, h3⟩, st⟩ | ⟨q, vm₁, ⟨U', l2, c2, s2⟩, hW₁, X', ⟨g', mk, t, L, E, ce, e1, e2, hq, hce, hcv, hcl, h1, hL, h2, h3⟩, st⟩
  · dsimp only [Pt.U, Pt.locs, Pt.cells, Pt.slots] at X' e1 e2 h1 h2 h3 st
    subst h1; subst h2; subst h3
    exact Or.inl ⟨v, (T.setVm vm₁).calling g' mk (Value.ref b :: As).toArray, t, U', L, hT, X', hL, e1, e2, hq, st⟩
  · dsimp only [Pt.U, Pt.locs, Pt.cells, Pt.slots] at X' e1 e2 h1 h2 h3 st hcl
    subst h1; subst h2; subst h3
    exact Or.inr ⟨q, (T.setVm vm₁).calling g' mk (Value.ref b :: As).toArray, t, U', L, E, ce, hT, X', hL, e1, e2, hq, hce, hcv, vx_cls hW₁ hcl, st⟩
theorem vx_runSX {hh : List (Nat × Nat × Nat × Nat)} (S : CallFix p m c cc nL s args Ts own) (hM : vx_Met l y ws rm Pc Qc XC mc ms free) (cw : vx_CSW R s args own index y bytes maxL ret hh ws rm mc ms n) (hp : PreS s H Pc As)
    (hg : g.method = m) (hn : As.length = n) (hsize : g.locals.size = nL) (hstack : g.stack = As.reverse ++ rest) (hW : 2 * g.monitorRoom + (rest.map fun v => v.category).sum ≤ 8) (hdg : decode cc g.pc = .ok (.invokestatic index, 3)) (hf : cells + mc ≤ R.cells ∧ slots + ms ≤ R.slots) :
    vx_Run p l e R s m args below meth c H locs cells slots mc ms g rest (Qc As.toArray) XC free := by
  obtain ⟨⟨hrc, hrs, hfr, hlo, hws, hcw⟩, hcode, hini, hy, hlen, hl, hstt⟩ := cw
  have hK : vx_Back l R p e below s args y 3 8 (PreOf R mc ms Pc) (PostOf Qc mc ms free) (vx_Post XC mc ms free) := vx_backW (hh := hh) (bytes := bytes) (maxL := maxL) (ret := ret) hM hp.1 hrc hrs hfr hlo hws hcw (fun a' U hW => word_at hW (Or.inl (by first | rfl | simp [Cond.onTables, Cond.keeps, Cond.steady])) hini)
  obtain ⟨hx, hb, hml, ho, -⟩ := S
  intro T hT X
  rcases vx_callSX X hx (hh := hh) (bytes := bytes) (maxL := maxL) (ret := ret) ho hl hstt hini hcode hy hK hg (hsize.trans hml.symm) (argsL := As) (rest := rest) (fun sig h => hn.trans (hlen sig h)) hstack hW (by rw [hb]; exact hdg)
    (fun vm₁ hW₁ => ⟨hf.1, hf.2, hp.2 (T.setVm vm₁) hT hW₁⟩) with ⟨v, vm₁, ⟨U', l2, c2, s2⟩, hW₁, X', ⟨g', mk, t, L, e1, e2, hq, h1, hL, h2, h3⟩, st⟩ | ⟨q, vm₁, ⟨U', l2, c2, s2⟩, hW₁, X', ⟨g', mk, t, L, E, ce, e1, e2, hq, hce, hcv, hcl, h1, hL, h2, h3⟩, st⟩
  · dsimp only [Pt.U, Pt.locs, Pt.cells, Pt.slots] at X' e1 e2 h1 h2 h3 st
    subst h1; subst h2; subst h3
    exact Or.inl ⟨v, (T.setVm vm₁).calling g' mk As.toArray, t, U', L, hT, X', hL, e1, e2, hq, st⟩
  · dsimp only [Pt.U, Pt.locs, Pt.cells, Pt.slots] at X' e1 e2 h1 h2 h3 st hcl
    subst h1; subst h2; subst h3
    exact Or.inr ⟨q, (T.setVm vm₁).calling g' mk As.toArray, t, U', L, E, ce, hT, X', hL, e1, e2, hq, hce, hcv, vx_cls hW₁ hcl, st⟩
end
end VXH
theorem vx_ofWH {l : Launch} {y : MethodName} {ws ws' : List Cond} {rm : Room} {Pc : Array Value → State → Prop} {Qc : Array Value → State → Outcome → State → Prop} {XC : String → State → State → Prop} {mc ms : Nat} {free : Addr → Prop} {cc : ByteArray} {maxL : Nat} {ret : Option FieldType} {hh : List (Nat × Nat × Nat × Nat)}
    (hy : plainName y.cls = true) (hw : ws = Cond.codeWith y cc maxL ret hh :: ws')
    (body : ∀ p e s m args below meth c s₁, BodyLoose p l y (headSpec ws rm) cc maxL ret e s m args below meth c s₁ → c.maxLocals = maxL → Pc args s →
      W p l e (headSpec ws rm).room s m args below meth c s.heap [] 0 0 (vx_MQ below Qc XC args s mc ms free) (entryFrame m args maxL)) : vx_Met l y ws rm Pc Qc XC mc ms free := by
  refine MetFree.of_bodyS (code := cc) (maxLocals := maxL) (ret := ret) hy ?_ ?_
  · intro args s m h hn
    obtain ⟨m9, meth, c, hn9, h1, h2, h3, h4, -, h5, h6, -⟩ := Cond.codeWith_spec (atoms_spec (ws := ws) h _ (by rw [hw]; exact List.mem_cons_self))
    cases hn.symm.trans hn9
    exact ⟨meth, c, h1, h2, h3, h4, h5, h6⟩
  · intro p e s m args below meth c s₁ B hml hP _
    have hh0 : s₁.heap = s.heap := by rw [B.state]; rfl
    obtain ⟨t, a1, o, b1, b2, b3⟩ := body p e s m args below meth c s₁ B hml hP s₁ hh0 (Stand.of_body B)
    exact ⟨t, o, a1, b1, b2, b3⟩
/-! ===== END ===== -/
end
section
/-! ===== BEGIN printed: names, fields, word lists, decode rows ===== -/
def RX0 : String := "TriggerAnalyzer$Ends"
def TX0 : u_T := fun k => match k with
  | 0 => ("TriggerAnalyzer$Ends", "facts", "[I", true)
  | 1 => ("TriggerAnalyzer$Ends", "count", "I", false)
  | _ => ("TriggerAnalyzer$Ends", "nearest", "I", false)
def tyX0 : Nat → FieldType := fun k => match k with
  | 0 => .array .int
  | 1 => .int
  | _ => .int
abbrev wsX00 : List Cond := u_ws RX0 TX0 3
theorem nmX0 : ∀ a, a < 3 → ∀ b, b < 3 → a ≠ b → (TX0 a).2.1 ≠ (TX0 b).2.1 := by decide +kernel
theorem tyX0_ok : ∀ k, k < 3 → parseFieldDescriptor (TX0 k).2.2.1 = some (tyX0 k) := by decide +kernel
abbrev cX0_init : ByteArray := prog_2_method_1_code
def yX0_init : MethodName := ⟨RX0, "<init>", "()V"⟩
abbrev cX0_clear : ByteArray := prog_2_method_2_code
def yX0_clear : MethodName := ⟨RX0, "clear", "()V"⟩
abbrev cX0_size : ByteArray := prog_2_method_3_code
def yX0_size : MethodName := ⟨RX0, "size", "()I"⟩
abbrev cX0_firstDepth : ByteArray := prog_2_method_4_code
def yX0_firstDepth : MethodName := ⟨RX0, "firstDepth", "()I"⟩
abbrev cX0_factsAt : ByteArray := prog_2_method_5_code
def yX0_factsAt : MethodName := ⟨RX0, "factsAt", "(I)I"⟩
abbrev cX0_append : ByteArray := prog_2_method_6_code
def yX0_append : MethodName := ⟨RX0, "append", "(II)V"⟩
def RX1 : String := "TriggerAnalyzer$Exploration"
def TX1 : u_T := fun k => match k with
  | 0 => ("TriggerAnalyzer$Exploration", "book", "LTriggerAnalyzer$RuleBook;", true)
  | 1 => ("TriggerAnalyzer$Exploration", "situations", "[I", true)
  | 2 => ("TriggerAnalyzer$Exploration", "depths", "[I", true)
  | 3 => ("TriggerAnalyzer$Exploration", "nexts", "[I", true)
  | 4 => ("TriggerAnalyzer$Exploration", "places", "[I", true)
  | 5 => ("TriggerAnalyzer$Exploration", "ends", "LTriggerAnalyzer$Ends;", true)
  | 6 => ("TriggerAnalyzer$Exploration", "prospect", "LTriggerAnalyzer$Prospect;", true)
  | 7 => ("TriggerAnalyzer$Exploration", "count", "I", false)
  | 8 => ("TriggerAnalyzer$Exploration", "done", "Z", false)
  | 9 => ("TriggerAnalyzer$Exploration", "tooMany", "Z", false)
  | 10 => ("TriggerAnalyzer$Exploration", "readyEver", "I", false)
  | _ => ("TriggerAnalyzer$Exploration", "choices", "I", false)
def tyX1 : Nat → FieldType := fun k => match k with
  | 0 => .object "TriggerAnalyzer$RuleBook"
  | 1 => .array .int
  | 2 => .array .int
  | 3 => .array .int
  | 4 => .array .int
  | 5 => .object "TriggerAnalyzer$Ends"
  | 6 => .object "TriggerAnalyzer$Prospect"
  | 7 => .int
  | 8 => .boolean
  | 9 => .boolean
  | 10 => .int
  | _ => .int
abbrev wsX10 : List Cond := u_ws RX1 TX1 12
theorem nmX1 : ∀ a, a < 12 → ∀ b, b < 12 → a ≠ b → (TX1 a).2.1 ≠ (TX1 b).2.1 := by decide +kernel
theorem tyX1_ok : ∀ k, k < 12 → parseFieldDescriptor (TX1 k).2.2.1 = some (tyX1 k) := by decide +kernel
abbrev cX1_init : ByteArray := prog_3_method_1_code
def yX1_init : MethodName := ⟨RX1, "<init>", "(LTriggerAnalyzer$RuleBook;)V"⟩
abbrev cX1_isDone : ByteArray := prog_3_method_2_code
def yX1_isDone : MethodName := ⟨RX1, "isDone", "()Z"⟩
abbrev cX1_isUsable : ByteArray := prog_3_method_3_code
def yX1_isUsable : MethodName := ⟨RX1, "isUsable", "()Z"⟩
abbrev cX1_answer : ByteArray := prog_3_method_4_code
def yX1_answer : MethodName := ⟨RX1, "answer", "()I"⟩
abbrev cX1_size : ByteArray := prog_3_method_5_code
def yX1_size : MethodName := ⟨RX1, "size", "()I"⟩
abbrev cX1_everReady : ByteArray := prog_3_method_6_code
def yX1_everReady : MethodName := ⟨RX1, "everReady", "()I"⟩
abbrev cX1_choiceShare : ByteArray := prog_3_method_7_code
def yX1_choiceShare : MethodName := ⟨RX1, "choiceShare", "()D"⟩
abbrev cX1_forget : ByteArray := prog_3_method_8_code
def yX1_forget : MethodName := ⟨RX1, "forget", "()V"⟩
abbrev cX1_situationAt : ByteArray := prog_3_method_9_code
def yX1_situationAt : MethodName := ⟨RX1, "situationAt", "(I)I"⟩
abbrev cX1_nextOf : ByteArray := prog_3_method_10_code
def yX1_nextOf : MethodName := ⟨RX1, "nextOf", "(II)I"⟩
abbrev cX1_search : ByteArray := prog_3_method_11_code
def yX1_search : MethodName := ⟨RX1, "search", "(I)V"⟩
abbrev cX1_clear : ByteArray := prog_3_method_12_code
def yX1_clear : MethodName := ⟨RX1, "clear", "()V"⟩
abbrev cX1_mark : ByteArray := prog_3_method_13_code
def yX1_mark : MethodName := ⟨RX1, "mark", "(II)V"⟩
abbrev cX1_placeOf : ByteArray := prog_3_method_14_code
def yX1_placeOf : MethodName := ⟨RX1, "placeOf", "(II)I"⟩
abbrev cX1_expand : ByteArray := prog_3_method_15_code
def yX1_expand : MethodName := ⟨RX1, "expand", "(I)V"⟩
abbrev cX1_keepNext : ByteArray := prog_3_method_16_code
def yX1_keepNext : MethodName := ⟨RX1, "keepNext", "(II)V"⟩
def RX2 : String := "TriggerAnalyzer$Judge"
def TX2 : u_T := fun k => match k with
  | 0 => ("TriggerAnalyzer$Judge", "book", "LTriggerAnalyzer$RuleBook;", true)
  | _ => ("TriggerAnalyzer$Judge", "reach", "[I", true)
def tyX2 : Nat → FieldType := fun k => match k with
  | 0 => .object "TriggerAnalyzer$RuleBook"
  | _ => .array .int
abbrev wsX20 : List Cond := u_ws RX2 TX2 2
theorem nmX2 : ∀ a, a < 2 → ∀ b, b < 2 → a ≠ b → (TX2 a).2.1 ≠ (TX2 b).2.1 := by decide +kernel
theorem tyX2_ok : ∀ k, k < 2 → parseFieldDescriptor (TX2 k).2.2.1 = some (tyX2 k) := by decide +kernel
abbrev cX2_init : ByteArray := prog_4_method_1_code
def yX2_init : MethodName := ⟨RX2, "<init>", "(LTriggerAnalyzer$RuleBook;)V"⟩
abbrev cX2_inCircles : ByteArray := prog_4_method_2_code
def yX2_inCircles : MethodName := ⟨RX2, "inCircles", "()I"⟩
abbrev cX2_spreadReach : ByteArray := prog_4_method_3_code
def yX2_spreadReach : MethodName := ⟨RX2, "spreadReach", "()V"⟩
abbrev cX2_areIndependent : ByteArray := prog_4_method_4_code
def yX2_areIndependent : MethodName := ⟨RX2, "areIndependent", "(LTriggerAnalyzer$Rule;LTriggerAnalyzer$Rule;)Z"⟩
abbrev cX2_areInConflict : ByteArray := prog_4_method_5_code
def yX2_areInConflict : MethodName := ⟨RX2, "areInConflict", "(II)Z"⟩
abbrev cX2_countConflicts : ByteArray := prog_4_method_6_code
def yX2_countConflicts : MethodName := ⟨RX2, "countConflicts", "()I"⟩
abbrev cX2_conflictAt : ByteArray := prog_4_method_7_code
def yX2_conflictAt : MethodName := ⟨RX2, "conflictAt", "(I)I"⟩
def RX3 : String := "TriggerAnalyzer$Prospect"
def TX3 : u_T := fun k => match k with
  | 0 => ("TriggerAnalyzer$Prospect", "incoming", "[I", true)
  | 1 => ("TriggerAnalyzer$Prospect", "plays", "[I", true)
  | 2 => ("TriggerAnalyzer$Prospect", "rows", "[J", true)
  | 3 => ("TriggerAnalyzer$Prospect", "queue", "[I", true)
  | 4 => ("TriggerAnalyzer$Prospect", "queued", "I", false)
  | 5 => ("TriggerAnalyzer$Prospect", "finite", "Z", false)
  | 6 => ("TriggerAnalyzer$Prospect", "longestRow", "I", false)
  | _ => ("TriggerAnalyzer$Prospect", "endedRows", "J", false)
def tyX3 : Nat → FieldType := fun k => match k with
  | 0 => .array .int
  | 1 => .array .int
  | 2 => .array .long
  | 3 => .array .int
  | 4 => .int
  | 5 => .boolean
  | 6 => .int
  | _ => .long
abbrev wsX30 : List Cond := u_ws RX3 TX3 8
theorem nmX3 : ∀ a, a < 8 → ∀ b, b < 8 → a ≠ b → (TX3 a).2.1 ≠ (TX3 b).2.1 := by decide +kernel
theorem tyX3_ok : ∀ k, k < 8 → parseFieldDescriptor (TX3 k).2.2.1 = some (tyX3 k) := by decide +kernel
abbrev cX3_init : ByteArray := prog_5_method_1_code
def yX3_init : MethodName := ⟨RX3, "<init>", "()V"⟩
abbrev cX3_isFinite : ByteArray := prog_5_method_2_code
def yX3_isFinite : MethodName := ⟨RX3, "isFinite", "()Z"⟩
abbrev cX3_mostPlays : ByteArray := prog_5_method_3_code
def yX3_mostPlays : MethodName := ⟨RX3, "mostPlays", "()I"⟩
abbrev cX3_wayCount : ByteArray := prog_5_method_4_code
def yX3_wayCount : MethodName := ⟨RX3, "wayCount", "()J"⟩
abbrev cX3_study : ByteArray := prog_5_method_5_code
def yX3_study : MethodName := ⟨RX3, "study", "(LTriggerAnalyzer$Exploration;)V"⟩
abbrev cX3_countIncoming : ByteArray := prog_5_method_6_code
def yX3_countIncoming : MethodName := ⟨RX3, "countIncoming", "(LTriggerAnalyzer$Exploration;)V"⟩
abbrev cX3_startAtFirst : ByteArray := prog_5_method_7_code
def yX3_startAtFirst : MethodName := ⟨RX3, "startAtFirst", "()V"⟩
abbrev cX3_enqueue : ByteArray := prog_5_method_8_code
def yX3_enqueue : MethodName := ⟨RX3, "enqueue", "(I)V"⟩
abbrev cX3_take : ByteArray := prog_5_method_9_code
def yX3_take : MethodName := ⟨RX3, "take", "(LTriggerAnalyzer$Exploration;I)V"⟩
abbrev cX3_lead : ByteArray := prog_5_method_10_code
def yX3_lead : MethodName := ⟨RX3, "lead", "(IIJ)V"⟩
def RX4 : String := "TriggerAnalyzer$Rule"
def TX4 : u_T := fun k => match k with
  | 0 => ("TriggerAnalyzer$Rule", "bit", "I", true)
  | 1 => ("TriggerAnalyzer$Rule", "actions", "[I", true)
  | 2 => ("TriggerAnalyzer$Rule", "event", "I", false)
  | 3 => ("TriggerAnalyzer$Rule", "must", "I", false)
  | 4 => ("TriggerAnalyzer$Rule", "mustNot", "I", false)
  | 5 => ("TriggerAnalyzer$Rule", "on", "Z", false)
  | 6 => ("TriggerAnalyzer$Rule", "actionCount", "I", false)
  | 7 => ("TriggerAnalyzer$Rule", "setFacts", "I", false)
  | 8 => ("TriggerAnalyzer$Rule", "unsetFacts", "I", false)
  | 9 => ("TriggerAnalyzer$Rule", "below", "I", false)
  | _ => ("TriggerAnalyzer$Rule", "above", "I", false)
def tyX4 : Nat → FieldType := fun k => match k with
  | 0 => .int
  | 1 => .array .int
  | 2 => .int
  | 3 => .int
  | 4 => .int
  | 5 => .boolean
  | 6 => .int
  | 7 => .int
  | 8 => .int
  | 9 => .int
  | _ => .int
abbrev wsX40 : List Cond := u_ws RX4 TX4 11
theorem nmX4 : ∀ a, a < 11 → ∀ b, b < 11 → a ≠ b → (TX4 a).2.1 ≠ (TX4 b).2.1 := by decide +kernel
theorem tyX4_ok : ∀ k, k < 11 → parseFieldDescriptor (TX4 k).2.2.1 = some (tyX4 k) := by decide +kernel
abbrev cX4_init : ByteArray := prog_6_method_1_code
def yX4_init : MethodName := ⟨RX4, "<init>", "(I)V"⟩
abbrev cX4_isFull : ByteArray := prog_6_method_2_code
def yX4_isFull : MethodName := ⟨RX4, "isFull", "()Z"⟩
abbrev cX4_append : ByteArray := prog_6_method_3_code
def yX4_append : MethodName := ⟨RX4, "append", "(I)V"⟩
abbrev cX4_actionAt : ByteArray := prog_6_method_4_code
def yX4_actionAt : MethodName := ⟨RX4, "actionAt", "(I)I"⟩
abbrev cX4_isOver : ByteArray := prog_6_method_5_code
def yX4_isOver : MethodName := ⟨RX4, "isOver", "(LTriggerAnalyzer$Rule;)Z"⟩
abbrev cX4_isReadyIn : ByteArray := prog_6_method_6_code
def yX4_isReadyIn : MethodName := ⟨RX4, "isReadyIn", "(I)Z"⟩
abbrev cX4_holdsIn : ByteArray := prog_6_method_7_code
def yX4_holdsIn : MethodName := ⟨RX4, "holdsIn", "(I)Z"⟩
abbrev cX4_changedFacts : ByteArray := prog_6_method_8_code
def yX4_changedFacts : MethodName := ⟨RX4, "changedFacts", "()I"⟩
abbrev cX4_conditionFacts : ByteArray := prog_6_method_9_code
def yX4_conditionFacts : MethodName := ⟨RX4, "conditionFacts", "()I"⟩
abbrev cX4_addedTo : ByteArray := prog_6_method_10_code
def yX4_addedTo : MethodName := ⟨RX4, "addedTo", "(J)J"⟩
def RX5 : String := "TriggerAnalyzer$RuleBook"
def TX5 : u_T := fun k => match k with
  | 0 => ("TriggerAnalyzer$RuleBook", "rules", "[LTriggerAnalyzer$Rule;", true)
  | 1 => ("TriggerAnalyzer$RuleBook", "listeners", "[I", true)
  | _ => ("TriggerAnalyzer$RuleBook", "count", "I", false)
def tyX5 : Nat → FieldType := fun k => match k with
  | 0 => .array (.object "TriggerAnalyzer$Rule")
  | 1 => .array .int
  | _ => .int
abbrev wsX50 : List Cond := u_ws RX5 TX5 3
theorem nmX5 : ∀ a, a < 3 → ∀ b, b < 3 → a ≠ b → (TX5 a).2.1 ≠ (TX5 b).2.1 := by decide +kernel
theorem tyX5_ok : ∀ k, k < 3 → parseFieldDescriptor (TX5 k).2.2.1 = some (tyX5 k) := by decide +kernel
abbrev cX5_init : ByteArray := prog_7_method_1_code
def yX5_init : MethodName := ⟨RX5, "<init>", "()V"⟩
abbrev cX5_size : ByteArray := prog_7_method_2_code
def yX5_size : MethodName := ⟨RX5, "size", "()I"⟩
abbrev cX5_isFull : ByteArray := prog_7_method_3_code
def yX5_isFull : MethodName := ⟨RX5, "isFull", "()Z"⟩
abbrev cX5_ruleOrNull : ByteArray := prog_7_method_4_code
def yX5_ruleOrNull : MethodName := ⟨RX5, "ruleOrNull", "(I)LTriggerAnalyzer$Rule;"⟩
abbrev cX5_append : ByteArray := prog_7_method_5_code
def yX5_append : MethodName := ⟨RX5, "append", "(III)I"⟩
abbrev cX5_switchRule : ByteArray := prog_7_method_6_code
def yX5_switchRule : MethodName := ⟨RX5, "switchRule", "(LTriggerAnalyzer$Rule;Z)V"⟩
abbrev cX5_listenersTo : ByteArray := prog_7_method_7_code
def yX5_listenersTo : MethodName := ⟨RX5, "listenersTo", "(I)I"⟩
abbrev cX5_order : ByteArray := prog_7_method_8_code
def yX5_order : MethodName := ⟨RX5, "order", "(LTriggerAnalyzer$Rule;LTriggerAnalyzer$Rule;)V"⟩
abbrev cX5_changed : ByteArray := prog_7_method_9_code
def yX5_changed : MethodName := ⟨RX5, "changed", "(II)I"⟩
abbrev cX5_readyIn : ByteArray := prog_7_method_10_code
def yX5_readyIn : MethodName := ⟨RX5, "readyIn", "(I)I"⟩
abbrev cX5_firstReadyIn : ByteArray := prog_7_method_11_code
def yX5_firstReadyIn : MethodName := ⟨RX5, "firstReadyIn", "(I)LTriggerAnalyzer$Rule;"⟩
abbrev cX5_played : ByteArray := prog_7_method_12_code
def yX5_played : MethodName := ⟨RX5, "played", "(ILTriggerAnalyzer$Rule;)I"⟩
abbrev cX5_triggerableBy : ByteArray := prog_7_method_13_code
def yX5_triggerableBy : MethodName := ⟨RX5, "triggerableBy", "(LTriggerAnalyzer$Rule;)I"⟩
abbrev cX5_addedTo : ByteArray := prog_7_method_14_code
def yX5_addedTo : MethodName := ⟨RX5, "addedTo", "(J)J"⟩
def RX6 : String := "TriggerAnalyzer"
def TX6 : u_T := fun k => match k with
  | 0 => ("TriggerAnalyzer", "book", "LTriggerAnalyzer$RuleBook;", true)
  | 1 => ("TriggerAnalyzer", "judge", "LTriggerAnalyzer$Judge;", true)
  | 2 => ("TriggerAnalyzer", "exploration", "LTriggerAnalyzer$Exploration;", true)
  | _ => ("TriggerAnalyzer", "present", "I", false)
def tyX6 : Nat → FieldType := fun k => match k with
  | 0 => .object "TriggerAnalyzer$RuleBook"
  | 1 => .object "TriggerAnalyzer$Judge"
  | 2 => .object "TriggerAnalyzer$Exploration"
  | _ => .int
abbrev wsX60 : List Cond := u_ws RX6 TX6 4
theorem nmX6 : ∀ a, a < 4 → ∀ b, b < 4 → a ≠ b → (TX6 a).2.1 ≠ (TX6 b).2.1 := by decide +kernel
theorem tyX6_ok : ∀ k, k < 4 → parseFieldDescriptor (TX6 k).2.2.1 = some (tyX6 k) := by decide +kernel
abbrev cX6_init : ByteArray := prog_1_method_1_code
def yX6_init : MethodName := ⟨RX6, "<init>", "()V"⟩
abbrev cX6_addRule : ByteArray := prog_1_method_2_code
def yX6_addRule : MethodName := ⟨RX6, "addRule", "(IZII)I"⟩
abbrev cX6_addAction : ByteArray := prog_1_method_3_code
def yX6_addAction : MethodName := ⟨RX6, "addAction", "(IIZ)I"⟩
abbrev cX6_turn : ByteArray := prog_1_method_4_code
def yX6_turn : MethodName := ⟨RX6, "turn", "(IZ)Z"⟩
abbrev cX6_rank : ByteArray := prog_1_method_5_code
def yX6_rank : MethodName := ⟨RX6, "rank", "(II)Z"⟩
abbrev cX6_isAbove : ByteArray := prog_1_method_6_code
def yX6_isAbove : MethodName := ⟨RX6, "isAbove", "(II)Z"⟩
abbrev cX6_ruleCount : ByteArray := prog_1_method_7_code
def yX6_ruleCount : MethodName := ⟨RX6, "ruleCount", "()I"⟩
abbrev cX6_put : ByteArray := prog_1_method_8_code
def yX6_put : MethodName := ⟨RX6, "put", "(I)I"⟩
abbrev cX6_change : ByteArray := prog_1_method_9_code
def yX6_change : MethodName := ⟨RX6, "change", "(IZ)I"⟩
abbrev cX6_facts : ByteArray := prog_1_method_10_code
def yX6_facts : MethodName := ⟨RX6, "facts", "()I"⟩
abbrev cX6_triggered : ByteArray := prog_1_method_11_code
def yX6_triggered : MethodName := ⟨RX6, "triggered", "()I"⟩
abbrev cX6_ready : ByteArray := prog_1_method_12_code
def yX6_ready : MethodName := ⟨RX6, "ready", "()I"⟩
abbrev cX6_play : ByteArray := prog_1_method_13_code
def yX6_play : MethodName := ⟨RX6, "play", "(I)Z"⟩
abbrev cX6_run : ByteArray := prog_1_method_14_code
def yX6_run : MethodName := ⟨RX6, "run", "(I)I"⟩
abbrev cX6_explore : ByteArray := prog_1_method_15_code
def yX6_explore : MethodName := ⟨RX6, "explore", "()I"⟩
abbrev cX6_factsOf : ByteArray := prog_1_method_16_code
def yX6_factsOf : MethodName := ⟨RX6, "factsOf", "(I)I"⟩
abbrev cX6_triggeredOf : ByteArray := prog_1_method_17_code
def yX6_triggeredOf : MethodName := ⟨RX6, "triggeredOf", "(I)I"⟩
abbrev cX6_after : ByteArray := prog_1_method_18_code
def yX6_after : MethodName := ⟨RX6, "after", "(II)I"⟩
abbrev cX6_terminates : ByteArray := prog_1_method_19_code
def yX6_terminates : MethodName := ⟨RX6, "terminates", "()Z"⟩
abbrev cX6_endCount : ByteArray := prog_1_method_20_code
def yX6_endCount : MethodName := ⟨RX6, "endCount", "()I"⟩
abbrev cX6_end : ByteArray := prog_1_method_21_code
def yX6_end : MethodName := ⟨RX6, "end", "(I)I"⟩
abbrev cX6_shortest : ByteArray := prog_1_method_22_code
def yX6_shortest : MethodName := ⟨RX6, "shortest", "()I"⟩
abbrev cX6_longest : ByteArray := prog_1_method_23_code
def yX6_longest : MethodName := ⟨RX6, "longest", "()I"⟩
abbrev cX6_ways : ByteArray := prog_1_method_24_code
def yX6_ways : MethodName := ⟨RX6, "ways", "()J"⟩
abbrev cX6_isPlayed : ByteArray := prog_1_method_25_code
def yX6_isPlayed : MethodName := ⟨RX6, "isPlayed", "(I)Z"⟩
abbrev cX6_choice : ByteArray := prog_1_method_26_code
def yX6_choice : MethodName := ⟨RX6, "choice", "()D"⟩
abbrev cX6_canTrigger : ByteArray := prog_1_method_27_code
def yX6_canTrigger : MethodName := ⟨RX6, "canTrigger", "(I)I"⟩
abbrev cX6_circular : ByteArray := prog_1_method_28_code
def yX6_circular : MethodName := ⟨RX6, "circular", "()I"⟩
abbrev cX6_commute : ByteArray := prog_1_method_29_code
def yX6_commute : MethodName := ⟨RX6, "commute", "(II)Z"⟩
abbrev cX6_conflictCount : ByteArray := prog_1_method_30_code
def yX6_conflictCount : MethodName := ⟨RX6, "conflictCount", "()I"⟩
abbrev cX6_conflict : ByteArray := prog_1_method_31_code
def yX6_conflict : MethodName := ⟨RX6, "conflict", "(I)I"⟩
abbrev cX6_digest : ByteArray := prog_1_method_32_code
def yX6_digest : MethodName := ⟨RX6, "digest", "()J"⟩
abbrev cX6_ruleAt : ByteArray := prog_1_method_33_code
def yX6_ruleAt : MethodName := ⟨RX6, "ruleAt", "(I)LTriggerAnalyzer$Rule;"⟩
abbrev cX6_exploredAt : ByteArray := prog_1_method_34_code
def yX6_exploredAt : MethodName := ⟨RX6, "exploredAt", "(I)I"⟩
abbrev cX6_needExplored : ByteArray := prog_1_method_35_code
def yX6_needExplored : MethodName := ⟨RX6, "needExplored", "()V"⟩
abbrev cX6_needFact : ByteArray := prog_1_method_36_code
def yX6_needFact : MethodName := ⟨RX6, "needFact", "(I)V"⟩
abbrev cX6_needFactSet : ByteArray := prog_1_method_37_code
def yX6_needFactSet : MethodName := ⟨RX6, "needFactSet", "(I)V"⟩
abbrev cX6_changeCode : ByteArray := prog_1_method_38_code
def yX6_changeCode : MethodName := ⟨RX6, "changeCode", "(IZ)I"⟩
abbrev cX6_situationOf : ByteArray := prog_1_method_39_code
def yX6_situationOf : MethodName := ⟨RX6, "situationOf", "(II)I"⟩
abbrev cX6_factsIn : ByteArray := prog_1_method_40_code
def yX6_factsIn : MethodName := ⟨RX6, "factsIn", "(I)I"⟩
abbrev cX6_triggeredIn : ByteArray := prog_1_method_41_code
def yX6_triggeredIn : MethodName := ⟨RX6, "triggeredIn", "(I)I"⟩
def RX7 : String := "TriggerAnalyzerModel"
def TX7 : u_T := fun k => match k with
  | 0 => ("TriggerAnalyzerModel", "thrown", "I", false)
  | 1 => ("TriggerAnalyzerModel", "rules", "I", false)
  | 2 => ("TriggerAnalyzerModel", "events", "[I", true)
  | 3 => ("TriggerAnalyzerModel", "musts", "[I", true)
  | 4 => ("TriggerAnalyzerModel", "mustNots", "[I", true)
  | 5 => ("TriggerAnalyzerModel", "many", "[I", true)
  | 6 => ("TriggerAnalyzerModel", "actions", "[I", true)
  | 7 => ("TriggerAnalyzerModel", "areOn", "[Z", true)
  | 8 => ("TriggerAnalyzerModel", "below", "[I", true)
  | 9 => ("TriggerAnalyzerModel", "facts", "I", false)
  | 10 => ("TriggerAnalyzerModel", "triggered", "I", false)
  | 11 => ("TriggerAnalyzerModel", "isExplored", "Z", false)
  | 12 => ("TriggerAnalyzerModel", "isTooMuch", "Z", false)
  | 13 => ("TriggerAnalyzerModel", "situations", "I", false)
  | 14 => ("TriggerAnalyzerModel", "all", "[I", true)
  | 15 => ("TriggerAnalyzerModel", "next", "[I", true)
  | 16 => ("TriggerAnalyzerModel", "longests", "[I", true)
  | _ => ("TriggerAnalyzerModel", "counts", "[J", true)
def tyX7 : Nat → FieldType := fun k => match k with
  | 0 => .int
  | 1 => .int
  | 2 => .array .int
  | 3 => .array .int
  | 4 => .array .int
  | 5 => .array .int
  | 6 => .array .int
  | 7 => .array .boolean
  | 8 => .array .int
  | 9 => .int
  | 10 => .int
  | 11 => .boolean
  | 12 => .boolean
  | 13 => .int
  | 14 => .array .int
  | 15 => .array .int
  | 16 => .array .int
  | _ => .array .long
abbrev wsX70 : List Cond := u_ws RX7 TX7 18
theorem nmX7 : ∀ a, a < 18 → ∀ b, b < 18 → a ≠ b → (TX7 a).2.1 ≠ (TX7 b).2.1 := by decide +kernel
theorem tyX7_ok : ∀ k, k < 18 → parseFieldDescriptor (TX7 k).2.2.1 = some (tyX7 k) := by decide +kernel
abbrev cX7_init : ByteArray := prog_9_method_1_code
def yX7_init : MethodName := ⟨RX7, "<init>", "()V"⟩
abbrev cX7_thrown : ByteArray := prog_9_method_2_code
def yX7_thrown : MethodName := ⟨RX7, "thrown", "()I"⟩
abbrev cX7_fail : ByteArray := prog_9_method_3_code
def yX7_fail : MethodName := ⟨RX7, "fail", "(I)I"⟩
abbrev cX7_isRule : ByteArray := prog_9_method_4_code
def yX7_isRule : MethodName := ⟨RX7, "isRule", "(I)Z"⟩
abbrev cX7_isFact : ByteArray := prog_9_method_5_code
def yX7_isFact : MethodName := ⟨RX7, "isFact", "(I)Z"⟩
abbrev cX7_isSet : ByteArray := prog_9_method_6_code
def yX7_isSet : MethodName := ⟨RX7, "isSet", "(I)Z"⟩
abbrev cX7_has : ByteArray := prog_9_method_7_code
def yX7_has : MethodName := ⟨RX7, "has", "(II)Z"⟩
abbrev cX7_literal : ByteArray := prog_9_method_8_code
def yX7_literal : MethodName := ⟨RX7, "literal", "(IZ)I"⟩
abbrev cX7_addRule : ByteArray := prog_9_method_9_code
def yX7_addRule : MethodName := ⟨RX7, "addRule", "(IZII)I"⟩
abbrev cX7_addAction : ByteArray := prog_9_method_10_code
def yX7_addAction : MethodName := ⟨RX7, "addAction", "(IIZ)I"⟩
abbrev cX7_turn : ByteArray := prog_9_method_11_code
def yX7_turn : MethodName := ⟨RX7, "turn", "(IZ)Z"⟩
abbrev cX7_rank : ByteArray := prog_9_method_12_code
def yX7_rank : MethodName := ⟨RX7, "rank", "(II)Z"⟩
abbrev cX7_isAbove : ByteArray := prog_9_method_13_code
def yX7_isAbove : MethodName := ⟨RX7, "isAbove", "(II)Z"⟩
abbrev cX7_ruleCount : ByteArray := prog_9_method_14_code
def yX7_ruleCount : MethodName := ⟨RX7, "ruleCount", "()I"⟩
abbrev cX7_behind : ByteArray := prog_9_method_15_code
def yX7_behind : MethodName := ⟨RX7, "behind", "(II)I"⟩
abbrev cX7_triggeredIn : ByteArray := prog_9_method_16_code
def yX7_triggeredIn : MethodName := ⟨RX7, "triggeredIn", "(I)I"⟩
abbrev cX7_readyIn : ByteArray := prog_9_method_17_code
def yX7_readyIn : MethodName := ⟨RX7, "readyIn", "(I)I"⟩
abbrev cX7_isTrue : ByteArray := prog_9_method_18_code
def yX7_isTrue : MethodName := ⟨RX7, "isTrue", "(II)Z"⟩
abbrev cX7_playIn : ByteArray := prog_9_method_19_code
def yX7_playIn : MethodName := ⟨RX7, "playIn", "(II)I"⟩
abbrev cX7_now : ByteArray := prog_9_method_20_code
def yX7_now : MethodName := ⟨RX7, "now", "()I"⟩
abbrev cX7_become : ByteArray := prog_9_method_21_code
def yX7_become : MethodName := ⟨RX7, "become", "(I)V"⟩
abbrev cX7_put : ByteArray := prog_9_method_22_code
def yX7_put : MethodName := ⟨RX7, "put", "(I)I"⟩
abbrev cX7_change : ByteArray := prog_9_method_23_code
def yX7_change : MethodName := ⟨RX7, "change", "(IZ)I"⟩
abbrev cX7_facts : ByteArray := prog_9_method_24_code
def yX7_facts : MethodName := ⟨RX7, "facts", "()I"⟩
abbrev cX7_triggered : ByteArray := prog_9_method_25_code
def yX7_triggered : MethodName := ⟨RX7, "triggered", "()I"⟩
abbrev cX7_ready : ByteArray := prog_9_method_26_code
def yX7_ready : MethodName := ⟨RX7, "ready", "()I"⟩
abbrev cX7_play : ByteArray := prog_9_method_27_code
def yX7_play : MethodName := ⟨RX7, "play", "(I)Z"⟩
abbrev cX7_run : ByteArray := prog_9_method_28_code
def yX7_run : MethodName := ⟨RX7, "run", "(I)I"⟩
abbrev cX7_numberOf : ByteArray := prog_9_method_29_code
def yX7_numberOf : MethodName := ⟨RX7, "numberOf", "(I)I"⟩
abbrev cX7_exploreAll : ByteArray := prog_9_method_30_code
def yX7_exploreAll : MethodName := ⟨RX7, "exploreAll", "()V"⟩
abbrev cX7_explore : ByteArray := prog_9_method_31_code
def yX7_explore : MethodName := ⟨RX7, "explore", "()I"⟩
abbrev cX7_isWhole : ByteArray := prog_9_method_32_code
def yX7_isWhole : MethodName := ⟨RX7, "isWhole", "()Z"⟩
abbrev cX7_asks : ByteArray := prog_9_method_33_code
def yX7_asks : MethodName := ⟨RX7, "asks", "(II)Z"⟩
abbrev cX7_factsOf : ByteArray := prog_9_method_34_code
def yX7_factsOf : MethodName := ⟨RX7, "factsOf", "(I)I"⟩
abbrev cX7_triggeredOf : ByteArray := prog_9_method_35_code
def yX7_triggeredOf : MethodName := ⟨RX7, "triggeredOf", "(I)I"⟩
abbrev cX7_after : ByteArray := prog_9_method_36_code
def yX7_after : MethodName := ⟨RX7, "after", "(II)I"⟩
abbrev cX7_isEnd : ByteArray := prog_9_method_37_code
def yX7_isEnd : MethodName := ⟨RX7, "isEnd", "(I)Z"⟩
abbrev cX7_settle : ByteArray := prog_9_method_38_code
def yX7_settle : MethodName := ⟨RX7, "settle", "()Z"⟩
abbrev cX7_isSettled : ByteArray := prog_9_method_39_code
def yX7_isSettled : MethodName := ⟨RX7, "isSettled", "(I)Z"⟩
abbrev cX7_terminates : ByteArray := prog_9_method_40_code
def yX7_terminates : MethodName := ⟨RX7, "terminates", "()Z"⟩
abbrev cX7_endCount : ByteArray := prog_9_method_41_code
def yX7_endCount : MethodName := ⟨RX7, "endCount", "()I"⟩
abbrev cX7_end : ByteArray := prog_9_method_42_code
def yX7_end : MethodName := ⟨RX7, "end", "(I)I"⟩
abbrev cX7_shortest : ByteArray := prog_9_method_43_code
def yX7_shortest : MethodName := ⟨RX7, "shortest", "()I"⟩
abbrev cX7_longest : ByteArray := prog_9_method_44_code
def yX7_longest : MethodName := ⟨RX7, "longest", "()I"⟩
abbrev cX7_ways : ByteArray := prog_9_method_45_code
def yX7_ways : MethodName := ⟨RX7, "ways", "()J"⟩
abbrev cX7_isPlayed : ByteArray := prog_9_method_46_code
def yX7_isPlayed : MethodName := ⟨RX7, "isPlayed", "(I)Z"⟩
abbrev cX7_choice : ByteArray := prog_9_method_47_code
def yX7_choice : MethodName := ⟨RX7, "choice", "()D"⟩
abbrev cX7_triggers : ByteArray := prog_9_method_48_code
def yX7_triggers : MethodName := ⟨RX7, "triggers", "(I)I"⟩
abbrev cX7_canTrigger : ByteArray := prog_9_method_49_code
def yX7_canTrigger : MethodName := ⟨RX7, "canTrigger", "(I)I"⟩
abbrev cX7_circular : ByteArray := prog_9_method_50_code
def yX7_circular : MethodName := ⟨RX7, "circular", "()I"⟩
abbrev cX7_disturbs : ByteArray := prog_9_method_51_code
def yX7_disturbs : MethodName := ⟨RX7, "disturbs", "(II)Z"⟩
abbrev cX7_doCommute : ByteArray := prog_9_method_52_code
def yX7_doCommute : MethodName := ⟨RX7, "doCommute", "(II)Z"⟩
abbrev cX7_commute : ByteArray := prog_9_method_53_code
def yX7_commute : MethodName := ⟨RX7, "commute", "(II)Z"⟩
abbrev cX7_isConflict : ByteArray := prog_9_method_54_code
def yX7_isConflict : MethodName := ⟨RX7, "isConflict", "(II)Z"⟩
abbrev cX7_conflictCount : ByteArray := prog_9_method_55_code
def yX7_conflictCount : MethodName := ⟨RX7, "conflictCount", "()I"⟩
abbrev cX7_conflict : ByteArray := prog_9_method_56_code
def yX7_conflict : MethodName := ⟨RX7, "conflict", "(I)I"⟩
abbrev cX7_digest : ByteArray := prog_9_method_57_code
def yX7_digest : MethodName := ⟨RX7, "digest", "()J"⟩
def RJ6 : String := "java/lang/Integer"
def TJ6 : u_T := fun k => match k with
  | _ => ("", "", "", false)
def tyJ6 : Nat → FieldType := fun k => match k with
  | _ => .int
abbrev wsJ60 : List Cond := u_ws RJ6 TJ6 0
theorem nmJ6 : ∀ a, a < 0 → ∀ b, b < 0 → a ≠ b → (TJ6 a).2.1 ≠ (TJ6 b).2.1 := by decide +kernel
theorem tyJ6_ok : ∀ k, k < 0 → parseFieldDescriptor (TJ6 k).2.2.1 = some (tyJ6 k) := by decide +kernel
abbrev cJ6_numberOfTrailingZeros_0f7a4 : ByteArray := prog_14_method_48_code
def yJ6_numberOfTrailingZeros_0f7a4 : MethodName := ⟨RJ6, "numberOfTrailingZeros", "(I)I"⟩
abbrev cJ6_bitCount_0f7a4 : ByteArray := prog_14_method_49_code
def yJ6_bitCount_0f7a4 : MethodName := ⟨RJ6, "bitCount", "(I)I"⟩
def RJ9 : String := "java/lang/Math"
def TJ9 : u_T := fun k => match k with
  | _ => ("", "", "", false)
def tyJ9 : Nat → FieldType := fun k => match k with
  | _ => .int
abbrev wsJ90 : List Cond := u_ws RJ9 TJ9 0
theorem nmJ9 : ∀ a, a < 0 → ∀ b, b < 0 → a ≠ b → (TJ9 a).2.1 ≠ (TJ9 b).2.1 := by decide +kernel
theorem tyJ9_ok : ∀ k, k < 0 → parseFieldDescriptor (TJ9 k).2.2.1 = some (tyJ9 k) := by decide +kernel
abbrev cJ9_max_7cf53 : ByteArray := prog_15_method_65_code
def yJ9_max_7cf53 : MethodName := ⟨RJ9, "max", "(II)I"⟩
def RJ0 : String := "java/lang/String"
def TJ0 : u_T := fun k => match k with
  | _ => ("", "", "", false)
def tyJ0 : Nat → FieldType := fun k => match k with
  | _ => .int
abbrev wsJ00 : List Cond := u_ws RJ0 TJ0 0
theorem nmJ0 : ∀ a, a < 0 → ∀ b, b < 0 → a ≠ b → (TJ0 a).2.1 ≠ (TJ0 b).2.1 := by decide +kernel
theorem tyJ0_ok : ∀ k, k < 0 → parseFieldDescriptor (TJ0 k).2.2.1 = some (tyJ0 k) := by decide +kernel
def RL : String := "TriggerAnalyzerLaw"
abbrev cL_addRule : ByteArray := method_3_code
def yL_addRule : MethodName := ⟨RL, "addRule", "(LTriggerAnalyzer;IZII[J)I"⟩
abbrev cL_addAction : ByteArray := method_4_code
def yL_addAction : MethodName := ⟨RL, "addAction", "(LTriggerAnalyzer;IIZ[J)I"⟩
abbrev cL_turn : ByteArray := method_5_code
def yL_turn : MethodName := ⟨RL, "turn", "(LTriggerAnalyzer;IZ[J)I"⟩
abbrev cL_rank : ByteArray := method_6_code
def yL_rank : MethodName := ⟨RL, "rank", "(LTriggerAnalyzer;II[J)I"⟩
abbrev cL_isAbove : ByteArray := method_7_code
def yL_isAbove : MethodName := ⟨RL, "isAbove", "(LTriggerAnalyzer;II[J)I"⟩
abbrev cL_put : ByteArray := method_8_code
def yL_put : MethodName := ⟨RL, "put", "(LTriggerAnalyzer;I[J)I"⟩
abbrev cL_change : ByteArray := method_9_code
def yL_change : MethodName := ⟨RL, "change", "(LTriggerAnalyzer;IZ[J)I"⟩
abbrev cL_play : ByteArray := method_10_code
def yL_play : MethodName := ⟨RL, "play", "(LTriggerAnalyzer;I[J)I"⟩
abbrev cL_run : ByteArray := method_11_code
def yL_run : MethodName := ⟨RL, "run", "(LTriggerAnalyzer;I[J)I"⟩
abbrev cL_factsOf : ByteArray := method_12_code
def yL_factsOf : MethodName := ⟨RL, "factsOf", "(LTriggerAnalyzer;I[J)I"⟩
abbrev cL_triggeredOf : ByteArray := method_13_code
def yL_triggeredOf : MethodName := ⟨RL, "triggeredOf", "(LTriggerAnalyzer;I[J)I"⟩
abbrev cL_after : ByteArray := method_14_code
def yL_after : MethodName := ⟨RL, "after", "(LTriggerAnalyzer;II[J)I"⟩
abbrev cL_terminates : ByteArray := method_15_code
def yL_terminates : MethodName := ⟨RL, "terminates", "(LTriggerAnalyzer;[J)I"⟩
abbrev cL_endCount : ByteArray := method_16_code
def yL_endCount : MethodName := ⟨RL, "endCount", "(LTriggerAnalyzer;[J)I"⟩
abbrev cL_end : ByteArray := method_17_code
def yL_end : MethodName := ⟨RL, "end", "(LTriggerAnalyzer;I[J)I"⟩
abbrev cL_shortest : ByteArray := method_18_code
def yL_shortest : MethodName := ⟨RL, "shortest", "(LTriggerAnalyzer;[J)I"⟩
abbrev cL_longest : ByteArray := method_19_code
def yL_longest : MethodName := ⟨RL, "longest", "(LTriggerAnalyzer;[J)I"⟩
abbrev cL_ways : ByteArray := method_20_code
def yL_ways : MethodName := ⟨RL, "ways", "(LTriggerAnalyzer;[J)I"⟩
abbrev cL_isPlayed : ByteArray := method_21_code
def yL_isPlayed : MethodName := ⟨RL, "isPlayed", "(LTriggerAnalyzer;I[J)I"⟩
abbrev cL_choice : ByteArray := method_22_code
def yL_choice : MethodName := ⟨RL, "choice", "(LTriggerAnalyzer;[D)I"⟩
abbrev cL_canTrigger : ByteArray := method_23_code
def yL_canTrigger : MethodName := ⟨RL, "canTrigger", "(LTriggerAnalyzer;I[J)I"⟩
abbrev cL_commute : ByteArray := method_24_code
def yL_commute : MethodName := ⟨RL, "commute", "(LTriggerAnalyzer;II[J)I"⟩
abbrev cL_conflict : ByteArray := method_25_code
def yL_conflict : MethodName := ⟨RL, "conflict", "(LTriggerAnalyzer;I[J)I"⟩
abbrev cL_law : ByteArray := code
def yL_law : MethodName := ⟨RL, "law", "([I)Z"⟩
def wsX0_init : List Cond := .code yX0_init cX0_init 1 none :: ([.methodLink RX0 3 objectInit, .instanceMethod objectInit, .code objectInit ⟨#[0xb1]⟩ 1 none, .arrayClass .int, .fieldLink RX0 9 "TriggerAnalyzer$Ends" "facts" "[I", .fieldLink RX0 15 "TriggerAnalyzer$Ends" "nearest" "I"] ++ wsX00)
def wsX0_clear : List Cond := .code yX0_clear cX0_clear 1 none :: ([.fieldLink RX0 19 "TriggerAnalyzer$Ends" "count" "I", .fieldLink RX0 15 "TriggerAnalyzer$Ends" "nearest" "I"] ++ wsX00)
def wsX0_size : List Cond := .code yX0_size cX0_size 1 (some .int) :: ([.fieldLink RX0 19 "TriggerAnalyzer$Ends" "count" "I"] ++ wsX00)
def wsX0_firstDepth : List Cond := .code yX0_firstDepth cX0_firstDepth 1 (some .int) :: ([.fieldLink RX0 15 "TriggerAnalyzer$Ends" "nearest" "I"] ++ wsX00)
def wsX0_factsAt : List Cond := .code yX0_factsAt cX0_factsAt 2 (some .int) :: ([.fieldLink RX0 19 "TriggerAnalyzer$Ends" "count" "I", .fieldLink RX0 9 "TriggerAnalyzer$Ends" "facts" "[I"] ++ wsX00)
def wsX0_append : List Cond := .code yX0_append cX0_append 3 none :: ([.fieldLink RX0 19 "TriggerAnalyzer$Ends" "count" "I", .fieldLink RX0 9 "TriggerAnalyzer$Ends" "facts" "[I", .fieldLink RX0 15 "TriggerAnalyzer$Ends" "nearest" "I"] ++ wsX00)
def wsX3_init : List Cond := .code yX3_init cX3_init 1 none :: ([.methodLink RX3 3 objectInit, .instanceMethod objectInit, .code objectInit ⟨#[0xb1]⟩ 1 none, .arrayClass .int, .fieldLink RX3 9 "TriggerAnalyzer$Prospect" "incoming" "[I", .fieldLink RX3 15 "TriggerAnalyzer$Prospect" "plays" "[I", .arrayClass .long, .fieldLink RX3 18 "TriggerAnalyzer$Prospect" "rows" "[J", .fieldLink RX3 22 "TriggerAnalyzer$Prospect" "queue" "[I"] ++ wsX30)
def wsX1_init_r1 : List Cond := [Cond.methodLink RX1 3 objectInit, Cond.instanceMethod objectInit, Cond.code objectInit ⟨#[0xb1]⟩ 1 none, Cond.arrayClass .int, Cond.fieldLink RX1 9 "TriggerAnalyzer$Exploration" "situations" "[I", Cond.fieldLink RX1 15 "TriggerAnalyzer$Exploration" "depths" "[I", Cond.fieldLink RX1 18 "TriggerAnalyzer$Exploration" "nexts" "[I", Cond.fieldLink RX1 21 "TriggerAnalyzer$Exploration" "places" "[I", Cond.classLink RX1 24 RX0, Cond.instantiable RX0 3, Cond.initialized RX0, Cond.fieldLink RX1 27 "TriggerAnalyzer$Exploration" "ends" "LTriggerAnalyzer$Ends;", Cond.classLink RX1 31 RX3, Cond.instantiable RX3 8, Cond.initialized RX3, Cond.fieldLink RX1 34 "TriggerAnalyzer$Exploration" "prospect" "LTriggerAnalyzer$Prospect;", Cond.fieldLink RX1 38 "TriggerAnalyzer$Exploration" "book" "LTriggerAnalyzer$RuleBook;", Cond.methodLink RX1 26 yX0_init, Cond.instanceMethod yX0_init, Cond.code yX0_init cX0_init 1 none, Cond.methodLink RX0 3 objectInit, Cond.fieldLink RX0 9 "TriggerAnalyzer$Ends" "facts" "[I", Cond.fieldLink RX0 15 "TriggerAnalyzer$Ends" "nearest" "I", Cond.methodLink RX1 33 yX3_init]
def wsX1_init_r2 : List Cond := [Cond.instanceMethod yX3_init, Cond.code yX3_init cX3_init 1 none, Cond.methodLink RX3 3 objectInit, Cond.fieldLink RX3 9 "TriggerAnalyzer$Prospect" "incoming" "[I", Cond.fieldLink RX3 15 "TriggerAnalyzer$Prospect" "plays" "[I", Cond.arrayClass .long, Cond.fieldLink RX3 18 "TriggerAnalyzer$Prospect" "rows" "[J", Cond.fieldLink RX3 22 "TriggerAnalyzer$Prospect" "queue" "[I"]
def wsX1_init : List Cond := .code yX1_init cX1_init 2 none :: ((wsX1_init_r1 ++ wsX1_init_r2) ++ wsX10 ++ wsX00 ++ wsX30)
def wsX1_isDone : List Cond := .code yX1_isDone cX1_isDone 1 (some .boolean) :: ([.fieldLink RX1 42 "TriggerAnalyzer$Exploration" "done" "Z"] ++ wsX10)
def wsX1_isUsable : List Cond := .code yX1_isUsable cX1_isUsable 1 (some .boolean) :: ([.fieldLink RX1 42 "TriggerAnalyzer$Exploration" "done" "Z", .fieldLink RX1 46 "TriggerAnalyzer$Exploration" "tooMany" "Z"] ++ wsX10)
def wsX1_answer : List Cond := .code yX1_answer cX1_answer 1 (some .int) :: ([.fieldLink RX1 46 "TriggerAnalyzer$Exploration" "tooMany" "Z", .fieldLink RX1 49 "TriggerAnalyzer$Exploration" "count" "I"] ++ wsX10)
def wsX1_size : List Cond := .code yX1_size cX1_size 1 (some .int) :: ([.fieldLink RX1 49 "TriggerAnalyzer$Exploration" "count" "I"] ++ wsX10)
def wsX1_everReady : List Cond := .code yX1_everReady cX1_everReady 1 (some .int) :: ([.fieldLink RX1 53 "TriggerAnalyzer$Exploration" "readyEver" "I"] ++ wsX10)
def wsX1_choiceShare : List Cond := .code yX1_choiceShare cX1_choiceShare 1 (some .double) :: ([.fieldLink RX1 49 "TriggerAnalyzer$Exploration" "count" "I", .fieldLink RX1 56 "TriggerAnalyzer$Exploration" "choices" "I"] ++ wsX10)
def wsX1_forget : List Cond := .code yX1_forget cX1_forget 1 none :: ([.fieldLink RX1 42 "TriggerAnalyzer$Exploration" "done" "Z"] ++ wsX10)
def wsX1_situationAt : List Cond := .code yX1_situationAt cX1_situationAt 2 (some .int) :: ([.fieldLink RX1 49 "TriggerAnalyzer$Exploration" "count" "I", .fieldLink RX1 9 "TriggerAnalyzer$Exploration" "situations" "[I"] ++ wsX10)
def wsX1_nextOf : List Cond := .code yX1_nextOf cX1_nextOf 4 (some .int) :: ([.fieldLink RX1 49 "TriggerAnalyzer$Exploration" "count" "I", .fieldLink RX1 18 "TriggerAnalyzer$Exploration" "nexts" "[I"] ++ wsX10)
def wsX1_mark : List Cond := .code yX1_mark cX1_mark 3 none :: ([.fieldLink RX1 21 "TriggerAnalyzer$Exploration" "places" "[I"] ++ wsX10)
def wsX1_clear : List Cond := .code yX1_clear cX1_clear 2 none :: ([.fieldLink RX1 49 "TriggerAnalyzer$Exploration" "count" "I", .fieldLink RX1 9 "TriggerAnalyzer$Exploration" "situations" "[I", .fieldLink RX1 46 "TriggerAnalyzer$Exploration" "tooMany" "Z", .fieldLink RX1 53 "TriggerAnalyzer$Exploration" "readyEver" "I", .fieldLink RX1 56 "TriggerAnalyzer$Exploration" "choices" "I", .fieldLink RX1 27 "TriggerAnalyzer$Exploration" "ends" "LTriggerAnalyzer$Ends;", .methodLink RX1 74 yX1_mark, .instanceMethod yX1_mark, .selects RX1 yX1_mark yX1_mark, .initialized RX1, .code yX1_mark cX1_mark 3 none, .fieldLink RX1 21 "TriggerAnalyzer$Exploration" "places" "[I", .methodLink RX1 78 yX0_clear, .instanceMethod yX0_clear, .selects RX0 yX0_clear yX0_clear, .initialized RX0, .code yX0_clear cX0_clear 1 none, .fieldLink RX0 19 "TriggerAnalyzer$Ends" "count" "I", .fieldLink RX0 15 "TriggerAnalyzer$Ends" "nearest" "I"] ++ wsX10 ++ wsX00)
def wsX1_placeOf : List Cond := .code yX1_placeOf cX1_placeOf 3 (some .int) :: ([.fieldLink RX1 21 "TriggerAnalyzer$Exploration" "places" "[I", .fieldLink RX1 49 "TriggerAnalyzer$Exploration" "count" "I", .fieldLink RX1 46 "TriggerAnalyzer$Exploration" "tooMany" "Z", .fieldLink RX1 9 "TriggerAnalyzer$Exploration" "situations" "[I", .fieldLink RX1 15 "TriggerAnalyzer$Exploration" "depths" "[I"] ++ wsX10)
def wsX6_triggeredIn : List Cond := .code yX6_triggeredIn cX6_triggeredIn 1 (some .int) :: ([])
def wsX4_isReadyIn : List Cond := .code yX4_isReadyIn cX4_isReadyIn 3 (some .boolean) :: ([.fieldLink RX4 15 "TriggerAnalyzer$Rule" "bit" "I", .fieldLink RX4 35 "TriggerAnalyzer$Rule" "above" "I", .static yX6_triggeredIn, .initialized RX6, .code yX6_triggeredIn cX6_triggeredIn 1 (some .int)] ++ wsX40)
def wsX5_readyIn : List Cond := .code yX5_readyIn cX5_readyIn 4 (some .int) :: ([.fieldLink RX5 11 "TriggerAnalyzer$RuleBook" "rules" "[LTriggerAnalyzer$Rule;", .fieldLink RX5 45 "TriggerAnalyzer$Rule" "bit" "I", .methodLink RX5 68 yX4_isReadyIn, .instanceMethod yX4_isReadyIn, .selects RX4 yX4_isReadyIn yX4_isReadyIn, .initialized RX4, .code yX4_isReadyIn cX4_isReadyIn 3 (some .boolean), .fieldLink RX4 15 "TriggerAnalyzer$Rule" "bit" "I", .fieldLink RX4 35 "TriggerAnalyzer$Rule" "above" "I", .static yX6_triggeredIn, .initialized RX6, .code yX6_triggeredIn cX6_triggeredIn 1 (some .int)] ++ wsX50 ++ wsX40)
def wsJ6_bitCount_0f7a4 : List Cond := .code yJ6_bitCount_0f7a4 cJ6_bitCount_0f7a4 1 (some .int) :: ([.constant RJ6 265 (1431655765), .constant RJ6 266 (858993459), .constant RJ6 267 (252645135)])
def wsX6_factsIn : List Cond := .code yX6_factsIn cX6_factsIn 1 (some .int) :: ([])
def wsX5_ruleOrNull : List Cond := .code yX5_ruleOrNull cX5_ruleOrNull 2 (some (.object "TriggerAnalyzer$Rule")) :: ([.fieldLink RX5 24 "TriggerAnalyzer$RuleBook" "count" "I", .fieldLink RX5 11 "TriggerAnalyzer$RuleBook" "rules" "[LTriggerAnalyzer$Rule;"] ++ wsX50)
def wsX6_situationOf : List Cond := .code yX6_situationOf cX6_situationOf 2 (some .int) :: ([])
def wsX4_holdsIn : List Cond := .code yX4_holdsIn cX4_holdsIn 3 (some .boolean) :: ([.fieldLink RX4 41 "TriggerAnalyzer$Rule" "must" "I", .fieldLink RX4 44 "TriggerAnalyzer$Rule" "mustNot" "I", .static yX6_factsIn, .initialized RX6, .code yX6_factsIn cX6_factsIn 1 (some .int)] ++ wsX40)
def wsX4_actionAt : List Cond := .code yX4_actionAt cX4_actionAt 2 (some .int) :: ([.fieldLink RX4 9 "TriggerAnalyzer$Rule" "actions" "[I"] ++ wsX40)
def wsX5_listenersTo : List Cond := .code yX5_listenersTo cX5_listenersTo 2 (some .int) :: ([.fieldLink RX5 17 "TriggerAnalyzer$RuleBook" "listeners" "[I"] ++ wsX50)
def wsX5_changed : List Cond := .code yX5_changed cX5_changed 7 (some .int) :: ([.static yX6_triggeredIn, .initialized RX6, .code yX6_triggeredIn cX6_triggeredIn 1 (some .int), .methodLink RX5 58 yX5_listenersTo, .instanceMethod yX5_listenersTo, .selects RX5 yX5_listenersTo yX5_listenersTo, .initialized RX5, .code yX5_listenersTo cX5_listenersTo 2 (some .int), .fieldLink RX5 17 "TriggerAnalyzer$RuleBook" "listeners" "[I", .static yX6_factsIn, .code yX6_factsIn cX6_factsIn 1 (some .int), .static yX6_situationOf, .code yX6_situationOf cX6_situationOf 2 (some .int)] ++ wsX50)
def wsX5_played_r1 : List Cond := [Cond.fieldLink RX5 45 "TriggerAnalyzer$Rule" "bit" "I", Cond.fieldLink RX5 75 "TriggerAnalyzer$Rule" "actionCount" "I", Cond.static yX6_factsIn, Cond.initialized RX6, Cond.code yX6_factsIn cX6_factsIn 1 (some .int), Cond.static yX6_triggeredIn, Cond.code yX6_triggeredIn cX6_triggeredIn 1 (some .int), Cond.static yX6_situationOf, Cond.code yX6_situationOf cX6_situationOf 2 (some .int), Cond.methodLink RX5 72 yX4_holdsIn, Cond.instanceMethod yX4_holdsIn, Cond.selects RX4 yX4_holdsIn yX4_holdsIn, Cond.initialized RX4, Cond.code yX4_holdsIn cX4_holdsIn 3 (some .boolean), Cond.fieldLink RX4 41 "TriggerAnalyzer$Rule" "must" "I", Cond.fieldLink RX4 44 "TriggerAnalyzer$Rule" "mustNot" "I", Cond.methodLink RX5 78 yX4_actionAt, Cond.instanceMethod yX4_actionAt, Cond.selects RX4 yX4_actionAt yX4_actionAt, Cond.code yX4_actionAt cX4_actionAt 2 (some .int), Cond.fieldLink RX4 9 "TriggerAnalyzer$Rule" "actions" "[I", Cond.methodLink RX5 81 yX5_changed, Cond.instanceMethod yX5_changed, Cond.selects RX5 yX5_changed yX5_changed]
def wsX5_played_r2 : List Cond := [Cond.initialized RX5, Cond.code yX5_changed cX5_changed 7 (some .int), Cond.methodLink RX5 58 yX5_listenersTo, Cond.instanceMethod yX5_listenersTo, Cond.selects RX5 yX5_listenersTo yX5_listenersTo, Cond.code yX5_listenersTo cX5_listenersTo 2 (some .int), Cond.fieldLink RX5 17 "TriggerAnalyzer$RuleBook" "listeners" "[I"]
def wsX5_played : List Cond := .code yX5_played cX5_played 5 (some .int) :: ((wsX5_played_r1 ++ wsX5_played_r2) ++ wsX40 ++ wsX50)
def wsX1_keepNext : List Cond := .code yX1_keepNext cX1_keepNext 3 none :: ([.fieldLink RX1 18 "TriggerAnalyzer$Exploration" "nexts" "[I"] ++ wsX10)
def wsX1_expand_r1 : List Cond := [Cond.fieldLink RX1 9 "TriggerAnalyzer$Exploration" "situations" "[I", Cond.fieldLink RX1 38 "TriggerAnalyzer$Exploration" "book" "LTriggerAnalyzer$RuleBook;", Cond.fieldLink RX1 53 "TriggerAnalyzer$Exploration" "readyEver" "I", Cond.fieldLink RX1 56 "TriggerAnalyzer$Exploration" "choices" "I", Cond.fieldLink RX1 27 "TriggerAnalyzer$Exploration" "ends" "LTriggerAnalyzer$Ends;", Cond.fieldLink RX1 15 "TriggerAnalyzer$Exploration" "depths" "[I", Cond.fieldLink RX1 103 "TriggerAnalyzer$Rule" "bit" "I", Cond.methodLink RX1 79 yX5_readyIn, Cond.instanceMethod yX5_readyIn, Cond.selects RX5 yX5_readyIn yX5_readyIn, Cond.initialized RX5, Cond.code yX5_readyIn cX5_readyIn 4 (some .int), Cond.fieldLink RX5 11 "TriggerAnalyzer$RuleBook" "rules" "[LTriggerAnalyzer$Rule;", Cond.fieldLink RX5 45 "TriggerAnalyzer$Rule" "bit" "I", Cond.methodLink RX5 68 yX4_isReadyIn, Cond.instanceMethod yX4_isReadyIn, Cond.selects RX4 yX4_isReadyIn yX4_isReadyIn, Cond.initialized RX4, Cond.code yX4_isReadyIn cX4_isReadyIn 3 (some .boolean), Cond.fieldLink RX4 15 "TriggerAnalyzer$Rule" "bit" "I", Cond.fieldLink RX4 35 "TriggerAnalyzer$Rule" "above" "I", Cond.static yX6_triggeredIn, Cond.initialized RX6, Cond.code yX6_triggeredIn cX6_triggeredIn 1 (some .int)]
def wsX1_expand_r2 : List Cond := [Cond.methodLink RX1 85 yJ6_bitCount_0f7a4, Cond.static yJ6_bitCount_0f7a4, Cond.initialized RJ6, Cond.code yJ6_bitCount_0f7a4 cJ6_bitCount_0f7a4 1 (some .int), Cond.constant RJ6 265 (1431655765), Cond.constant RJ6 266 (858993459), Cond.constant RJ6 267 (252645135), Cond.static yX6_factsIn, Cond.code yX6_factsIn cX6_factsIn 1 (some .int), Cond.methodLink RX1 96 yX0_append, Cond.instanceMethod yX0_append, Cond.selects RX0 yX0_append yX0_append, Cond.initialized RX0, Cond.code yX0_append cX0_append 3 none, Cond.fieldLink RX0 19 "TriggerAnalyzer$Ends" "count" "I", Cond.fieldLink RX0 9 "TriggerAnalyzer$Ends" "facts" "[I", Cond.fieldLink RX0 15 "TriggerAnalyzer$Ends" "nearest" "I", Cond.methodLink RX1 99 yX5_ruleOrNull, Cond.instanceMethod yX5_ruleOrNull, Cond.selects RX5 yX5_ruleOrNull yX5_ruleOrNull, Cond.code yX5_ruleOrNull cX5_ruleOrNull 2 (some (.object "TriggerAnalyzer$Rule")), Cond.fieldLink RX5 24 "TriggerAnalyzer$RuleBook" "count" "I", Cond.methodLink RX1 108 yX5_played, Cond.instanceMethod yX5_played]
def wsX1_expand_r3 : List Cond := [Cond.selects RX5 yX5_played yX5_played, Cond.code yX5_played cX5_played 5 (some .int), Cond.fieldLink RX5 75 "TriggerAnalyzer$Rule" "actionCount" "I", Cond.static yX6_situationOf, Cond.code yX6_situationOf cX6_situationOf 2 (some .int), Cond.methodLink RX5 72 yX4_holdsIn, Cond.instanceMethod yX4_holdsIn, Cond.selects RX4 yX4_holdsIn yX4_holdsIn, Cond.code yX4_holdsIn cX4_holdsIn 3 (some .boolean), Cond.fieldLink RX4 41 "TriggerAnalyzer$Rule" "must" "I", Cond.fieldLink RX4 44 "TriggerAnalyzer$Rule" "mustNot" "I", Cond.methodLink RX5 78 yX4_actionAt, Cond.instanceMethod yX4_actionAt, Cond.selects RX4 yX4_actionAt yX4_actionAt, Cond.code yX4_actionAt cX4_actionAt 2 (some .int), Cond.fieldLink RX4 9 "TriggerAnalyzer$Rule" "actions" "[I", Cond.methodLink RX5 81 yX5_changed, Cond.instanceMethod yX5_changed, Cond.selects RX5 yX5_changed yX5_changed, Cond.code yX5_changed cX5_changed 7 (some .int), Cond.methodLink RX5 58 yX5_listenersTo, Cond.instanceMethod yX5_listenersTo, Cond.selects RX5 yX5_listenersTo yX5_listenersTo, Cond.code yX5_listenersTo cX5_listenersTo 2 (some .int)]
def wsX1_expand_r4 : List Cond := [Cond.fieldLink RX5 17 "TriggerAnalyzer$RuleBook" "listeners" "[I", Cond.methodLink RX1 62 yX1_placeOf, Cond.instanceMethod yX1_placeOf, Cond.selects RX1 yX1_placeOf yX1_placeOf, Cond.initialized RX1, Cond.code yX1_placeOf cX1_placeOf 3 (some .int), Cond.fieldLink RX1 21 "TriggerAnalyzer$Exploration" "places" "[I", Cond.fieldLink RX1 49 "TriggerAnalyzer$Exploration" "count" "I", Cond.fieldLink RX1 46 "TriggerAnalyzer$Exploration" "tooMany" "Z", Cond.methodLink RX1 112 yX1_keepNext, Cond.instanceMethod yX1_keepNext, Cond.selects RX1 yX1_keepNext yX1_keepNext, Cond.code yX1_keepNext cX1_keepNext 3 none, Cond.fieldLink RX1 18 "TriggerAnalyzer$Exploration" "nexts" "[I"]
def wsX1_expand : List Cond := .code yX1_expand cX1_expand 7 none :: ((wsX1_expand_r1 ++ (wsX1_expand_r2 ++ (wsX1_expand_r3 ++ wsX1_expand_r4))) ++ wsX10 ++ wsX40 ++ wsX50 ++ wsX00)
def wsX3_countIncoming : List Cond := .code yX3_countIncoming cX3_countIncoming 5 none :: ([.fieldLink RX3 9 "TriggerAnalyzer$Prospect" "incoming" "[I", .fieldLink RX3 15 "TriggerAnalyzer$Prospect" "plays" "[I", .fieldLink RX3 18 "TriggerAnalyzer$Prospect" "rows" "[J", .methodLink RX3 53 yX1_size, .instanceMethod yX1_size, .selects RX1 yX1_size yX1_size, .initialized RX1, .code yX1_size cX1_size 1 (some .int), .fieldLink RX1 49 "TriggerAnalyzer$Exploration" "count" "I", .methodLink RX3 59 yX1_nextOf, .instanceMethod yX1_nextOf, .selects RX1 yX1_nextOf yX1_nextOf, .code yX1_nextOf cX1_nextOf 4 (some .int), .fieldLink RX1 18 "TriggerAnalyzer$Exploration" "nexts" "[I"] ++ wsX30 ++ wsX10)
def wsX3_enqueue : List Cond := .code yX3_enqueue cX3_enqueue 2 none :: ([.fieldLink RX3 46 "TriggerAnalyzer$Prospect" "queued" "I", .fieldLink RX3 22 "TriggerAnalyzer$Prospect" "queue" "[I"] ++ wsX30)
def wsX3_startAtFirst : List Cond := .code yX3_startAtFirst cX3_startAtFirst 1 none :: ([.fieldLink RX3 46 "TriggerAnalyzer$Prospect" "queued" "I", .fieldLink RX3 29 "TriggerAnalyzer$Prospect" "longestRow" "I", .fieldLink RX3 33 "TriggerAnalyzer$Prospect" "endedRows" "J", .fieldLink RX3 18 "TriggerAnalyzer$Prospect" "rows" "[J", .fieldLink RX3 9 "TriggerAnalyzer$Prospect" "incoming" "[I", .methodLink RX3 63 yX3_enqueue, .instanceMethod yX3_enqueue, .selects RX3 yX3_enqueue yX3_enqueue, .initialized RX3, .code yX3_enqueue cX3_enqueue 2 none, .fieldLink RX3 22 "TriggerAnalyzer$Prospect" "queue" "[I"] ++ wsX30)
def wsX3_lead : List Cond := .code yX3_lead cX3_lead 5 none :: ([.fieldLink RX3 15 "TriggerAnalyzer$Prospect" "plays" "[I", .methodLink RX3 71 Lib.Math.max.name, .static Lib.Math.max.name, .initialized "java/lang/Math", .code Lib.Math.max.name Lib.Math.max.code 2 (some .int), .fieldLink RX3 18 "TriggerAnalyzer$Prospect" "rows" "[J", .fieldLink RX3 9 "TriggerAnalyzer$Prospect" "incoming" "[I", .methodLink RX3 63 yX3_enqueue, .instanceMethod yX3_enqueue, .selects RX3 yX3_enqueue yX3_enqueue, .initialized RX3, .code yX3_enqueue cX3_enqueue 2 none, .fieldLink RX3 46 "TriggerAnalyzer$Prospect" "queued" "I", .fieldLink RX3 22 "TriggerAnalyzer$Prospect" "queue" "[I"] ++ wsX30)
def wsX3_take_r1 : List Cond := [Cond.fieldLink RX3 15 "TriggerAnalyzer$Prospect" "plays" "[I", Cond.fieldLink RX3 18 "TriggerAnalyzer$Prospect" "rows" "[J", Cond.fieldLink RX3 29 "TriggerAnalyzer$Prospect" "longestRow" "I", Cond.methodLink RX3 71 Lib.Math.max.name, Cond.static Lib.Math.max.name, Cond.initialized "java/lang/Math", Cond.code Lib.Math.max.name Lib.Math.max.code 2 (some .int), Cond.fieldLink RX3 33 "TriggerAnalyzer$Prospect" "endedRows" "J", Cond.methodLink RX3 59 yX1_nextOf, Cond.instanceMethod yX1_nextOf, Cond.selects RX1 yX1_nextOf yX1_nextOf, Cond.initialized RX1, Cond.code yX1_nextOf cX1_nextOf 4 (some .int), Cond.fieldLink RX1 49 "TriggerAnalyzer$Exploration" "count" "I", Cond.fieldLink RX1 18 "TriggerAnalyzer$Exploration" "nexts" "[I", Cond.methodLink RX3 67 yX3_lead, Cond.instanceMethod yX3_lead, Cond.selects RX3 yX3_lead yX3_lead, Cond.initialized RX3, Cond.code yX3_lead cX3_lead 5 none, Cond.fieldLink RX3 9 "TriggerAnalyzer$Prospect" "incoming" "[I", Cond.methodLink RX3 63 yX3_enqueue, Cond.instanceMethod yX3_enqueue, Cond.selects RX3 yX3_enqueue yX3_enqueue]
def wsX3_take_r2 : List Cond := [Cond.code yX3_enqueue cX3_enqueue 2 none, Cond.fieldLink RX3 46 "TriggerAnalyzer$Prospect" "queued" "I", Cond.fieldLink RX3 22 "TriggerAnalyzer$Prospect" "queue" "[I"]
def wsX3_take : List Cond := .code yX3_take cX3_take 6 none :: ((wsX3_take_r1 ++ wsX3_take_r2) ++ wsX30 ++ wsX10)
def wsX3_study_r1 : List Cond := [Cond.fieldLink RX3 46 "TriggerAnalyzer$Prospect" "queued" "I", Cond.fieldLink RX3 22 "TriggerAnalyzer$Prospect" "queue" "[I", Cond.fieldLink RX3 25 "TriggerAnalyzer$Prospect" "finite" "Z", Cond.methodLink RX3 39 yX3_countIncoming, Cond.instanceMethod yX3_countIncoming, Cond.selects RX3 yX3_countIncoming yX3_countIncoming, Cond.initialized RX3, Cond.code yX3_countIncoming cX3_countIncoming 5 none, Cond.fieldLink RX3 9 "TriggerAnalyzer$Prospect" "incoming" "[I", Cond.fieldLink RX3 15 "TriggerAnalyzer$Prospect" "plays" "[I", Cond.fieldLink RX3 18 "TriggerAnalyzer$Prospect" "rows" "[J", Cond.methodLink RX3 53 yX1_size, Cond.instanceMethod yX1_size, Cond.selects RX1 yX1_size yX1_size, Cond.initialized RX1, Cond.code yX1_size cX1_size 1 (some .int), Cond.fieldLink RX1 49 "TriggerAnalyzer$Exploration" "count" "I", Cond.methodLink RX3 59 yX1_nextOf, Cond.instanceMethod yX1_nextOf, Cond.selects RX1 yX1_nextOf yX1_nextOf, Cond.code yX1_nextOf cX1_nextOf 4 (some .int), Cond.fieldLink RX1 18 "TriggerAnalyzer$Exploration" "nexts" "[I", Cond.methodLink RX3 43 yX3_startAtFirst, Cond.instanceMethod yX3_startAtFirst]
def wsX3_study_r2 : List Cond := [Cond.selects RX3 yX3_startAtFirst yX3_startAtFirst, Cond.code yX3_startAtFirst cX3_startAtFirst 1 none, Cond.fieldLink RX3 29 "TriggerAnalyzer$Prospect" "longestRow" "I", Cond.fieldLink RX3 33 "TriggerAnalyzer$Prospect" "endedRows" "J", Cond.methodLink RX3 63 yX3_enqueue, Cond.instanceMethod yX3_enqueue, Cond.selects RX3 yX3_enqueue yX3_enqueue, Cond.code yX3_enqueue cX3_enqueue 2 none, Cond.methodLink RX3 49 yX3_take, Cond.instanceMethod yX3_take, Cond.selects RX3 yX3_take yX3_take, Cond.code yX3_take cX3_take 6 none, Cond.methodLink RX3 71 Lib.Math.max.name, Cond.static Lib.Math.max.name, Cond.initialized "java/lang/Math", Cond.code Lib.Math.max.name Lib.Math.max.code 2 (some .int), Cond.methodLink RX3 67 yX3_lead, Cond.instanceMethod yX3_lead, Cond.selects RX3 yX3_lead yX3_lead, Cond.code yX3_lead cX3_lead 5 none]
def wsX3_study : List Cond := .code yX3_study cX3_study 3 none :: ((wsX3_study_r1 ++ wsX3_study_r2) ++ wsX30 ++ wsX10)
def wsX1_search_r1 : List Cond := [Cond.fieldLink RX1 49 "TriggerAnalyzer$Exploration" "count" "I", Cond.fieldLink RX1 46 "TriggerAnalyzer$Exploration" "tooMany" "Z", Cond.fieldLink RX1 34 "TriggerAnalyzer$Exploration" "prospect" "LTriggerAnalyzer$Prospect;", Cond.fieldLink RX1 42 "TriggerAnalyzer$Exploration" "done" "Z", Cond.methodLink RX1 59 yX1_clear, Cond.instanceMethod yX1_clear, Cond.selects RX1 yX1_clear yX1_clear, Cond.initialized RX1, Cond.code yX1_clear cX1_clear 2 none, Cond.fieldLink RX1 9 "TriggerAnalyzer$Exploration" "situations" "[I", Cond.fieldLink RX1 53 "TriggerAnalyzer$Exploration" "readyEver" "I", Cond.fieldLink RX1 56 "TriggerAnalyzer$Exploration" "choices" "I", Cond.fieldLink RX1 27 "TriggerAnalyzer$Exploration" "ends" "LTriggerAnalyzer$Ends;", Cond.methodLink RX1 74 yX1_mark, Cond.instanceMethod yX1_mark, Cond.selects RX1 yX1_mark yX1_mark, Cond.code yX1_mark cX1_mark 3 none, Cond.fieldLink RX1 21 "TriggerAnalyzer$Exploration" "places" "[I", Cond.methodLink RX1 78 yX0_clear, Cond.instanceMethod yX0_clear, Cond.selects RX0 yX0_clear yX0_clear, Cond.initialized RX0, Cond.code yX0_clear cX0_clear 1 none, Cond.fieldLink RX0 19 "TriggerAnalyzer$Ends" "count" "I"]
def wsX1_search_r2 : List Cond := [Cond.fieldLink RX0 15 "TriggerAnalyzer$Ends" "nearest" "I", Cond.methodLink RX1 62 yX1_placeOf, Cond.instanceMethod yX1_placeOf, Cond.selects RX1 yX1_placeOf yX1_placeOf, Cond.code yX1_placeOf cX1_placeOf 3 (some .int), Cond.fieldLink RX1 15 "TriggerAnalyzer$Exploration" "depths" "[I", Cond.methodLink RX1 66 yX1_expand, Cond.instanceMethod yX1_expand, Cond.selects RX1 yX1_expand yX1_expand, Cond.code yX1_expand cX1_expand 7 none, Cond.fieldLink RX1 38 "TriggerAnalyzer$Exploration" "book" "LTriggerAnalyzer$RuleBook;", Cond.fieldLink RX1 103 "TriggerAnalyzer$Rule" "bit" "I", Cond.methodLink RX1 79 yX5_readyIn, Cond.instanceMethod yX5_readyIn, Cond.selects RX5 yX5_readyIn yX5_readyIn, Cond.initialized RX5, Cond.code yX5_readyIn cX5_readyIn 4 (some .int), Cond.fieldLink RX5 11 "TriggerAnalyzer$RuleBook" "rules" "[LTriggerAnalyzer$Rule;", Cond.fieldLink RX5 45 "TriggerAnalyzer$Rule" "bit" "I", Cond.methodLink RX5 68 yX4_isReadyIn, Cond.instanceMethod yX4_isReadyIn, Cond.selects RX4 yX4_isReadyIn yX4_isReadyIn, Cond.initialized RX4, Cond.code yX4_isReadyIn cX4_isReadyIn 3 (some .boolean)]
def wsX1_search_r3 : List Cond := [Cond.fieldLink RX4 15 "TriggerAnalyzer$Rule" "bit" "I", Cond.fieldLink RX4 35 "TriggerAnalyzer$Rule" "above" "I", Cond.static yX6_triggeredIn, Cond.initialized RX6, Cond.code yX6_triggeredIn cX6_triggeredIn 1 (some .int), Cond.methodLink RX1 85 yJ6_bitCount_0f7a4, Cond.static yJ6_bitCount_0f7a4, Cond.initialized RJ6, Cond.code yJ6_bitCount_0f7a4 cJ6_bitCount_0f7a4 1 (some .int), Cond.constant RJ6 265 (1431655765), Cond.constant RJ6 266 (858993459), Cond.constant RJ6 267 (252645135), Cond.static yX6_factsIn, Cond.code yX6_factsIn cX6_factsIn 1 (some .int), Cond.methodLink RX1 96 yX0_append, Cond.instanceMethod yX0_append, Cond.selects RX0 yX0_append yX0_append, Cond.code yX0_append cX0_append 3 none, Cond.fieldLink RX0 9 "TriggerAnalyzer$Ends" "facts" "[I", Cond.methodLink RX1 99 yX5_ruleOrNull, Cond.instanceMethod yX5_ruleOrNull, Cond.selects RX5 yX5_ruleOrNull yX5_ruleOrNull, Cond.code yX5_ruleOrNull cX5_ruleOrNull 2 (some (.object "TriggerAnalyzer$Rule")), Cond.fieldLink RX5 24 "TriggerAnalyzer$RuleBook" "count" "I"]
def wsX1_search_r4 : List Cond := [Cond.methodLink RX1 108 yX5_played, Cond.instanceMethod yX5_played, Cond.selects RX5 yX5_played yX5_played, Cond.code yX5_played cX5_played 5 (some .int), Cond.fieldLink RX5 75 "TriggerAnalyzer$Rule" "actionCount" "I", Cond.static yX6_situationOf, Cond.code yX6_situationOf cX6_situationOf 2 (some .int), Cond.methodLink RX5 72 yX4_holdsIn, Cond.instanceMethod yX4_holdsIn, Cond.selects RX4 yX4_holdsIn yX4_holdsIn, Cond.code yX4_holdsIn cX4_holdsIn 3 (some .boolean), Cond.fieldLink RX4 41 "TriggerAnalyzer$Rule" "must" "I", Cond.fieldLink RX4 44 "TriggerAnalyzer$Rule" "mustNot" "I", Cond.methodLink RX5 78 yX4_actionAt, Cond.instanceMethod yX4_actionAt, Cond.selects RX4 yX4_actionAt yX4_actionAt, Cond.code yX4_actionAt cX4_actionAt 2 (some .int), Cond.fieldLink RX4 9 "TriggerAnalyzer$Rule" "actions" "[I", Cond.methodLink RX5 81 yX5_changed, Cond.instanceMethod yX5_changed, Cond.selects RX5 yX5_changed yX5_changed, Cond.code yX5_changed cX5_changed 7 (some .int), Cond.methodLink RX5 58 yX5_listenersTo, Cond.instanceMethod yX5_listenersTo]
def wsX1_search_r5 : List Cond := [Cond.selects RX5 yX5_listenersTo yX5_listenersTo, Cond.code yX5_listenersTo cX5_listenersTo 2 (some .int), Cond.fieldLink RX5 17 "TriggerAnalyzer$RuleBook" "listeners" "[I", Cond.methodLink RX1 112 yX1_keepNext, Cond.instanceMethod yX1_keepNext, Cond.selects RX1 yX1_keepNext yX1_keepNext, Cond.code yX1_keepNext cX1_keepNext 3 none, Cond.fieldLink RX1 18 "TriggerAnalyzer$Exploration" "nexts" "[I", Cond.methodLink RX1 70 yX3_study, Cond.instanceMethod yX3_study, Cond.selects RX3 yX3_study yX3_study, Cond.initialized RX3, Cond.code yX3_study cX3_study 3 none, Cond.fieldLink RX3 46 "TriggerAnalyzer$Prospect" "queued" "I", Cond.fieldLink RX3 22 "TriggerAnalyzer$Prospect" "queue" "[I", Cond.fieldLink RX3 25 "TriggerAnalyzer$Prospect" "finite" "Z", Cond.methodLink RX3 39 yX3_countIncoming, Cond.instanceMethod yX3_countIncoming, Cond.selects RX3 yX3_countIncoming yX3_countIncoming, Cond.code yX3_countIncoming cX3_countIncoming 5 none, Cond.fieldLink RX3 9 "TriggerAnalyzer$Prospect" "incoming" "[I", Cond.fieldLink RX3 15 "TriggerAnalyzer$Prospect" "plays" "[I", Cond.fieldLink RX3 18 "TriggerAnalyzer$Prospect" "rows" "[J", Cond.methodLink RX3 53 yX1_size]
def wsX1_search_r6 : List Cond := [Cond.instanceMethod yX1_size, Cond.selects RX1 yX1_size yX1_size, Cond.code yX1_size cX1_size 1 (some .int), Cond.methodLink RX3 59 yX1_nextOf, Cond.instanceMethod yX1_nextOf, Cond.selects RX1 yX1_nextOf yX1_nextOf, Cond.code yX1_nextOf cX1_nextOf 4 (some .int), Cond.methodLink RX3 43 yX3_startAtFirst, Cond.instanceMethod yX3_startAtFirst, Cond.selects RX3 yX3_startAtFirst yX3_startAtFirst, Cond.code yX3_startAtFirst cX3_startAtFirst 1 none, Cond.fieldLink RX3 29 "TriggerAnalyzer$Prospect" "longestRow" "I", Cond.fieldLink RX3 33 "TriggerAnalyzer$Prospect" "endedRows" "J", Cond.methodLink RX3 63 yX3_enqueue, Cond.instanceMethod yX3_enqueue, Cond.selects RX3 yX3_enqueue yX3_enqueue, Cond.code yX3_enqueue cX3_enqueue 2 none, Cond.methodLink RX3 49 yX3_take, Cond.instanceMethod yX3_take, Cond.selects RX3 yX3_take yX3_take, Cond.code yX3_take cX3_take 6 none, Cond.methodLink RX3 71 Lib.Math.max.name, Cond.static Lib.Math.max.name, Cond.initialized "java/lang/Math"]
def wsX1_search_r7 : List Cond := [Cond.code Lib.Math.max.name Lib.Math.max.code 2 (some .int), Cond.methodLink RX3 67 yX3_lead, Cond.instanceMethod yX3_lead, Cond.selects RX3 yX3_lead yX3_lead, Cond.code yX3_lead cX3_lead 5 none]
def wsX1_search : List Cond := .code yX1_search cX1_search 3 none :: ((wsX1_search_r1 ++ (wsX1_search_r2 ++ (wsX1_search_r3 ++ (wsX1_search_r4 ++ (wsX1_search_r5 ++ (wsX1_search_r6 ++ wsX1_search_r7)))))) ++ wsX10 ++ wsX00 ++ wsX40 ++ wsX50 ++ wsX30)
def wsX2_init : List Cond := .code yX2_init cX2_init 2 none :: ([.methodLink RX2 3 objectInit, .instanceMethod objectInit, .code objectInit ⟨#[0xb1]⟩ 1 none, .arrayClass .int, .fieldLink RX2 9 "TriggerAnalyzer$Judge" "reach" "[I", .fieldLink RX2 15 "TriggerAnalyzer$Judge" "book" "LTriggerAnalyzer$RuleBook;"] ++ wsX20)
def wsX5_triggerableBy : List Cond := .code yX5_triggerableBy cX5_triggerableBy 4 (some .int) :: ([.fieldLink RX5 41 "TriggerAnalyzer$Rule" "on" "Z", .fieldLink RX5 75 "TriggerAnalyzer$Rule" "actionCount" "I", .methodLink RX5 78 yX4_actionAt, .instanceMethod yX4_actionAt, .selects RX4 yX4_actionAt yX4_actionAt, .initialized RX4, .code yX4_actionAt cX4_actionAt 2 (some .int), .fieldLink RX4 9 "TriggerAnalyzer$Rule" "actions" "[I", .methodLink RX5 58 yX5_listenersTo, .instanceMethod yX5_listenersTo, .selects RX5 yX5_listenersTo yX5_listenersTo, .initialized RX5, .code yX5_listenersTo cX5_listenersTo 2 (some .int), .fieldLink RX5 17 "TriggerAnalyzer$RuleBook" "listeners" "[I"] ++ wsX40 ++ wsX50)
def wsX2_spreadReach_r1 : List Cond := [Cond.fieldLink RX2 9 "TriggerAnalyzer$Judge" "reach" "[I", Cond.fieldLink RX2 15 "TriggerAnalyzer$Judge" "book" "LTriggerAnalyzer$RuleBook;", Cond.methodLink RX2 22 yX5_ruleOrNull, Cond.instanceMethod yX5_ruleOrNull, Cond.selects RX5 yX5_ruleOrNull yX5_ruleOrNull, Cond.initialized RX5, Cond.code yX5_ruleOrNull cX5_ruleOrNull 2 (some (.object "TriggerAnalyzer$Rule")), Cond.fieldLink RX5 24 "TriggerAnalyzer$RuleBook" "count" "I", Cond.fieldLink RX5 11 "TriggerAnalyzer$RuleBook" "rules" "[LTriggerAnalyzer$Rule;", Cond.methodLink RX2 28 yX5_triggerableBy, Cond.instanceMethod yX5_triggerableBy, Cond.selects RX5 yX5_triggerableBy yX5_triggerableBy, Cond.code yX5_triggerableBy cX5_triggerableBy 4 (some .int), Cond.fieldLink RX5 41 "TriggerAnalyzer$Rule" "on" "Z", Cond.fieldLink RX5 75 "TriggerAnalyzer$Rule" "actionCount" "I", Cond.methodLink RX5 78 yX4_actionAt, Cond.instanceMethod yX4_actionAt, Cond.selects RX4 yX4_actionAt yX4_actionAt, Cond.initialized RX4, Cond.code yX4_actionAt cX4_actionAt 2 (some .int), Cond.fieldLink RX4 9 "TriggerAnalyzer$Rule" "actions" "[I", Cond.methodLink RX5 58 yX5_listenersTo, Cond.instanceMethod yX5_listenersTo, Cond.selects RX5 yX5_listenersTo yX5_listenersTo]
def wsX2_spreadReach_r2 : List Cond := [Cond.code yX5_listenersTo cX5_listenersTo 2 (some .int), Cond.fieldLink RX5 17 "TriggerAnalyzer$RuleBook" "listeners" "[I"]
def wsX2_spreadReach : List Cond := .code yX2_spreadReach cX2_spreadReach 3 none :: ((wsX2_spreadReach_r1 ++ wsX2_spreadReach_r2) ++ wsX20 ++ wsX50 ++ wsX40)
def wsX2_inCircles_r1 : List Cond := [Cond.fieldLink RX2 9 "TriggerAnalyzer$Judge" "reach" "[I", Cond.methodLink RX2 19 yX2_spreadReach, Cond.instanceMethod yX2_spreadReach, Cond.selects RX2 yX2_spreadReach yX2_spreadReach, Cond.initialized RX2, Cond.code yX2_spreadReach cX2_spreadReach 3 none, Cond.fieldLink RX2 15 "TriggerAnalyzer$Judge" "book" "LTriggerAnalyzer$RuleBook;", Cond.methodLink RX2 22 yX5_ruleOrNull, Cond.instanceMethod yX5_ruleOrNull, Cond.selects RX5 yX5_ruleOrNull yX5_ruleOrNull, Cond.initialized RX5, Cond.code yX5_ruleOrNull cX5_ruleOrNull 2 (some (.object "TriggerAnalyzer$Rule")), Cond.fieldLink RX5 24 "TriggerAnalyzer$RuleBook" "count" "I", Cond.fieldLink RX5 11 "TriggerAnalyzer$RuleBook" "rules" "[LTriggerAnalyzer$Rule;", Cond.methodLink RX2 28 yX5_triggerableBy, Cond.instanceMethod yX5_triggerableBy, Cond.selects RX5 yX5_triggerableBy yX5_triggerableBy, Cond.code yX5_triggerableBy cX5_triggerableBy 4 (some .int), Cond.fieldLink RX5 41 "TriggerAnalyzer$Rule" "on" "Z", Cond.fieldLink RX5 75 "TriggerAnalyzer$Rule" "actionCount" "I", Cond.methodLink RX5 78 yX4_actionAt, Cond.instanceMethod yX4_actionAt, Cond.selects RX4 yX4_actionAt yX4_actionAt, Cond.initialized RX4]
def wsX2_inCircles_r2 : List Cond := [Cond.code yX4_actionAt cX4_actionAt 2 (some .int), Cond.fieldLink RX4 9 "TriggerAnalyzer$Rule" "actions" "[I", Cond.methodLink RX5 58 yX5_listenersTo, Cond.instanceMethod yX5_listenersTo, Cond.selects RX5 yX5_listenersTo yX5_listenersTo, Cond.code yX5_listenersTo cX5_listenersTo 2 (some .int), Cond.fieldLink RX5 17 "TriggerAnalyzer$RuleBook" "listeners" "[I"]
def wsX2_inCircles : List Cond := .code yX2_inCircles cX2_inCircles 3 (some .int) :: ((wsX2_inCircles_r1 ++ wsX2_inCircles_r2) ++ wsX20 ++ wsX50 ++ wsX40)
def wsX4_changedFacts : List Cond := .code yX4_changedFacts cX4_changedFacts 1 (some .int) :: ([.fieldLink RX4 22 "TriggerAnalyzer$Rule" "setFacts" "I", .fieldLink RX4 25 "TriggerAnalyzer$Rule" "unsetFacts" "I"] ++ wsX40)
def wsX4_conditionFacts : List Cond := .code yX4_conditionFacts cX4_conditionFacts 1 (some .int) :: ([.fieldLink RX4 41 "TriggerAnalyzer$Rule" "must" "I", .fieldLink RX4 44 "TriggerAnalyzer$Rule" "mustNot" "I"] ++ wsX40)
def wsX2_areIndependent_r1 : List Cond := [Cond.fieldLink RX2 32 "TriggerAnalyzer$Rule" "on" "Z", Cond.fieldLink RX2 15 "TriggerAnalyzer$Judge" "book" "LTriggerAnalyzer$RuleBook;", Cond.fieldLink RX2 38 "TriggerAnalyzer$Rule" "bit" "I", Cond.fieldLink RX2 49 "TriggerAnalyzer$Rule" "setFacts" "I", Cond.fieldLink RX2 52 "TriggerAnalyzer$Rule" "unsetFacts" "I", Cond.methodLink RX2 28 yX5_triggerableBy, Cond.instanceMethod yX5_triggerableBy, Cond.selects RX5 yX5_triggerableBy yX5_triggerableBy, Cond.initialized RX5, Cond.code yX5_triggerableBy cX5_triggerableBy 4 (some .int), Cond.fieldLink RX5 41 "TriggerAnalyzer$Rule" "on" "Z", Cond.fieldLink RX5 75 "TriggerAnalyzer$Rule" "actionCount" "I", Cond.methodLink RX5 78 yX4_actionAt, Cond.instanceMethod yX4_actionAt, Cond.selects RX4 yX4_actionAt yX4_actionAt, Cond.initialized RX4, Cond.code yX4_actionAt cX4_actionAt 2 (some .int), Cond.fieldLink RX4 9 "TriggerAnalyzer$Rule" "actions" "[I", Cond.methodLink RX5 58 yX5_listenersTo, Cond.instanceMethod yX5_listenersTo, Cond.selects RX5 yX5_listenersTo yX5_listenersTo, Cond.code yX5_listenersTo cX5_listenersTo 2 (some .int), Cond.fieldLink RX5 17 "TriggerAnalyzer$RuleBook" "listeners" "[I", Cond.methodLink RX2 42 yX4_changedFacts]
def wsX2_areIndependent_r2 : List Cond := [Cond.instanceMethod yX4_changedFacts, Cond.selects RX4 yX4_changedFacts yX4_changedFacts, Cond.code yX4_changedFacts cX4_changedFacts 1 (some .int), Cond.fieldLink RX4 22 "TriggerAnalyzer$Rule" "setFacts" "I", Cond.fieldLink RX4 25 "TriggerAnalyzer$Rule" "unsetFacts" "I", Cond.methodLink RX2 46 yX4_conditionFacts, Cond.instanceMethod yX4_conditionFacts, Cond.selects RX4 yX4_conditionFacts yX4_conditionFacts, Cond.code yX4_conditionFacts cX4_conditionFacts 1 (some .int), Cond.fieldLink RX4 41 "TriggerAnalyzer$Rule" "must" "I", Cond.fieldLink RX4 44 "TriggerAnalyzer$Rule" "mustNot" "I"]
def wsX2_areIndependent : List Cond := .code yX2_areIndependent cX2_areIndependent 4 (some .boolean) :: ((wsX2_areIndependent_r1 ++ wsX2_areIndependent_r2) ++ wsX40 ++ wsX20 ++ wsX50)
def wsX4_isOver : List Cond := .code yX4_isOver cX4_isOver 2 (some .boolean) :: ([.fieldLink RX4 28 "TriggerAnalyzer$Rule" "below" "I", .fieldLink RX4 15 "TriggerAnalyzer$Rule" "bit" "I"] ++ wsX40)
def wsX2_areInConflict_r1 : List Cond := [Cond.fieldLink RX2 15 "TriggerAnalyzer$Judge" "book" "LTriggerAnalyzer$RuleBook;", Cond.methodLink RX2 22 yX5_ruleOrNull, Cond.instanceMethod yX5_ruleOrNull, Cond.selects RX5 yX5_ruleOrNull yX5_ruleOrNull, Cond.initialized RX5, Cond.code yX5_ruleOrNull cX5_ruleOrNull 2 (some (.object "TriggerAnalyzer$Rule")), Cond.fieldLink RX5 24 "TriggerAnalyzer$RuleBook" "count" "I", Cond.fieldLink RX5 11 "TriggerAnalyzer$RuleBook" "rules" "[LTriggerAnalyzer$Rule;", Cond.methodLink RX2 55 yX4_isOver, Cond.instanceMethod yX4_isOver, Cond.selects RX4 yX4_isOver yX4_isOver, Cond.initialized RX4, Cond.code yX4_isOver cX4_isOver 2 (some .boolean), Cond.fieldLink RX4 28 "TriggerAnalyzer$Rule" "below" "I", Cond.fieldLink RX4 15 "TriggerAnalyzer$Rule" "bit" "I", Cond.methodLink RX2 59 yX2_areIndependent, Cond.instanceMethod yX2_areIndependent, Cond.selects RX2 yX2_areIndependent yX2_areIndependent, Cond.initialized RX2, Cond.code yX2_areIndependent cX2_areIndependent 4 (some .boolean), Cond.fieldLink RX2 32 "TriggerAnalyzer$Rule" "on" "Z", Cond.fieldLink RX2 38 "TriggerAnalyzer$Rule" "bit" "I", Cond.fieldLink RX2 49 "TriggerAnalyzer$Rule" "setFacts" "I", Cond.fieldLink RX2 52 "TriggerAnalyzer$Rule" "unsetFacts" "I"]
def wsX2_areInConflict_r2 : List Cond := [Cond.methodLink RX2 28 yX5_triggerableBy, Cond.instanceMethod yX5_triggerableBy, Cond.selects RX5 yX5_triggerableBy yX5_triggerableBy, Cond.code yX5_triggerableBy cX5_triggerableBy 4 (some .int), Cond.fieldLink RX5 41 "TriggerAnalyzer$Rule" "on" "Z", Cond.fieldLink RX5 75 "TriggerAnalyzer$Rule" "actionCount" "I", Cond.methodLink RX5 78 yX4_actionAt, Cond.instanceMethod yX4_actionAt, Cond.selects RX4 yX4_actionAt yX4_actionAt, Cond.code yX4_actionAt cX4_actionAt 2 (some .int), Cond.fieldLink RX4 9 "TriggerAnalyzer$Rule" "actions" "[I", Cond.methodLink RX5 58 yX5_listenersTo, Cond.instanceMethod yX5_listenersTo, Cond.selects RX5 yX5_listenersTo yX5_listenersTo, Cond.code yX5_listenersTo cX5_listenersTo 2 (some .int), Cond.fieldLink RX5 17 "TriggerAnalyzer$RuleBook" "listeners" "[I", Cond.methodLink RX2 42 yX4_changedFacts, Cond.instanceMethod yX4_changedFacts, Cond.selects RX4 yX4_changedFacts yX4_changedFacts, Cond.code yX4_changedFacts cX4_changedFacts 1 (some .int), Cond.fieldLink RX4 22 "TriggerAnalyzer$Rule" "setFacts" "I", Cond.fieldLink RX4 25 "TriggerAnalyzer$Rule" "unsetFacts" "I", Cond.methodLink RX2 46 yX4_conditionFacts, Cond.instanceMethod yX4_conditionFacts]
def wsX2_areInConflict_r3 : List Cond := [Cond.selects RX4 yX4_conditionFacts yX4_conditionFacts, Cond.code yX4_conditionFacts cX4_conditionFacts 1 (some .int), Cond.fieldLink RX4 41 "TriggerAnalyzer$Rule" "must" "I", Cond.fieldLink RX4 44 "TriggerAnalyzer$Rule" "mustNot" "I"]
def wsX2_areInConflict : List Cond := .code yX2_areInConflict cX2_areInConflict 5 (some .boolean) :: ((wsX2_areInConflict_r1 ++ (wsX2_areInConflict_r2 ++ wsX2_areInConflict_r3)) ++ wsX20 ++ wsX50 ++ wsX40)
def wsX2_countConflicts_r1 : List Cond := [Cond.methodLink RX2 63 yX2_areInConflict, Cond.instanceMethod yX2_areInConflict, Cond.selects RX2 yX2_areInConflict yX2_areInConflict, Cond.initialized RX2, Cond.code yX2_areInConflict cX2_areInConflict 5 (some .boolean), Cond.fieldLink RX2 15 "TriggerAnalyzer$Judge" "book" "LTriggerAnalyzer$RuleBook;", Cond.methodLink RX2 22 yX5_ruleOrNull, Cond.instanceMethod yX5_ruleOrNull, Cond.selects RX5 yX5_ruleOrNull yX5_ruleOrNull, Cond.initialized RX5, Cond.code yX5_ruleOrNull cX5_ruleOrNull 2 (some (.object "TriggerAnalyzer$Rule")), Cond.fieldLink RX5 24 "TriggerAnalyzer$RuleBook" "count" "I", Cond.fieldLink RX5 11 "TriggerAnalyzer$RuleBook" "rules" "[LTriggerAnalyzer$Rule;", Cond.methodLink RX2 55 yX4_isOver, Cond.instanceMethod yX4_isOver, Cond.selects RX4 yX4_isOver yX4_isOver, Cond.initialized RX4, Cond.code yX4_isOver cX4_isOver 2 (some .boolean), Cond.fieldLink RX4 28 "TriggerAnalyzer$Rule" "below" "I", Cond.fieldLink RX4 15 "TriggerAnalyzer$Rule" "bit" "I", Cond.methodLink RX2 59 yX2_areIndependent, Cond.instanceMethod yX2_areIndependent, Cond.selects RX2 yX2_areIndependent yX2_areIndependent, Cond.code yX2_areIndependent cX2_areIndependent 4 (some .boolean)]
def wsX2_countConflicts_r2 : List Cond := [Cond.fieldLink RX2 32 "TriggerAnalyzer$Rule" "on" "Z", Cond.fieldLink RX2 38 "TriggerAnalyzer$Rule" "bit" "I", Cond.fieldLink RX2 49 "TriggerAnalyzer$Rule" "setFacts" "I", Cond.fieldLink RX2 52 "TriggerAnalyzer$Rule" "unsetFacts" "I", Cond.methodLink RX2 28 yX5_triggerableBy, Cond.instanceMethod yX5_triggerableBy, Cond.selects RX5 yX5_triggerableBy yX5_triggerableBy, Cond.code yX5_triggerableBy cX5_triggerableBy 4 (some .int), Cond.fieldLink RX5 41 "TriggerAnalyzer$Rule" "on" "Z", Cond.fieldLink RX5 75 "TriggerAnalyzer$Rule" "actionCount" "I", Cond.methodLink RX5 78 yX4_actionAt, Cond.instanceMethod yX4_actionAt, Cond.selects RX4 yX4_actionAt yX4_actionAt, Cond.code yX4_actionAt cX4_actionAt 2 (some .int), Cond.fieldLink RX4 9 "TriggerAnalyzer$Rule" "actions" "[I", Cond.methodLink RX5 58 yX5_listenersTo, Cond.instanceMethod yX5_listenersTo, Cond.selects RX5 yX5_listenersTo yX5_listenersTo, Cond.code yX5_listenersTo cX5_listenersTo 2 (some .int), Cond.fieldLink RX5 17 "TriggerAnalyzer$RuleBook" "listeners" "[I", Cond.methodLink RX2 42 yX4_changedFacts, Cond.instanceMethod yX4_changedFacts, Cond.selects RX4 yX4_changedFacts yX4_changedFacts, Cond.code yX4_changedFacts cX4_changedFacts 1 (some .int)]
def wsX2_countConflicts_r3 : List Cond := [Cond.fieldLink RX4 22 "TriggerAnalyzer$Rule" "setFacts" "I", Cond.fieldLink RX4 25 "TriggerAnalyzer$Rule" "unsetFacts" "I", Cond.methodLink RX2 46 yX4_conditionFacts, Cond.instanceMethod yX4_conditionFacts, Cond.selects RX4 yX4_conditionFacts yX4_conditionFacts, Cond.code yX4_conditionFacts cX4_conditionFacts 1 (some .int), Cond.fieldLink RX4 41 "TriggerAnalyzer$Rule" "must" "I", Cond.fieldLink RX4 44 "TriggerAnalyzer$Rule" "mustNot" "I"]
def wsX2_countConflicts : List Cond := .code yX2_countConflicts cX2_countConflicts 4 (some .int) :: ((wsX2_countConflicts_r1 ++ (wsX2_countConflicts_r2 ++ wsX2_countConflicts_r3)) ++ wsX20 ++ wsX50 ++ wsX40)
def wsX2_conflictAt_r1 : List Cond := [Cond.methodLink RX2 63 yX2_areInConflict, Cond.instanceMethod yX2_areInConflict, Cond.selects RX2 yX2_areInConflict yX2_areInConflict, Cond.initialized RX2, Cond.code yX2_areInConflict cX2_areInConflict 5 (some .boolean), Cond.fieldLink RX2 15 "TriggerAnalyzer$Judge" "book" "LTriggerAnalyzer$RuleBook;", Cond.methodLink RX2 22 yX5_ruleOrNull, Cond.instanceMethod yX5_ruleOrNull, Cond.selects RX5 yX5_ruleOrNull yX5_ruleOrNull, Cond.initialized RX5, Cond.code yX5_ruleOrNull cX5_ruleOrNull 2 (some (.object "TriggerAnalyzer$Rule")), Cond.fieldLink RX5 24 "TriggerAnalyzer$RuleBook" "count" "I", Cond.fieldLink RX5 11 "TriggerAnalyzer$RuleBook" "rules" "[LTriggerAnalyzer$Rule;", Cond.methodLink RX2 55 yX4_isOver, Cond.instanceMethod yX4_isOver, Cond.selects RX4 yX4_isOver yX4_isOver, Cond.initialized RX4, Cond.code yX4_isOver cX4_isOver 2 (some .boolean), Cond.fieldLink RX4 28 "TriggerAnalyzer$Rule" "below" "I", Cond.fieldLink RX4 15 "TriggerAnalyzer$Rule" "bit" "I", Cond.methodLink RX2 59 yX2_areIndependent, Cond.instanceMethod yX2_areIndependent, Cond.selects RX2 yX2_areIndependent yX2_areIndependent, Cond.code yX2_areIndependent cX2_areIndependent 4 (some .boolean)]
def wsX2_conflictAt_r2 : List Cond := [Cond.fieldLink RX2 32 "TriggerAnalyzer$Rule" "on" "Z", Cond.fieldLink RX2 38 "TriggerAnalyzer$Rule" "bit" "I", Cond.fieldLink RX2 49 "TriggerAnalyzer$Rule" "setFacts" "I", Cond.fieldLink RX2 52 "TriggerAnalyzer$Rule" "unsetFacts" "I", Cond.methodLink RX2 28 yX5_triggerableBy, Cond.instanceMethod yX5_triggerableBy, Cond.selects RX5 yX5_triggerableBy yX5_triggerableBy, Cond.code yX5_triggerableBy cX5_triggerableBy 4 (some .int), Cond.fieldLink RX5 41 "TriggerAnalyzer$Rule" "on" "Z", Cond.fieldLink RX5 75 "TriggerAnalyzer$Rule" "actionCount" "I", Cond.methodLink RX5 78 yX4_actionAt, Cond.instanceMethod yX4_actionAt, Cond.selects RX4 yX4_actionAt yX4_actionAt, Cond.code yX4_actionAt cX4_actionAt 2 (some .int), Cond.fieldLink RX4 9 "TriggerAnalyzer$Rule" "actions" "[I", Cond.methodLink RX5 58 yX5_listenersTo, Cond.instanceMethod yX5_listenersTo, Cond.selects RX5 yX5_listenersTo yX5_listenersTo, Cond.code yX5_listenersTo cX5_listenersTo 2 (some .int), Cond.fieldLink RX5 17 "TriggerAnalyzer$RuleBook" "listeners" "[I", Cond.methodLink RX2 42 yX4_changedFacts, Cond.instanceMethod yX4_changedFacts, Cond.selects RX4 yX4_changedFacts yX4_changedFacts, Cond.code yX4_changedFacts cX4_changedFacts 1 (some .int)]
def wsX2_conflictAt_r3 : List Cond := [Cond.fieldLink RX4 22 "TriggerAnalyzer$Rule" "setFacts" "I", Cond.fieldLink RX4 25 "TriggerAnalyzer$Rule" "unsetFacts" "I", Cond.methodLink RX2 46 yX4_conditionFacts, Cond.instanceMethod yX4_conditionFacts, Cond.selects RX4 yX4_conditionFacts yX4_conditionFacts, Cond.code yX4_conditionFacts cX4_conditionFacts 1 (some .int), Cond.fieldLink RX4 41 "TriggerAnalyzer$Rule" "must" "I", Cond.fieldLink RX4 44 "TriggerAnalyzer$Rule" "mustNot" "I"]
def wsX2_conflictAt : List Cond := .code yX2_conflictAt cX2_conflictAt 5 (some .int) :: ((wsX2_conflictAt_r1 ++ (wsX2_conflictAt_r2 ++ wsX2_conflictAt_r3)) ++ wsX20 ++ wsX50 ++ wsX40)
def wsX3_isFinite : List Cond := .code yX3_isFinite cX3_isFinite 1 (some .boolean) :: ([.fieldLink RX3 25 "TriggerAnalyzer$Prospect" "finite" "Z"] ++ wsX30)
def wsX3_mostPlays : List Cond := .code yX3_mostPlays cX3_mostPlays 1 (some .int) :: ([.fieldLink RX3 25 "TriggerAnalyzer$Prospect" "finite" "Z", .fieldLink RX3 29 "TriggerAnalyzer$Prospect" "longestRow" "I"] ++ wsX30)
def wsX3_wayCount : List Cond := .code yX3_wayCount cX3_wayCount 1 (some .long) :: ([.fieldLink RX3 25 "TriggerAnalyzer$Prospect" "finite" "Z", .fieldLink RX3 33 "TriggerAnalyzer$Prospect" "endedRows" "J", .constantLong RX3 37 (-1)] ++ wsX30)
def wsX4_init : List Cond := .code yX4_init cX4_init 2 none :: ([.methodLink RX4 3 objectInit, .instanceMethod objectInit, .code objectInit ⟨#[0xb1]⟩ 1 none, .arrayClass .int, .fieldLink RX4 9 "TriggerAnalyzer$Rule" "actions" "[I", .fieldLink RX4 15 "TriggerAnalyzer$Rule" "bit" "I"] ++ wsX40)
def wsX4_isFull : List Cond := .code yX4_isFull cX4_isFull 1 (some .boolean) :: ([.fieldLink RX4 19 "TriggerAnalyzer$Rule" "actionCount" "I", .fieldLink RX4 9 "TriggerAnalyzer$Rule" "actions" "[I"] ++ wsX40)
def wsX4_append : List Cond := .code yX4_append cX4_append 3 none :: ([.fieldLink RX4 19 "TriggerAnalyzer$Rule" "actionCount" "I", .fieldLink RX4 9 "TriggerAnalyzer$Rule" "actions" "[I", .fieldLink RX4 22 "TriggerAnalyzer$Rule" "setFacts" "I", .fieldLink RX4 25 "TriggerAnalyzer$Rule" "unsetFacts" "I"] ++ wsX40)
def wsX4_addedTo : List Cond := .code yX4_addedTo cX4_addedTo 6 (some .long) :: ([.constantLong RX4 47 (31), .fieldLink RX4 49 "TriggerAnalyzer$Rule" "event" "I", .fieldLink RX4 41 "TriggerAnalyzer$Rule" "must" "I", .fieldLink RX4 44 "TriggerAnalyzer$Rule" "mustNot" "I", .fieldLink RX4 19 "TriggerAnalyzer$Rule" "actionCount" "I", .fieldLink RX4 55 "TriggerAnalyzer$Rule" "on" "Z", .fieldLink RX4 28 "TriggerAnalyzer$Rule" "below" "I", .methodLink RX4 52 yX4_actionAt, .instanceMethod yX4_actionAt, .selects RX4 yX4_actionAt yX4_actionAt, .initialized RX4, .code yX4_actionAt cX4_actionAt 2 (some .int), .fieldLink RX4 9 "TriggerAnalyzer$Rule" "actions" "[I"] ++ wsX40)
def wsX5_init : List Cond := .code yX5_init cX5_init 2 none :: ([.methodLink RX5 3 objectInit, .instanceMethod objectInit, .code objectInit ⟨#[0xb1]⟩ 1 none, .classLink RX5 9 RX4, .fieldLink RX5 11 "TriggerAnalyzer$RuleBook" "rules" "[LTriggerAnalyzer$Rule;", .arrayClass .int, .fieldLink RX5 17 "TriggerAnalyzer$RuleBook" "listeners" "[I", .instantiable RX4 11, .initialized RX4, .methodLink RX5 21 yX4_init, .instanceMethod yX4_init, .code yX4_init cX4_init 2 none, .methodLink RX4 3 objectInit, .fieldLink RX4 9 "TriggerAnalyzer$Rule" "actions" "[I", .fieldLink RX4 15 "TriggerAnalyzer$Rule" "bit" "I"] ++ wsX50 ++ wsX40)
def wsX5_size : List Cond := .code yX5_size cX5_size 1 (some .int) :: ([.fieldLink RX5 24 "TriggerAnalyzer$RuleBook" "count" "I"] ++ wsX50)
def wsX5_isFull : List Cond := .code yX5_isFull cX5_isFull 1 (some .boolean) :: ([.fieldLink RX5 24 "TriggerAnalyzer$RuleBook" "count" "I", .fieldLink RX5 11 "TriggerAnalyzer$RuleBook" "rules" "[LTriggerAnalyzer$Rule;"] ++ wsX50)
def wsX5_switchRule : List Cond := .code yX5_switchRule cX5_switchRule 4 none :: ([.fieldLink RX5 41 "TriggerAnalyzer$Rule" "on" "Z", .fieldLink RX5 28 "TriggerAnalyzer$Rule" "event" "I", .fieldLink RX5 17 "TriggerAnalyzer$RuleBook" "listeners" "[I", .fieldLink RX5 45 "TriggerAnalyzer$Rule" "bit" "I"] ++ wsX40 ++ wsX50)
def wsX5_append : List Cond := .code yX5_append cX5_append 6 (some .int) :: ([.fieldLink RX5 24 "TriggerAnalyzer$RuleBook" "count" "I", .fieldLink RX5 11 "TriggerAnalyzer$RuleBook" "rules" "[LTriggerAnalyzer$Rule;", .fieldLink RX5 28 "TriggerAnalyzer$Rule" "event" "I", .fieldLink RX5 31 "TriggerAnalyzer$Rule" "must" "I", .fieldLink RX5 34 "TriggerAnalyzer$Rule" "mustNot" "I", .methodLink RX5 37 yX5_switchRule, .instanceMethod yX5_switchRule, .selects RX5 yX5_switchRule yX5_switchRule, .initialized RX5, .code yX5_switchRule cX5_switchRule 4 none, .fieldLink RX5 41 "TriggerAnalyzer$Rule" "on" "Z", .fieldLink RX5 17 "TriggerAnalyzer$RuleBook" "listeners" "[I", .fieldLink RX5 45 "TriggerAnalyzer$Rule" "bit" "I"] ++ wsX50 ++ wsX40)
def wsX5_order : List Cond := .code yX5_order cX5_order 7 none :: ([.fieldLink RX5 48 "TriggerAnalyzer$Rule" "above" "I", .fieldLink RX5 45 "TriggerAnalyzer$Rule" "bit" "I", .fieldLink RX5 51 "TriggerAnalyzer$Rule" "below" "I", .fieldLink RX5 11 "TriggerAnalyzer$RuleBook" "rules" "[LTriggerAnalyzer$Rule;"] ++ wsX40 ++ wsX50)
def wsX5_firstReadyIn : List Cond := .code yX5_firstReadyIn cX5_firstReadyIn 3 (some (.object "TriggerAnalyzer$Rule")) :: ([.fieldLink RX5 11 "TriggerAnalyzer$RuleBook" "rules" "[LTriggerAnalyzer$Rule;", .methodLink RX5 68 yX4_isReadyIn, .instanceMethod yX4_isReadyIn, .selects RX4 yX4_isReadyIn yX4_isReadyIn, .initialized RX4, .code yX4_isReadyIn cX4_isReadyIn 3 (some .boolean), .fieldLink RX4 15 "TriggerAnalyzer$Rule" "bit" "I", .fieldLink RX4 35 "TriggerAnalyzer$Rule" "above" "I", .static yX6_triggeredIn, .initialized RX6, .code yX6_triggeredIn cX6_triggeredIn 1 (some .int)] ++ wsX50 ++ wsX40)
def wsX5_addedTo : List Cond := .code yX5_addedTo cX5_addedTo 6 (some .long) :: ([.constantLong RX5 84 (31), .fieldLink RX5 24 "TriggerAnalyzer$RuleBook" "count" "I", .fieldLink RX5 11 "TriggerAnalyzer$RuleBook" "rules" "[LTriggerAnalyzer$Rule;", .methodLink RX5 86 yX4_addedTo, .instanceMethod yX4_addedTo, .selects RX4 yX4_addedTo yX4_addedTo, .initialized RX4, .code yX4_addedTo cX4_addedTo 6 (some .long), .constantLong RX4 47 (31), .fieldLink RX4 49 "TriggerAnalyzer$Rule" "event" "I", .fieldLink RX4 41 "TriggerAnalyzer$Rule" "must" "I", .fieldLink RX4 44 "TriggerAnalyzer$Rule" "mustNot" "I", .fieldLink RX4 19 "TriggerAnalyzer$Rule" "actionCount" "I", .fieldLink RX4 55 "TriggerAnalyzer$Rule" "on" "Z", .fieldLink RX4 28 "TriggerAnalyzer$Rule" "below" "I", .methodLink RX4 52 yX4_actionAt, .instanceMethod yX4_actionAt, .selects RX4 yX4_actionAt yX4_actionAt, .code yX4_actionAt cX4_actionAt 2 (some .int), .fieldLink RX4 9 "TriggerAnalyzer$Rule" "actions" "[I"] ++ wsX50 ++ wsX40)
def wsX6_init_r1 : List Cond := [Cond.methodLink RX6 1 objectInit, Cond.instanceMethod objectInit, Cond.code objectInit ⟨#[0xb1]⟩ 1 none, Cond.classLink RX6 7 RX5, Cond.instantiable RX5 3, Cond.initialized RX5, Cond.fieldLink RX6 10 "TriggerAnalyzer" "book" "LTriggerAnalyzer$RuleBook;", Cond.classLink RX6 16 RX2, Cond.instantiable RX2 2, Cond.initialized RX2, Cond.fieldLink RX6 21 "TriggerAnalyzer" "judge" "LTriggerAnalyzer$Judge;", Cond.classLink RX6 25 RX1, Cond.instantiable RX1 12, Cond.initialized RX1, Cond.fieldLink RX6 28 "TriggerAnalyzer" "exploration" "LTriggerAnalyzer$Exploration;", Cond.methodLink RX6 9 yX5_init, Cond.instanceMethod yX5_init, Cond.code yX5_init cX5_init 2 none, Cond.methodLink RX5 3 objectInit, Cond.classLink RX5 9 RX4, Cond.fieldLink RX5 11 "TriggerAnalyzer$RuleBook" "rules" "[LTriggerAnalyzer$Rule;", Cond.arrayClass .int, Cond.fieldLink RX5 17 "TriggerAnalyzer$RuleBook" "listeners" "[I", Cond.instantiable RX4 11]
def wsX6_init_r2 : List Cond := [Cond.initialized RX4, Cond.methodLink RX5 21 yX4_init, Cond.instanceMethod yX4_init, Cond.code yX4_init cX4_init 2 none, Cond.methodLink RX4 3 objectInit, Cond.fieldLink RX4 9 "TriggerAnalyzer$Rule" "actions" "[I", Cond.fieldLink RX4 15 "TriggerAnalyzer$Rule" "bit" "I", Cond.methodLink RX6 18 yX2_init, Cond.instanceMethod yX2_init, Cond.code yX2_init cX2_init 2 none, Cond.methodLink RX2 3 objectInit, Cond.fieldLink RX2 9 "TriggerAnalyzer$Judge" "reach" "[I", Cond.fieldLink RX2 15 "TriggerAnalyzer$Judge" "book" "LTriggerAnalyzer$RuleBook;", Cond.methodLink RX6 27 yX1_init, Cond.instanceMethod yX1_init, Cond.code yX1_init cX1_init 2 none, Cond.methodLink RX1 3 objectInit, Cond.fieldLink RX1 9 "TriggerAnalyzer$Exploration" "situations" "[I", Cond.fieldLink RX1 15 "TriggerAnalyzer$Exploration" "depths" "[I", Cond.fieldLink RX1 18 "TriggerAnalyzer$Exploration" "nexts" "[I", Cond.fieldLink RX1 21 "TriggerAnalyzer$Exploration" "places" "[I", Cond.classLink RX1 24 RX0, Cond.instantiable RX0 3, Cond.initialized RX0]
def wsX6_init_r3 : List Cond := [Cond.fieldLink RX1 27 "TriggerAnalyzer$Exploration" "ends" "LTriggerAnalyzer$Ends;", Cond.classLink RX1 31 RX3, Cond.instantiable RX3 8, Cond.initialized RX3, Cond.fieldLink RX1 34 "TriggerAnalyzer$Exploration" "prospect" "LTriggerAnalyzer$Prospect;", Cond.fieldLink RX1 38 "TriggerAnalyzer$Exploration" "book" "LTriggerAnalyzer$RuleBook;", Cond.methodLink RX1 26 yX0_init, Cond.instanceMethod yX0_init, Cond.code yX0_init cX0_init 1 none, Cond.methodLink RX0 3 objectInit, Cond.fieldLink RX0 9 "TriggerAnalyzer$Ends" "facts" "[I", Cond.fieldLink RX0 15 "TriggerAnalyzer$Ends" "nearest" "I", Cond.methodLink RX1 33 yX3_init, Cond.instanceMethod yX3_init, Cond.code yX3_init cX3_init 1 none, Cond.methodLink RX3 3 objectInit, Cond.fieldLink RX3 9 "TriggerAnalyzer$Prospect" "incoming" "[I", Cond.fieldLink RX3 15 "TriggerAnalyzer$Prospect" "plays" "[I", Cond.arrayClass .long, Cond.fieldLink RX3 18 "TriggerAnalyzer$Prospect" "rows" "[J", Cond.fieldLink RX3 22 "TriggerAnalyzer$Prospect" "queue" "[I"]
def wsX6_init : List Cond := .code yX6_init cX6_init 1 none :: ((wsX6_init_r1 ++ (wsX6_init_r2 ++ wsX6_init_r3)) ++ wsX50 ++ wsX60 ++ wsX20 ++ wsX10 ++ wsX40 ++ wsX00 ++ wsX30)
def wsX6_needFact : List Cond := .code yX6_needFact cX6_needFact 1 none :: ([.classLink RX6 179 "java/lang/IndexOutOfBoundsException", .initialized "java/lang/IndexOutOfBoundsException"] ++ (vx_atS RX6 183 "java/lang/IndexOutOfBoundsException" ["java/lang/RuntimeException", "java/lang/Exception"]).filter goodWord)
def wsX6_needFactSet : List Cond := .code yX6_needFactSet cX6_needFactSet 1 none :: ([.classLink RX6 105 "java/lang/IllegalArgumentException", .initialized "java/lang/IllegalArgumentException"] ++ (vx_atS RX6 109 "java/lang/IllegalArgumentException" ["java/lang/RuntimeException", "java/lang/Exception"]).filter goodWord)
def wsX6_changeCode : List Cond := .code yX6_changeCode cX6_changeCode 2 (some .int) :: ([])
def wsX6_addRule_r1 : List Cond := [Cond.classLink RX6 43 "java/lang/IllegalStateException", Cond.initialized "java/lang/IllegalStateException", Cond.fieldLink RX6 10 "TriggerAnalyzer" "book" "LTriggerAnalyzer$RuleBook;", Cond.fieldLink RX6 28 "TriggerAnalyzer" "exploration" "LTriggerAnalyzer$Exploration;", Cond.methodLink RX6 32 yX6_needFact, Cond.static yX6_needFact, Cond.initialized RX6, Cond.code yX6_needFact cX6_needFact 1 none, Cond.classLink RX6 179 "java/lang/IndexOutOfBoundsException", Cond.initialized "java/lang/IndexOutOfBoundsException", Cond.methodLink RX6 36 yX6_needFactSet, Cond.static yX6_needFactSet, Cond.code yX6_needFactSet cX6_needFactSet 1 none, Cond.classLink RX6 105 "java/lang/IllegalArgumentException", Cond.initialized "java/lang/IllegalArgumentException", Cond.methodLink RX6 39 yX5_isFull, Cond.instanceMethod yX5_isFull, Cond.selects RX5 yX5_isFull yX5_isFull, Cond.initialized RX5, Cond.code yX5_isFull cX5_isFull 1 (some .boolean), Cond.fieldLink RX5 24 "TriggerAnalyzer$RuleBook" "count" "I", Cond.fieldLink RX5 11 "TriggerAnalyzer$RuleBook" "rules" "[LTriggerAnalyzer$Rule;", Cond.methodLink RX6 50 yX1_forget, Cond.instanceMethod yX1_forget]
def wsX6_addRule_r2 : List Cond := [Cond.selects RX1 yX1_forget yX1_forget, Cond.initialized RX1, Cond.code yX1_forget cX1_forget 1 none, Cond.fieldLink RX1 42 "TriggerAnalyzer$Exploration" "done" "Z", Cond.methodLink RX6 53 yX6_changeCode, Cond.static yX6_changeCode, Cond.code yX6_changeCode cX6_changeCode 2 (some .int), Cond.methodLink RX6 57 yX5_append, Cond.instanceMethod yX5_append, Cond.selects RX5 yX5_append yX5_append, Cond.code yX5_append cX5_append 6 (some .int), Cond.fieldLink RX5 28 "TriggerAnalyzer$Rule" "event" "I", Cond.fieldLink RX5 31 "TriggerAnalyzer$Rule" "must" "I", Cond.fieldLink RX5 34 "TriggerAnalyzer$Rule" "mustNot" "I", Cond.methodLink RX5 37 yX5_switchRule, Cond.instanceMethod yX5_switchRule, Cond.selects RX5 yX5_switchRule yX5_switchRule, Cond.code yX5_switchRule cX5_switchRule 4 none, Cond.fieldLink RX5 41 "TriggerAnalyzer$Rule" "on" "Z", Cond.fieldLink RX5 17 "TriggerAnalyzer$RuleBook" "listeners" "[I", Cond.fieldLink RX5 45 "TriggerAnalyzer$Rule" "bit" "I"]
def wsX6_addRule : List Cond := .code yX6_addRule cX6_addRule 5 (some .int) :: ((wsX6_addRule_r1 ++ wsX6_addRule_r2) ++ wsX60 ++ wsX50 ++ wsX10 ++ wsX40 ++ (vx_atS RX6 47 "java/lang/IllegalStateException" ["java/lang/RuntimeException", "java/lang/Exception"]).filter goodWord ++ (vx_atS RX6 183 "java/lang/IndexOutOfBoundsException" ["java/lang/RuntimeException", "java/lang/Exception"]).filter goodWord ++ (vx_atS RX6 109 "java/lang/IllegalArgumentException" ["java/lang/RuntimeException", "java/lang/Exception"]).filter goodWord)
def wsX6_ruleAt : List Cond := .code yX6_ruleAt cX6_ruleAt 3 (some (.object "TriggerAnalyzer$Rule")) :: ([.classLink RX6 179 "java/lang/IndexOutOfBoundsException", .initialized "java/lang/IndexOutOfBoundsException", .fieldLink RX6 10 "TriggerAnalyzer" "book" "LTriggerAnalyzer$RuleBook;", .methodLink RX6 230 yX5_ruleOrNull, .instanceMethod yX5_ruleOrNull, .selects RX5 yX5_ruleOrNull yX5_ruleOrNull, .initialized RX5, .code yX5_ruleOrNull cX5_ruleOrNull 2 (some (.object "TriggerAnalyzer$Rule")), .fieldLink RX5 24 "TriggerAnalyzer$RuleBook" "count" "I", .fieldLink RX5 11 "TriggerAnalyzer$RuleBook" "rules" "[LTriggerAnalyzer$Rule;"] ++ wsX60 ++ wsX50 ++ (vx_atS RX6 183 "java/lang/IndexOutOfBoundsException" ["java/lang/RuntimeException", "java/lang/Exception"]).filter goodWord)
def wsX6_addAction_r1 : List Cond := [Cond.classLink RX6 43 "java/lang/IllegalStateException", Cond.initialized "java/lang/IllegalStateException", Cond.fieldLink RX6 28 "TriggerAnalyzer" "exploration" "LTriggerAnalyzer$Exploration;", Cond.fieldLink RX6 72 "TriggerAnalyzer$Rule" "actionCount" "I", Cond.methodLink RX6 61 yX6_ruleAt, Cond.instanceMethod yX6_ruleAt, Cond.selects RX6 yX6_ruleAt yX6_ruleAt, Cond.initialized RX6, Cond.code yX6_ruleAt cX6_ruleAt 3 (some (.object "TriggerAnalyzer$Rule")), Cond.classLink RX6 179 "java/lang/IndexOutOfBoundsException", Cond.initialized "java/lang/IndexOutOfBoundsException", Cond.fieldLink RX6 10 "TriggerAnalyzer" "book" "LTriggerAnalyzer$RuleBook;", Cond.methodLink RX6 230 yX5_ruleOrNull, Cond.instanceMethod yX5_ruleOrNull, Cond.selects RX5 yX5_ruleOrNull yX5_ruleOrNull, Cond.initialized RX5, Cond.code yX5_ruleOrNull cX5_ruleOrNull 2 (some (.object "TriggerAnalyzer$Rule")), Cond.fieldLink RX5 24 "TriggerAnalyzer$RuleBook" "count" "I", Cond.fieldLink RX5 11 "TriggerAnalyzer$RuleBook" "rules" "[LTriggerAnalyzer$Rule;", Cond.methodLink RX6 32 yX6_needFact, Cond.static yX6_needFact, Cond.code yX6_needFact cX6_needFact 1 none, Cond.methodLink RX6 65 yX4_isFull, Cond.instanceMethod yX4_isFull]
def wsX6_addAction_r2 : List Cond := [Cond.selects RX4 yX4_isFull yX4_isFull, Cond.initialized RX4, Cond.code yX4_isFull cX4_isFull 1 (some .boolean), Cond.fieldLink RX4 19 "TriggerAnalyzer$Rule" "actionCount" "I", Cond.fieldLink RX4 9 "TriggerAnalyzer$Rule" "actions" "[I", Cond.methodLink RX6 50 yX1_forget, Cond.instanceMethod yX1_forget, Cond.selects RX1 yX1_forget yX1_forget, Cond.initialized RX1, Cond.code yX1_forget cX1_forget 1 none, Cond.fieldLink RX1 42 "TriggerAnalyzer$Exploration" "done" "Z", Cond.methodLink RX6 53 yX6_changeCode, Cond.static yX6_changeCode, Cond.code yX6_changeCode cX6_changeCode 2 (some .int), Cond.methodLink RX6 70 yX4_append, Cond.instanceMethod yX4_append, Cond.selects RX4 yX4_append yX4_append, Cond.code yX4_append cX4_append 3 none, Cond.fieldLink RX4 22 "TriggerAnalyzer$Rule" "setFacts" "I", Cond.fieldLink RX4 25 "TriggerAnalyzer$Rule" "unsetFacts" "I"]
def wsX6_addAction : List Cond := .code yX6_addAction cX6_addAction 5 (some .int) :: ((wsX6_addAction_r1 ++ wsX6_addAction_r2) ++ wsX60 ++ wsX40 ++ wsX50 ++ wsX10 ++ (vx_atS RX6 47 "java/lang/IllegalStateException" ["java/lang/RuntimeException", "java/lang/Exception"]).filter goodWord ++ (vx_atS RX6 183 "java/lang/IndexOutOfBoundsException" ["java/lang/RuntimeException", "java/lang/Exception"]).filter goodWord)
def wsX6_turn_r1 : List Cond := [Cond.fieldLink RX6 76 "TriggerAnalyzer$Rule" "on" "Z", Cond.fieldLink RX6 28 "TriggerAnalyzer" "exploration" "LTriggerAnalyzer$Exploration;", Cond.fieldLink RX6 10 "TriggerAnalyzer" "book" "LTriggerAnalyzer$RuleBook;", Cond.fieldLink RX6 84 "TriggerAnalyzer" "present" "I", Cond.fieldLink RX6 94 "TriggerAnalyzer$Rule" "bit" "I", Cond.methodLink RX6 61 yX6_ruleAt, Cond.instanceMethod yX6_ruleAt, Cond.selects RX6 yX6_ruleAt yX6_ruleAt, Cond.initialized RX6, Cond.code yX6_ruleAt cX6_ruleAt 3 (some (.object "TriggerAnalyzer$Rule")), Cond.classLink RX6 179 "java/lang/IndexOutOfBoundsException", Cond.initialized "java/lang/IndexOutOfBoundsException", Cond.methodLink RX6 230 yX5_ruleOrNull, Cond.instanceMethod yX5_ruleOrNull, Cond.selects RX5 yX5_ruleOrNull yX5_ruleOrNull, Cond.initialized RX5, Cond.code yX5_ruleOrNull cX5_ruleOrNull 2 (some (.object "TriggerAnalyzer$Rule")), Cond.fieldLink RX5 24 "TriggerAnalyzer$RuleBook" "count" "I", Cond.fieldLink RX5 11 "TriggerAnalyzer$RuleBook" "rules" "[LTriggerAnalyzer$Rule;", Cond.methodLink RX6 50 yX1_forget, Cond.instanceMethod yX1_forget, Cond.selects RX1 yX1_forget yX1_forget, Cond.initialized RX1, Cond.code yX1_forget cX1_forget 1 none]
def wsX6_turn_r2 : List Cond := [Cond.fieldLink RX1 42 "TriggerAnalyzer$Exploration" "done" "Z", Cond.methodLink RX6 80 yX5_switchRule, Cond.instanceMethod yX5_switchRule, Cond.selects RX5 yX5_switchRule yX5_switchRule, Cond.code yX5_switchRule cX5_switchRule 4 none, Cond.fieldLink RX5 41 "TriggerAnalyzer$Rule" "on" "Z", Cond.fieldLink RX5 28 "TriggerAnalyzer$Rule" "event" "I", Cond.fieldLink RX5 17 "TriggerAnalyzer$RuleBook" "listeners" "[I", Cond.fieldLink RX5 45 "TriggerAnalyzer$Rule" "bit" "I", Cond.methodLink RX6 87 yX6_factsIn, Cond.static yX6_factsIn, Cond.code yX6_factsIn cX6_factsIn 1 (some .int), Cond.methodLink RX6 91 yX6_triggeredIn, Cond.static yX6_triggeredIn, Cond.code yX6_triggeredIn cX6_triggeredIn 1 (some .int), Cond.methodLink RX6 97 yX6_situationOf, Cond.static yX6_situationOf, Cond.code yX6_situationOf cX6_situationOf 2 (some .int)]
def wsX6_turn : List Cond := .code yX6_turn cX6_turn 5 (some .boolean) :: ((wsX6_turn_r1 ++ wsX6_turn_r2) ++ wsX40 ++ wsX60 ++ wsX50 ++ wsX10 ++ (vx_atS RX6 183 "java/lang/IndexOutOfBoundsException" ["java/lang/RuntimeException", "java/lang/Exception"]).filter goodWord)
def wsX6_rank_r1 : List Cond := [Cond.classLink RX6 105 "java/lang/IllegalArgumentException", Cond.initialized "java/lang/IllegalArgumentException", Cond.fieldLink RX6 28 "TriggerAnalyzer" "exploration" "LTriggerAnalyzer$Exploration;", Cond.fieldLink RX6 10 "TriggerAnalyzer" "book" "LTriggerAnalyzer$RuleBook;", Cond.methodLink RX6 61 yX6_ruleAt, Cond.instanceMethod yX6_ruleAt, Cond.selects RX6 yX6_ruleAt yX6_ruleAt, Cond.initialized RX6, Cond.code yX6_ruleAt cX6_ruleAt 3 (some (.object "TriggerAnalyzer$Rule")), Cond.classLink RX6 179 "java/lang/IndexOutOfBoundsException", Cond.initialized "java/lang/IndexOutOfBoundsException", Cond.methodLink RX6 230 yX5_ruleOrNull, Cond.instanceMethod yX5_ruleOrNull, Cond.selects RX5 yX5_ruleOrNull yX5_ruleOrNull, Cond.initialized RX5, Cond.code yX5_ruleOrNull cX5_ruleOrNull 2 (some (.object "TriggerAnalyzer$Rule")), Cond.fieldLink RX5 24 "TriggerAnalyzer$RuleBook" "count" "I", Cond.fieldLink RX5 11 "TriggerAnalyzer$RuleBook" "rules" "[LTriggerAnalyzer$Rule;", Cond.methodLink RX6 101 yX4_isOver, Cond.instanceMethod yX4_isOver, Cond.selects RX4 yX4_isOver yX4_isOver, Cond.initialized RX4, Cond.code yX4_isOver cX4_isOver 2 (some .boolean), Cond.fieldLink RX4 28 "TriggerAnalyzer$Rule" "below" "I"]
def wsX6_rank_r2 : List Cond := [Cond.fieldLink RX4 15 "TriggerAnalyzer$Rule" "bit" "I", Cond.methodLink RX6 50 yX1_forget, Cond.instanceMethod yX1_forget, Cond.selects RX1 yX1_forget yX1_forget, Cond.initialized RX1, Cond.code yX1_forget cX1_forget 1 none, Cond.fieldLink RX1 42 "TriggerAnalyzer$Exploration" "done" "Z", Cond.methodLink RX6 110 yX5_order, Cond.instanceMethod yX5_order, Cond.selects RX5 yX5_order yX5_order, Cond.code yX5_order cX5_order 7 none, Cond.fieldLink RX5 48 "TriggerAnalyzer$Rule" "above" "I", Cond.fieldLink RX5 45 "TriggerAnalyzer$Rule" "bit" "I", Cond.fieldLink RX5 51 "TriggerAnalyzer$Rule" "below" "I"]
def wsX6_rank : List Cond := .code yX6_rank cX6_rank 6 (some .boolean) :: ((wsX6_rank_r1 ++ wsX6_rank_r2) ++ wsX60 ++ wsX50 ++ wsX40 ++ wsX10 ++ (vx_atS RX6 109 "java/lang/IllegalArgumentException" ["java/lang/RuntimeException", "java/lang/Exception"]).filter goodWord ++ (vx_atS RX6 183 "java/lang/IndexOutOfBoundsException" ["java/lang/RuntimeException", "java/lang/Exception"]).filter goodWord)
def wsX6_isAbove : List Cond := .code yX6_isAbove cX6_isAbove 5 (some .boolean) :: ([.methodLink RX6 61 yX6_ruleAt, .instanceMethod yX6_ruleAt, .selects RX6 yX6_ruleAt yX6_ruleAt, .initialized RX6, .code yX6_ruleAt cX6_ruleAt 3 (some (.object "TriggerAnalyzer$Rule")), .classLink RX6 179 "java/lang/IndexOutOfBoundsException", .initialized "java/lang/IndexOutOfBoundsException", .fieldLink RX6 10 "TriggerAnalyzer" "book" "LTriggerAnalyzer$RuleBook;", .methodLink RX6 230 yX5_ruleOrNull, .instanceMethod yX5_ruleOrNull, .selects RX5 yX5_ruleOrNull yX5_ruleOrNull, .initialized RX5, .code yX5_ruleOrNull cX5_ruleOrNull 2 (some (.object "TriggerAnalyzer$Rule")), .fieldLink RX5 24 "TriggerAnalyzer$RuleBook" "count" "I", .fieldLink RX5 11 "TriggerAnalyzer$RuleBook" "rules" "[LTriggerAnalyzer$Rule;", .methodLink RX6 101 yX4_isOver, .instanceMethod yX4_isOver, .selects RX4 yX4_isOver yX4_isOver, .initialized RX4, .code yX4_isOver cX4_isOver 2 (some .boolean), .fieldLink RX4 28 "TriggerAnalyzer$Rule" "below" "I", .fieldLink RX4 15 "TriggerAnalyzer$Rule" "bit" "I"] ++ wsX60 ++ wsX50 ++ wsX40 ++ (vx_atS RX6 183 "java/lang/IndexOutOfBoundsException" ["java/lang/RuntimeException", "java/lang/Exception"]).filter goodWord)
def wsX6_ruleCount : List Cond := .code yX6_ruleCount cX6_ruleCount 1 (some .int) :: ([.fieldLink RX6 10 "TriggerAnalyzer" "book" "LTriggerAnalyzer$RuleBook;", .methodLink RX6 114 yX5_size, .instanceMethod yX5_size, .selects RX5 yX5_size yX5_size, .initialized RX5, .code yX5_size cX5_size 1 (some .int), .fieldLink RX5 24 "TriggerAnalyzer$RuleBook" "count" "I"] ++ wsX60 ++ wsX50)
def wsX6_put : List Cond := .code yX6_put cX6_put 3 (some .int) :: ([.fieldLink RX6 84 "TriggerAnalyzer" "present" "I", .fieldLink RX6 28 "TriggerAnalyzer" "exploration" "LTriggerAnalyzer$Exploration;", .methodLink RX6 36 yX6_needFactSet, .static yX6_needFactSet, .initialized RX6, .code yX6_needFactSet cX6_needFactSet 1 none, .classLink RX6 105 "java/lang/IllegalArgumentException", .initialized "java/lang/IllegalArgumentException", .methodLink RX6 87 yX6_factsIn, .static yX6_factsIn, .code yX6_factsIn cX6_factsIn 1 (some .int), .methodLink RX6 50 yX1_forget, .instanceMethod yX1_forget, .selects RX1 yX1_forget yX1_forget, .initialized RX1, .code yX1_forget cX1_forget 1 none, .fieldLink RX1 42 "TriggerAnalyzer$Exploration" "done" "Z", .methodLink RX6 97 yX6_situationOf, .static yX6_situationOf, .code yX6_situationOf cX6_situationOf 2 (some .int)] ++ wsX60 ++ wsX10 ++ (vx_atS RX6 109 "java/lang/IllegalArgumentException" ["java/lang/RuntimeException", "java/lang/Exception"]).filter goodWord)
def wsX6_change_r1 : List Cond := [Cond.fieldLink RX6 28 "TriggerAnalyzer" "exploration" "LTriggerAnalyzer$Exploration;", Cond.fieldLink RX6 10 "TriggerAnalyzer" "book" "LTriggerAnalyzer$RuleBook;", Cond.fieldLink RX6 84 "TriggerAnalyzer" "present" "I", Cond.methodLink RX6 32 yX6_needFact, Cond.static yX6_needFact, Cond.initialized RX6, Cond.code yX6_needFact cX6_needFact 1 none, Cond.classLink RX6 179 "java/lang/IndexOutOfBoundsException", Cond.initialized "java/lang/IndexOutOfBoundsException", Cond.methodLink RX6 50 yX1_forget, Cond.instanceMethod yX1_forget, Cond.selects RX1 yX1_forget yX1_forget, Cond.initialized RX1, Cond.code yX1_forget cX1_forget 1 none, Cond.fieldLink RX1 42 "TriggerAnalyzer$Exploration" "done" "Z", Cond.methodLink RX6 53 yX6_changeCode, Cond.static yX6_changeCode, Cond.code yX6_changeCode cX6_changeCode 2 (some .int), Cond.methodLink RX6 118 yX5_changed, Cond.instanceMethod yX5_changed, Cond.selects RX5 yX5_changed yX5_changed, Cond.initialized RX5, Cond.code yX5_changed cX5_changed 7 (some .int), Cond.static yX6_triggeredIn]
def wsX6_change_r2 : List Cond := [Cond.code yX6_triggeredIn cX6_triggeredIn 1 (some .int), Cond.methodLink RX5 58 yX5_listenersTo, Cond.instanceMethod yX5_listenersTo, Cond.selects RX5 yX5_listenersTo yX5_listenersTo, Cond.code yX5_listenersTo cX5_listenersTo 2 (some .int), Cond.fieldLink RX5 17 "TriggerAnalyzer$RuleBook" "listeners" "[I", Cond.static yX6_factsIn, Cond.code yX6_factsIn cX6_factsIn 1 (some .int), Cond.static yX6_situationOf, Cond.code yX6_situationOf cX6_situationOf 2 (some .int), Cond.methodLink RX6 91 yX6_triggeredIn]
def wsX6_change : List Cond := .code yX6_change cX6_change 3 (some .int) :: ((wsX6_change_r1 ++ wsX6_change_r2) ++ wsX60 ++ wsX10 ++ wsX50 ++ (vx_atS RX6 183 "java/lang/IndexOutOfBoundsException" ["java/lang/RuntimeException", "java/lang/Exception"]).filter goodWord)
def wsX6_facts : List Cond := .code yX6_facts cX6_facts 1 (some .int) :: ([.fieldLink RX6 84 "TriggerAnalyzer" "present" "I", .methodLink RX6 87 yX6_factsIn, .static yX6_factsIn, .initialized RX6, .code yX6_factsIn cX6_factsIn 1 (some .int)] ++ wsX60)
def wsX6_triggered : List Cond := .code yX6_triggered cX6_triggered 1 (some .int) :: ([.fieldLink RX6 84 "TriggerAnalyzer" "present" "I", .methodLink RX6 91 yX6_triggeredIn, .static yX6_triggeredIn, .initialized RX6, .code yX6_triggeredIn cX6_triggeredIn 1 (some .int)] ++ wsX60)
def wsX6_ready : List Cond := .code yX6_ready cX6_ready 1 (some .int) :: ([.fieldLink RX6 10 "TriggerAnalyzer" "book" "LTriggerAnalyzer$RuleBook;", .fieldLink RX6 84 "TriggerAnalyzer" "present" "I", .methodLink RX6 121 yX5_readyIn, .instanceMethod yX5_readyIn, .selects RX5 yX5_readyIn yX5_readyIn, .initialized RX5, .code yX5_readyIn cX5_readyIn 4 (some .int), .fieldLink RX5 11 "TriggerAnalyzer$RuleBook" "rules" "[LTriggerAnalyzer$Rule;", .fieldLink RX5 45 "TriggerAnalyzer$Rule" "bit" "I", .methodLink RX5 68 yX4_isReadyIn, .instanceMethod yX4_isReadyIn, .selects RX4 yX4_isReadyIn yX4_isReadyIn, .initialized RX4, .code yX4_isReadyIn cX4_isReadyIn 3 (some .boolean), .fieldLink RX4 15 "TriggerAnalyzer$Rule" "bit" "I", .fieldLink RX4 35 "TriggerAnalyzer$Rule" "above" "I", .static yX6_triggeredIn, .initialized RX6, .code yX6_triggeredIn cX6_triggeredIn 1 (some .int)] ++ wsX60 ++ wsX50 ++ wsX40)
def wsX6_play_r1 : List Cond := [Cond.classLink RX6 43 "java/lang/IllegalStateException", Cond.initialized "java/lang/IllegalStateException", Cond.fieldLink RX6 84 "TriggerAnalyzer" "present" "I", Cond.fieldLink RX6 28 "TriggerAnalyzer" "exploration" "LTriggerAnalyzer$Exploration;", Cond.fieldLink RX6 10 "TriggerAnalyzer" "book" "LTriggerAnalyzer$RuleBook;", Cond.methodLink RX6 61 yX6_ruleAt, Cond.instanceMethod yX6_ruleAt, Cond.selects RX6 yX6_ruleAt yX6_ruleAt, Cond.initialized RX6, Cond.code yX6_ruleAt cX6_ruleAt 3 (some (.object "TriggerAnalyzer$Rule")), Cond.classLink RX6 179 "java/lang/IndexOutOfBoundsException", Cond.initialized "java/lang/IndexOutOfBoundsException", Cond.methodLink RX6 230 yX5_ruleOrNull, Cond.instanceMethod yX5_ruleOrNull, Cond.selects RX5 yX5_ruleOrNull yX5_ruleOrNull, Cond.initialized RX5, Cond.code yX5_ruleOrNull cX5_ruleOrNull 2 (some (.object "TriggerAnalyzer$Rule")), Cond.fieldLink RX5 24 "TriggerAnalyzer$RuleBook" "count" "I", Cond.fieldLink RX5 11 "TriggerAnalyzer$RuleBook" "rules" "[LTriggerAnalyzer$Rule;", Cond.methodLink RX6 124 yX4_isReadyIn, Cond.instanceMethod yX4_isReadyIn, Cond.selects RX4 yX4_isReadyIn yX4_isReadyIn, Cond.initialized RX4, Cond.code yX4_isReadyIn cX4_isReadyIn 3 (some .boolean)]
def wsX6_play_r2 : List Cond := [Cond.fieldLink RX4 15 "TriggerAnalyzer$Rule" "bit" "I", Cond.fieldLink RX4 35 "TriggerAnalyzer$Rule" "above" "I", Cond.static yX6_triggeredIn, Cond.code yX6_triggeredIn cX6_triggeredIn 1 (some .int), Cond.methodLink RX6 130 yX4_holdsIn, Cond.instanceMethod yX4_holdsIn, Cond.selects RX4 yX4_holdsIn yX4_holdsIn, Cond.code yX4_holdsIn cX4_holdsIn 3 (some .boolean), Cond.fieldLink RX4 41 "TriggerAnalyzer$Rule" "must" "I", Cond.fieldLink RX4 44 "TriggerAnalyzer$Rule" "mustNot" "I", Cond.static yX6_factsIn, Cond.code yX6_factsIn cX6_factsIn 1 (some .int), Cond.methodLink RX6 50 yX1_forget, Cond.instanceMethod yX1_forget, Cond.selects RX1 yX1_forget yX1_forget, Cond.initialized RX1, Cond.code yX1_forget cX1_forget 1 none, Cond.fieldLink RX1 42 "TriggerAnalyzer$Exploration" "done" "Z", Cond.methodLink RX6 133 yX5_played, Cond.instanceMethod yX5_played, Cond.selects RX5 yX5_played yX5_played, Cond.code yX5_played cX5_played 5 (some .int), Cond.fieldLink RX5 45 "TriggerAnalyzer$Rule" "bit" "I", Cond.fieldLink RX5 75 "TriggerAnalyzer$Rule" "actionCount" "I"]
def wsX6_play_r3 : List Cond := [Cond.static yX6_situationOf, Cond.code yX6_situationOf cX6_situationOf 2 (some .int), Cond.methodLink RX5 72 yX4_holdsIn, Cond.methodLink RX5 78 yX4_actionAt, Cond.instanceMethod yX4_actionAt, Cond.selects RX4 yX4_actionAt yX4_actionAt, Cond.code yX4_actionAt cX4_actionAt 2 (some .int), Cond.fieldLink RX4 9 "TriggerAnalyzer$Rule" "actions" "[I", Cond.methodLink RX5 81 yX5_changed, Cond.instanceMethod yX5_changed, Cond.selects RX5 yX5_changed yX5_changed, Cond.code yX5_changed cX5_changed 7 (some .int), Cond.methodLink RX5 58 yX5_listenersTo, Cond.instanceMethod yX5_listenersTo, Cond.selects RX5 yX5_listenersTo yX5_listenersTo, Cond.code yX5_listenersTo cX5_listenersTo 2 (some .int), Cond.fieldLink RX5 17 "TriggerAnalyzer$RuleBook" "listeners" "[I"]
def wsX6_play : List Cond := .code yX6_play cX6_play 4 (some .boolean) :: ((wsX6_play_r1 ++ (wsX6_play_r2 ++ wsX6_play_r3)) ++ wsX60 ++ wsX50 ++ wsX40 ++ wsX10 ++ (vx_atS RX6 47 "java/lang/IllegalStateException" ["java/lang/RuntimeException", "java/lang/Exception"]).filter goodWord ++ (vx_atS RX6 183 "java/lang/IndexOutOfBoundsException" ["java/lang/RuntimeException", "java/lang/Exception"]).filter goodWord)
def wsX6_run_r1 : List Cond := [Cond.classLink RX6 105 "java/lang/IllegalArgumentException", Cond.initialized "java/lang/IllegalArgumentException", Cond.fieldLink RX6 28 "TriggerAnalyzer" "exploration" "LTriggerAnalyzer$Exploration;", Cond.fieldLink RX6 10 "TriggerAnalyzer" "book" "LTriggerAnalyzer$RuleBook;", Cond.fieldLink RX6 84 "TriggerAnalyzer" "present" "I", Cond.methodLink RX6 50 yX1_forget, Cond.instanceMethod yX1_forget, Cond.selects RX1 yX1_forget yX1_forget, Cond.initialized RX1, Cond.code yX1_forget cX1_forget 1 none, Cond.fieldLink RX1 42 "TriggerAnalyzer$Exploration" "done" "Z", Cond.methodLink RX6 139 yX5_firstReadyIn, Cond.instanceMethod yX5_firstReadyIn, Cond.selects RX5 yX5_firstReadyIn yX5_firstReadyIn, Cond.initialized RX5, Cond.code yX5_firstReadyIn cX5_firstReadyIn 3 (some (.object "TriggerAnalyzer$Rule")), Cond.fieldLink RX5 11 "TriggerAnalyzer$RuleBook" "rules" "[LTriggerAnalyzer$Rule;", Cond.methodLink RX5 68 yX4_isReadyIn, Cond.instanceMethod yX4_isReadyIn, Cond.selects RX4 yX4_isReadyIn yX4_isReadyIn, Cond.initialized RX4, Cond.code yX4_isReadyIn cX4_isReadyIn 3 (some .boolean), Cond.fieldLink RX4 15 "TriggerAnalyzer$Rule" "bit" "I", Cond.fieldLink RX4 35 "TriggerAnalyzer$Rule" "above" "I"]
def wsX6_run_r2 : List Cond := [Cond.static yX6_triggeredIn, Cond.initialized RX6, Cond.code yX6_triggeredIn cX6_triggeredIn 1 (some .int), Cond.methodLink RX6 133 yX5_played, Cond.instanceMethod yX5_played, Cond.selects RX5 yX5_played yX5_played, Cond.code yX5_played cX5_played 5 (some .int), Cond.fieldLink RX5 45 "TriggerAnalyzer$Rule" "bit" "I", Cond.fieldLink RX5 75 "TriggerAnalyzer$Rule" "actionCount" "I", Cond.static yX6_factsIn, Cond.code yX6_factsIn cX6_factsIn 1 (some .int), Cond.static yX6_situationOf, Cond.code yX6_situationOf cX6_situationOf 2 (some .int), Cond.methodLink RX5 72 yX4_holdsIn, Cond.instanceMethod yX4_holdsIn, Cond.selects RX4 yX4_holdsIn yX4_holdsIn, Cond.code yX4_holdsIn cX4_holdsIn 3 (some .boolean), Cond.fieldLink RX4 41 "TriggerAnalyzer$Rule" "must" "I", Cond.fieldLink RX4 44 "TriggerAnalyzer$Rule" "mustNot" "I", Cond.methodLink RX5 78 yX4_actionAt, Cond.instanceMethod yX4_actionAt, Cond.selects RX4 yX4_actionAt yX4_actionAt, Cond.code yX4_actionAt cX4_actionAt 2 (some .int), Cond.fieldLink RX4 9 "TriggerAnalyzer$Rule" "actions" "[I"]
def wsX6_run_r3 : List Cond := [Cond.methodLink RX5 81 yX5_changed, Cond.instanceMethod yX5_changed, Cond.selects RX5 yX5_changed yX5_changed, Cond.code yX5_changed cX5_changed 7 (some .int), Cond.methodLink RX5 58 yX5_listenersTo, Cond.instanceMethod yX5_listenersTo, Cond.selects RX5 yX5_listenersTo yX5_listenersTo, Cond.code yX5_listenersTo cX5_listenersTo 2 (some .int), Cond.fieldLink RX5 17 "TriggerAnalyzer$RuleBook" "listeners" "[I"]
def wsX6_run : List Cond := .code yX6_run cX6_run 4 (some .int) :: ((wsX6_run_r1 ++ (wsX6_run_r2 ++ wsX6_run_r3)) ++ wsX60 ++ wsX10 ++ wsX50 ++ wsX40 ++ (vx_atS RX6 109 "java/lang/IllegalArgumentException" ["java/lang/RuntimeException", "java/lang/Exception"]).filter goodWord)
def wsX6_explore_r1 : List Cond := [Cond.fieldLink RX6 28 "TriggerAnalyzer" "exploration" "LTriggerAnalyzer$Exploration;", Cond.fieldLink RX6 84 "TriggerAnalyzer" "present" "I", Cond.methodLink RX6 142 yX1_isDone, Cond.instanceMethod yX1_isDone, Cond.selects RX1 yX1_isDone yX1_isDone, Cond.initialized RX1, Cond.code yX1_isDone cX1_isDone 1 (some .boolean), Cond.fieldLink RX1 42 "TriggerAnalyzer$Exploration" "done" "Z", Cond.methodLink RX6 145 yX1_search, Cond.instanceMethod yX1_search, Cond.selects RX1 yX1_search yX1_search, Cond.code yX1_search cX1_search 3 none, Cond.fieldLink RX1 49 "TriggerAnalyzer$Exploration" "count" "I", Cond.fieldLink RX1 46 "TriggerAnalyzer$Exploration" "tooMany" "Z", Cond.fieldLink RX1 34 "TriggerAnalyzer$Exploration" "prospect" "LTriggerAnalyzer$Prospect;", Cond.methodLink RX1 59 yX1_clear, Cond.instanceMethod yX1_clear, Cond.selects RX1 yX1_clear yX1_clear, Cond.code yX1_clear cX1_clear 2 none, Cond.fieldLink RX1 9 "TriggerAnalyzer$Exploration" "situations" "[I", Cond.fieldLink RX1 53 "TriggerAnalyzer$Exploration" "readyEver" "I", Cond.fieldLink RX1 56 "TriggerAnalyzer$Exploration" "choices" "I", Cond.fieldLink RX1 27 "TriggerAnalyzer$Exploration" "ends" "LTriggerAnalyzer$Ends;", Cond.methodLink RX1 74 yX1_mark]
def wsX6_explore_r2 : List Cond := [Cond.instanceMethod yX1_mark, Cond.selects RX1 yX1_mark yX1_mark, Cond.code yX1_mark cX1_mark 3 none, Cond.fieldLink RX1 21 "TriggerAnalyzer$Exploration" "places" "[I", Cond.methodLink RX1 78 yX0_clear, Cond.instanceMethod yX0_clear, Cond.selects RX0 yX0_clear yX0_clear, Cond.initialized RX0, Cond.code yX0_clear cX0_clear 1 none, Cond.fieldLink RX0 19 "TriggerAnalyzer$Ends" "count" "I", Cond.fieldLink RX0 15 "TriggerAnalyzer$Ends" "nearest" "I", Cond.methodLink RX1 62 yX1_placeOf, Cond.instanceMethod yX1_placeOf, Cond.selects RX1 yX1_placeOf yX1_placeOf, Cond.code yX1_placeOf cX1_placeOf 3 (some .int), Cond.fieldLink RX1 15 "TriggerAnalyzer$Exploration" "depths" "[I", Cond.methodLink RX1 66 yX1_expand, Cond.instanceMethod yX1_expand, Cond.selects RX1 yX1_expand yX1_expand, Cond.code yX1_expand cX1_expand 7 none, Cond.fieldLink RX1 38 "TriggerAnalyzer$Exploration" "book" "LTriggerAnalyzer$RuleBook;", Cond.fieldLink RX1 103 "TriggerAnalyzer$Rule" "bit" "I", Cond.methodLink RX1 79 yX5_readyIn, Cond.instanceMethod yX5_readyIn]
def wsX6_explore_r3 : List Cond := [Cond.selects RX5 yX5_readyIn yX5_readyIn, Cond.initialized RX5, Cond.code yX5_readyIn cX5_readyIn 4 (some .int), Cond.fieldLink RX5 11 "TriggerAnalyzer$RuleBook" "rules" "[LTriggerAnalyzer$Rule;", Cond.fieldLink RX5 45 "TriggerAnalyzer$Rule" "bit" "I", Cond.methodLink RX5 68 yX4_isReadyIn, Cond.instanceMethod yX4_isReadyIn, Cond.selects RX4 yX4_isReadyIn yX4_isReadyIn, Cond.initialized RX4, Cond.code yX4_isReadyIn cX4_isReadyIn 3 (some .boolean), Cond.fieldLink RX4 15 "TriggerAnalyzer$Rule" "bit" "I", Cond.fieldLink RX4 35 "TriggerAnalyzer$Rule" "above" "I", Cond.static yX6_triggeredIn, Cond.initialized RX6, Cond.code yX6_triggeredIn cX6_triggeredIn 1 (some .int), Cond.methodLink RX1 85 yJ6_bitCount_0f7a4, Cond.static yJ6_bitCount_0f7a4, Cond.initialized RJ6, Cond.code yJ6_bitCount_0f7a4 cJ6_bitCount_0f7a4 1 (some .int), Cond.constant RJ6 265 (1431655765), Cond.constant RJ6 266 (858993459), Cond.constant RJ6 267 (252645135), Cond.static yX6_factsIn, Cond.code yX6_factsIn cX6_factsIn 1 (some .int)]
def wsX6_explore_r4 : List Cond := [Cond.methodLink RX1 96 yX0_append, Cond.instanceMethod yX0_append, Cond.selects RX0 yX0_append yX0_append, Cond.code yX0_append cX0_append 3 none, Cond.fieldLink RX0 9 "TriggerAnalyzer$Ends" "facts" "[I", Cond.methodLink RX1 99 yX5_ruleOrNull, Cond.instanceMethod yX5_ruleOrNull, Cond.selects RX5 yX5_ruleOrNull yX5_ruleOrNull, Cond.code yX5_ruleOrNull cX5_ruleOrNull 2 (some (.object "TriggerAnalyzer$Rule")), Cond.fieldLink RX5 24 "TriggerAnalyzer$RuleBook" "count" "I", Cond.methodLink RX1 108 yX5_played, Cond.instanceMethod yX5_played, Cond.selects RX5 yX5_played yX5_played, Cond.code yX5_played cX5_played 5 (some .int), Cond.fieldLink RX5 75 "TriggerAnalyzer$Rule" "actionCount" "I", Cond.static yX6_situationOf, Cond.code yX6_situationOf cX6_situationOf 2 (some .int), Cond.methodLink RX5 72 yX4_holdsIn, Cond.instanceMethod yX4_holdsIn, Cond.selects RX4 yX4_holdsIn yX4_holdsIn, Cond.code yX4_holdsIn cX4_holdsIn 3 (some .boolean), Cond.fieldLink RX4 41 "TriggerAnalyzer$Rule" "must" "I", Cond.fieldLink RX4 44 "TriggerAnalyzer$Rule" "mustNot" "I", Cond.methodLink RX5 78 yX4_actionAt]
def wsX6_explore_r5 : List Cond := [Cond.instanceMethod yX4_actionAt, Cond.selects RX4 yX4_actionAt yX4_actionAt, Cond.code yX4_actionAt cX4_actionAt 2 (some .int), Cond.fieldLink RX4 9 "TriggerAnalyzer$Rule" "actions" "[I", Cond.methodLink RX5 81 yX5_changed, Cond.instanceMethod yX5_changed, Cond.selects RX5 yX5_changed yX5_changed, Cond.code yX5_changed cX5_changed 7 (some .int), Cond.methodLink RX5 58 yX5_listenersTo, Cond.instanceMethod yX5_listenersTo, Cond.selects RX5 yX5_listenersTo yX5_listenersTo, Cond.code yX5_listenersTo cX5_listenersTo 2 (some .int), Cond.fieldLink RX5 17 "TriggerAnalyzer$RuleBook" "listeners" "[I", Cond.methodLink RX1 112 yX1_keepNext, Cond.instanceMethod yX1_keepNext, Cond.selects RX1 yX1_keepNext yX1_keepNext, Cond.code yX1_keepNext cX1_keepNext 3 none, Cond.fieldLink RX1 18 "TriggerAnalyzer$Exploration" "nexts" "[I", Cond.methodLink RX1 70 yX3_study, Cond.instanceMethod yX3_study, Cond.selects RX3 yX3_study yX3_study, Cond.initialized RX3, Cond.code yX3_study cX3_study 3 none, Cond.fieldLink RX3 46 "TriggerAnalyzer$Prospect" "queued" "I"]
def wsX6_explore_r6 : List Cond := [Cond.fieldLink RX3 22 "TriggerAnalyzer$Prospect" "queue" "[I", Cond.fieldLink RX3 25 "TriggerAnalyzer$Prospect" "finite" "Z", Cond.methodLink RX3 39 yX3_countIncoming, Cond.instanceMethod yX3_countIncoming, Cond.selects RX3 yX3_countIncoming yX3_countIncoming, Cond.code yX3_countIncoming cX3_countIncoming 5 none, Cond.fieldLink RX3 9 "TriggerAnalyzer$Prospect" "incoming" "[I", Cond.fieldLink RX3 15 "TriggerAnalyzer$Prospect" "plays" "[I", Cond.fieldLink RX3 18 "TriggerAnalyzer$Prospect" "rows" "[J", Cond.methodLink RX3 53 yX1_size, Cond.instanceMethod yX1_size, Cond.selects RX1 yX1_size yX1_size, Cond.code yX1_size cX1_size 1 (some .int), Cond.methodLink RX3 59 yX1_nextOf, Cond.instanceMethod yX1_nextOf, Cond.selects RX1 yX1_nextOf yX1_nextOf, Cond.code yX1_nextOf cX1_nextOf 4 (some .int), Cond.methodLink RX3 43 yX3_startAtFirst, Cond.instanceMethod yX3_startAtFirst, Cond.selects RX3 yX3_startAtFirst yX3_startAtFirst, Cond.code yX3_startAtFirst cX3_startAtFirst 1 none, Cond.fieldLink RX3 29 "TriggerAnalyzer$Prospect" "longestRow" "I", Cond.fieldLink RX3 33 "TriggerAnalyzer$Prospect" "endedRows" "J", Cond.methodLink RX3 63 yX3_enqueue]
def wsX6_explore_r7 : List Cond := [Cond.instanceMethod yX3_enqueue, Cond.selects RX3 yX3_enqueue yX3_enqueue, Cond.code yX3_enqueue cX3_enqueue 2 none, Cond.methodLink RX3 49 yX3_take, Cond.instanceMethod yX3_take, Cond.selects RX3 yX3_take yX3_take, Cond.code yX3_take cX3_take 6 none, Cond.methodLink RX3 71 Lib.Math.max.name, Cond.static Lib.Math.max.name, Cond.initialized "java/lang/Math", Cond.code Lib.Math.max.name Lib.Math.max.code 2 (some .int), Cond.methodLink RX3 67 yX3_lead, Cond.instanceMethod yX3_lead, Cond.selects RX3 yX3_lead yX3_lead, Cond.code yX3_lead cX3_lead 5 none, Cond.methodLink RX6 148 yX1_answer, Cond.instanceMethod yX1_answer, Cond.selects RX1 yX1_answer yX1_answer, Cond.code yX1_answer cX1_answer 1 (some .int)]
def wsX6_explore : List Cond := .code yX6_explore cX6_explore 1 (some .int) :: ((wsX6_explore_r1 ++ (wsX6_explore_r2 ++ (wsX6_explore_r3 ++ (wsX6_explore_r4 ++ (wsX6_explore_r5 ++ (wsX6_explore_r6 ++ wsX6_explore_r7)))))) ++ wsX60 ++ wsX10 ++ wsX00 ++ wsX40 ++ wsX50 ++ wsX30)
def wsX6_needExplored : List Cond := .code yX6_needExplored cX6_needExplored 1 none :: ([.classLink RX6 43 "java/lang/IllegalStateException", .initialized "java/lang/IllegalStateException", .fieldLink RX6 28 "TriggerAnalyzer" "exploration" "LTriggerAnalyzer$Exploration;", .methodLink RX6 240 yX1_isUsable, .instanceMethod yX1_isUsable, .selects RX1 yX1_isUsable yX1_isUsable, .initialized RX1, .code yX1_isUsable cX1_isUsable 1 (some .boolean), .fieldLink RX1 42 "TriggerAnalyzer$Exploration" "done" "Z", .fieldLink RX1 46 "TriggerAnalyzer$Exploration" "tooMany" "Z"] ++ wsX60 ++ wsX10 ++ (vx_atS RX6 47 "java/lang/IllegalStateException" ["java/lang/RuntimeException", "java/lang/Exception"]).filter goodWord)
def wsX6_exploredAt : List Cond := .code yX6_exploredAt cX6_exploredAt 3 (some .int) :: ([.classLink RX6 179 "java/lang/IndexOutOfBoundsException", .initialized "java/lang/IndexOutOfBoundsException", .fieldLink RX6 28 "TriggerAnalyzer" "exploration" "LTriggerAnalyzer$Exploration;", .methodLink RX6 157 yX6_needExplored, .instanceMethod yX6_needExplored, .selects RX6 yX6_needExplored yX6_needExplored, .initialized RX6, .code yX6_needExplored cX6_needExplored 1 none, .classLink RX6 43 "java/lang/IllegalStateException", .initialized "java/lang/IllegalStateException", .methodLink RX6 240 yX1_isUsable, .instanceMethod yX1_isUsable, .selects RX1 yX1_isUsable yX1_isUsable, .initialized RX1, .code yX1_isUsable cX1_isUsable 1 (some .boolean), .fieldLink RX1 42 "TriggerAnalyzer$Exploration" "done" "Z", .fieldLink RX1 46 "TriggerAnalyzer$Exploration" "tooMany" "Z", .methodLink RX6 235 yX1_situationAt, .instanceMethod yX1_situationAt, .selects RX1 yX1_situationAt yX1_situationAt, .code yX1_situationAt cX1_situationAt 2 (some .int), .fieldLink RX1 49 "TriggerAnalyzer$Exploration" "count" "I", .fieldLink RX1 9 "TriggerAnalyzer$Exploration" "situations" "[I"] ++ wsX60 ++ wsX10 ++ (vx_atS RX6 183 "java/lang/IndexOutOfBoundsException" ["java/lang/RuntimeException", "java/lang/Exception"]).filter goodWord ++ (vx_atS RX6 47 "java/lang/IllegalStateException" ["java/lang/RuntimeException", "java/lang/Exception"]).filter goodWord)
def wsX6_factsOf_r1 : List Cond := [Cond.methodLink RX6 151 yX6_exploredAt, Cond.instanceMethod yX6_exploredAt, Cond.selects RX6 yX6_exploredAt yX6_exploredAt, Cond.initialized RX6, Cond.code yX6_exploredAt cX6_exploredAt 3 (some .int), Cond.classLink RX6 179 "java/lang/IndexOutOfBoundsException", Cond.initialized "java/lang/IndexOutOfBoundsException", Cond.fieldLink RX6 28 "TriggerAnalyzer" "exploration" "LTriggerAnalyzer$Exploration;", Cond.methodLink RX6 157 yX6_needExplored, Cond.instanceMethod yX6_needExplored, Cond.selects RX6 yX6_needExplored yX6_needExplored, Cond.code yX6_needExplored cX6_needExplored 1 none, Cond.classLink RX6 43 "java/lang/IllegalStateException", Cond.initialized "java/lang/IllegalStateException", Cond.methodLink RX6 240 yX1_isUsable, Cond.instanceMethod yX1_isUsable, Cond.selects RX1 yX1_isUsable yX1_isUsable, Cond.initialized RX1, Cond.code yX1_isUsable cX1_isUsable 1 (some .boolean), Cond.fieldLink RX1 42 "TriggerAnalyzer$Exploration" "done" "Z", Cond.fieldLink RX1 46 "TriggerAnalyzer$Exploration" "tooMany" "Z", Cond.methodLink RX6 235 yX1_situationAt, Cond.instanceMethod yX1_situationAt, Cond.selects RX1 yX1_situationAt yX1_situationAt]
def wsX6_factsOf_r2 : List Cond := [Cond.code yX1_situationAt cX1_situationAt 2 (some .int), Cond.fieldLink RX1 49 "TriggerAnalyzer$Exploration" "count" "I", Cond.fieldLink RX1 9 "TriggerAnalyzer$Exploration" "situations" "[I", Cond.methodLink RX6 87 yX6_factsIn, Cond.static yX6_factsIn, Cond.code yX6_factsIn cX6_factsIn 1 (some .int)]
def wsX6_factsOf : List Cond := .code yX6_factsOf cX6_factsOf 2 (some .int) :: ((wsX6_factsOf_r1 ++ wsX6_factsOf_r2) ++ wsX60 ++ wsX10 ++ (vx_atS RX6 183 "java/lang/IndexOutOfBoundsException" ["java/lang/RuntimeException", "java/lang/Exception"]).filter goodWord ++ (vx_atS RX6 47 "java/lang/IllegalStateException" ["java/lang/RuntimeException", "java/lang/Exception"]).filter goodWord)
def wsX6_triggeredOf_r1 : List Cond := [Cond.methodLink RX6 151 yX6_exploredAt, Cond.instanceMethod yX6_exploredAt, Cond.selects RX6 yX6_exploredAt yX6_exploredAt, Cond.initialized RX6, Cond.code yX6_exploredAt cX6_exploredAt 3 (some .int), Cond.classLink RX6 179 "java/lang/IndexOutOfBoundsException", Cond.initialized "java/lang/IndexOutOfBoundsException", Cond.fieldLink RX6 28 "TriggerAnalyzer" "exploration" "LTriggerAnalyzer$Exploration;", Cond.methodLink RX6 157 yX6_needExplored, Cond.instanceMethod yX6_needExplored, Cond.selects RX6 yX6_needExplored yX6_needExplored, Cond.code yX6_needExplored cX6_needExplored 1 none, Cond.classLink RX6 43 "java/lang/IllegalStateException", Cond.initialized "java/lang/IllegalStateException", Cond.methodLink RX6 240 yX1_isUsable, Cond.instanceMethod yX1_isUsable, Cond.selects RX1 yX1_isUsable yX1_isUsable, Cond.initialized RX1, Cond.code yX1_isUsable cX1_isUsable 1 (some .boolean), Cond.fieldLink RX1 42 "TriggerAnalyzer$Exploration" "done" "Z", Cond.fieldLink RX1 46 "TriggerAnalyzer$Exploration" "tooMany" "Z", Cond.methodLink RX6 235 yX1_situationAt, Cond.instanceMethod yX1_situationAt, Cond.selects RX1 yX1_situationAt yX1_situationAt]
def wsX6_triggeredOf_r2 : List Cond := [Cond.code yX1_situationAt cX1_situationAt 2 (some .int), Cond.fieldLink RX1 49 "TriggerAnalyzer$Exploration" "count" "I", Cond.fieldLink RX1 9 "TriggerAnalyzer$Exploration" "situations" "[I", Cond.methodLink RX6 91 yX6_triggeredIn, Cond.static yX6_triggeredIn, Cond.code yX6_triggeredIn cX6_triggeredIn 1 (some .int)]
def wsX6_triggeredOf : List Cond := .code yX6_triggeredOf cX6_triggeredOf 2 (some .int) :: ((wsX6_triggeredOf_r1 ++ wsX6_triggeredOf_r2) ++ wsX60 ++ wsX10 ++ (vx_atS RX6 183 "java/lang/IndexOutOfBoundsException" ["java/lang/RuntimeException", "java/lang/Exception"]).filter goodWord ++ (vx_atS RX6 47 "java/lang/IllegalStateException" ["java/lang/RuntimeException", "java/lang/Exception"]).filter goodWord)
def wsX6_after_r1 : List Cond := [Cond.fieldLink RX6 28 "TriggerAnalyzer" "exploration" "LTriggerAnalyzer$Exploration;", Cond.methodLink RX6 151 yX6_exploredAt, Cond.instanceMethod yX6_exploredAt, Cond.selects RX6 yX6_exploredAt yX6_exploredAt, Cond.initialized RX6, Cond.code yX6_exploredAt cX6_exploredAt 3 (some .int), Cond.classLink RX6 179 "java/lang/IndexOutOfBoundsException", Cond.initialized "java/lang/IndexOutOfBoundsException", Cond.methodLink RX6 157 yX6_needExplored, Cond.instanceMethod yX6_needExplored, Cond.selects RX6 yX6_needExplored yX6_needExplored, Cond.code yX6_needExplored cX6_needExplored 1 none, Cond.classLink RX6 43 "java/lang/IllegalStateException", Cond.initialized "java/lang/IllegalStateException", Cond.methodLink RX6 240 yX1_isUsable, Cond.instanceMethod yX1_isUsable, Cond.selects RX1 yX1_isUsable yX1_isUsable, Cond.initialized RX1, Cond.code yX1_isUsable cX1_isUsable 1 (some .boolean), Cond.fieldLink RX1 42 "TriggerAnalyzer$Exploration" "done" "Z", Cond.fieldLink RX1 46 "TriggerAnalyzer$Exploration" "tooMany" "Z", Cond.methodLink RX6 235 yX1_situationAt, Cond.instanceMethod yX1_situationAt, Cond.selects RX1 yX1_situationAt yX1_situationAt]
def wsX6_after_r2 : List Cond := [Cond.code yX1_situationAt cX1_situationAt 2 (some .int), Cond.fieldLink RX1 49 "TriggerAnalyzer$Exploration" "count" "I", Cond.fieldLink RX1 9 "TriggerAnalyzer$Exploration" "situations" "[I", Cond.methodLink RX6 61 yX6_ruleAt, Cond.instanceMethod yX6_ruleAt, Cond.selects RX6 yX6_ruleAt yX6_ruleAt, Cond.code yX6_ruleAt cX6_ruleAt 3 (some (.object "TriggerAnalyzer$Rule")), Cond.fieldLink RX6 10 "TriggerAnalyzer" "book" "LTriggerAnalyzer$RuleBook;", Cond.methodLink RX6 230 yX5_ruleOrNull, Cond.instanceMethod yX5_ruleOrNull, Cond.selects RX5 yX5_ruleOrNull yX5_ruleOrNull, Cond.initialized RX5, Cond.code yX5_ruleOrNull cX5_ruleOrNull 2 (some (.object "TriggerAnalyzer$Rule")), Cond.fieldLink RX5 24 "TriggerAnalyzer$RuleBook" "count" "I", Cond.fieldLink RX5 11 "TriggerAnalyzer$RuleBook" "rules" "[LTriggerAnalyzer$Rule;", Cond.methodLink RX6 154 yX1_nextOf, Cond.instanceMethod yX1_nextOf, Cond.selects RX1 yX1_nextOf yX1_nextOf, Cond.code yX1_nextOf cX1_nextOf 4 (some .int), Cond.fieldLink RX1 18 "TriggerAnalyzer$Exploration" "nexts" "[I"]
def wsX6_after : List Cond := .code yX6_after cX6_after 3 (some .int) :: ((wsX6_after_r1 ++ wsX6_after_r2) ++ wsX60 ++ wsX10 ++ wsX50 ++ (vx_atS RX6 183 "java/lang/IndexOutOfBoundsException" ["java/lang/RuntimeException", "java/lang/Exception"]).filter goodWord ++ (vx_atS RX6 47 "java/lang/IllegalStateException" ["java/lang/RuntimeException", "java/lang/Exception"]).filter goodWord)
def wsX6_terminates : List Cond := .code yX6_terminates cX6_terminates 1 (some .boolean) :: ([.fieldLink RX6 28 "TriggerAnalyzer" "exploration" "LTriggerAnalyzer$Exploration;", .fieldLink RX6 160 "TriggerAnalyzer$Exploration" "prospect" "LTriggerAnalyzer$Prospect;", .methodLink RX6 157 yX6_needExplored, .instanceMethod yX6_needExplored, .selects RX6 yX6_needExplored yX6_needExplored, .initialized RX6, .code yX6_needExplored cX6_needExplored 1 none, .classLink RX6 43 "java/lang/IllegalStateException", .initialized "java/lang/IllegalStateException", .methodLink RX6 240 yX1_isUsable, .instanceMethod yX1_isUsable, .selects RX1 yX1_isUsable yX1_isUsable, .initialized RX1, .code yX1_isUsable cX1_isUsable 1 (some .boolean), .fieldLink RX1 42 "TriggerAnalyzer$Exploration" "done" "Z", .fieldLink RX1 46 "TriggerAnalyzer$Exploration" "tooMany" "Z", .methodLink RX6 164 yX3_isFinite, .instanceMethod yX3_isFinite, .selects RX3 yX3_isFinite yX3_isFinite, .initialized RX3, .code yX3_isFinite cX3_isFinite 1 (some .boolean), .fieldLink RX3 25 "TriggerAnalyzer$Prospect" "finite" "Z"] ++ wsX60 ++ wsX10 ++ wsX30 ++ (vx_atS RX6 47 "java/lang/IllegalStateException" ["java/lang/RuntimeException", "java/lang/Exception"]).filter goodWord)
def wsX6_endCount : List Cond := .code yX6_endCount cX6_endCount 1 (some .int) :: ([.fieldLink RX6 28 "TriggerAnalyzer" "exploration" "LTriggerAnalyzer$Exploration;", .fieldLink RX6 169 "TriggerAnalyzer$Exploration" "ends" "LTriggerAnalyzer$Ends;", .methodLink RX6 157 yX6_needExplored, .instanceMethod yX6_needExplored, .selects RX6 yX6_needExplored yX6_needExplored, .initialized RX6, .code yX6_needExplored cX6_needExplored 1 none, .classLink RX6 43 "java/lang/IllegalStateException", .initialized "java/lang/IllegalStateException", .methodLink RX6 240 yX1_isUsable, .instanceMethod yX1_isUsable, .selects RX1 yX1_isUsable yX1_isUsable, .initialized RX1, .code yX1_isUsable cX1_isUsable 1 (some .boolean), .fieldLink RX1 42 "TriggerAnalyzer$Exploration" "done" "Z", .fieldLink RX1 46 "TriggerAnalyzer$Exploration" "tooMany" "Z", .methodLink RX6 173 yX0_size, .instanceMethod yX0_size, .selects RX0 yX0_size yX0_size, .initialized RX0, .code yX0_size cX0_size 1 (some .int), .fieldLink RX0 19 "TriggerAnalyzer$Ends" "count" "I"] ++ wsX60 ++ wsX10 ++ wsX00 ++ (vx_atS RX6 47 "java/lang/IllegalStateException" ["java/lang/RuntimeException", "java/lang/Exception"]).filter goodWord)
def wsX6_end_r1 : List Cond := [Cond.classLink RX6 179 "java/lang/IndexOutOfBoundsException", Cond.initialized "java/lang/IndexOutOfBoundsException", Cond.fieldLink RX6 28 "TriggerAnalyzer" "exploration" "LTriggerAnalyzer$Exploration;", Cond.fieldLink RX6 169 "TriggerAnalyzer$Exploration" "ends" "LTriggerAnalyzer$Ends;", Cond.methodLink RX6 157 yX6_needExplored, Cond.instanceMethod yX6_needExplored, Cond.selects RX6 yX6_needExplored yX6_needExplored, Cond.initialized RX6, Cond.code yX6_needExplored cX6_needExplored 1 none, Cond.classLink RX6 43 "java/lang/IllegalStateException", Cond.initialized "java/lang/IllegalStateException", Cond.methodLink RX6 240 yX1_isUsable, Cond.instanceMethod yX1_isUsable, Cond.selects RX1 yX1_isUsable yX1_isUsable, Cond.initialized RX1, Cond.code yX1_isUsable cX1_isUsable 1 (some .boolean), Cond.fieldLink RX1 42 "TriggerAnalyzer$Exploration" "done" "Z", Cond.fieldLink RX1 46 "TriggerAnalyzer$Exploration" "tooMany" "Z", Cond.methodLink RX6 176 yX0_factsAt, Cond.instanceMethod yX0_factsAt, Cond.selects RX0 yX0_factsAt yX0_factsAt, Cond.initialized RX0, Cond.code yX0_factsAt cX0_factsAt 2 (some .int), Cond.fieldLink RX0 19 "TriggerAnalyzer$Ends" "count" "I"]
def wsX6_end_r2 : List Cond := [Cond.fieldLink RX0 9 "TriggerAnalyzer$Ends" "facts" "[I"]
def wsX6_end : List Cond := .code yX6_end cX6_end 3 (some .int) :: ((wsX6_end_r1 ++ wsX6_end_r2) ++ wsX60 ++ wsX10 ++ wsX00 ++ (vx_atS RX6 183 "java/lang/IndexOutOfBoundsException" ["java/lang/RuntimeException", "java/lang/Exception"]).filter goodWord ++ (vx_atS RX6 47 "java/lang/IllegalStateException" ["java/lang/RuntimeException", "java/lang/Exception"]).filter goodWord)
def wsX6_shortest : List Cond := .code yX6_shortest cX6_shortest 1 (some .int) :: ([.fieldLink RX6 28 "TriggerAnalyzer" "exploration" "LTriggerAnalyzer$Exploration;", .fieldLink RX6 169 "TriggerAnalyzer$Exploration" "ends" "LTriggerAnalyzer$Ends;", .methodLink RX6 157 yX6_needExplored, .instanceMethod yX6_needExplored, .selects RX6 yX6_needExplored yX6_needExplored, .initialized RX6, .code yX6_needExplored cX6_needExplored 1 none, .classLink RX6 43 "java/lang/IllegalStateException", .initialized "java/lang/IllegalStateException", .methodLink RX6 240 yX1_isUsable, .instanceMethod yX1_isUsable, .selects RX1 yX1_isUsable yX1_isUsable, .initialized RX1, .code yX1_isUsable cX1_isUsable 1 (some .boolean), .fieldLink RX1 42 "TriggerAnalyzer$Exploration" "done" "Z", .fieldLink RX1 46 "TriggerAnalyzer$Exploration" "tooMany" "Z", .methodLink RX6 184 yX0_firstDepth, .instanceMethod yX0_firstDepth, .selects RX0 yX0_firstDepth yX0_firstDepth, .initialized RX0, .code yX0_firstDepth cX0_firstDepth 1 (some .int), .fieldLink RX0 15 "TriggerAnalyzer$Ends" "nearest" "I"] ++ wsX60 ++ wsX10 ++ wsX00 ++ (vx_atS RX6 47 "java/lang/IllegalStateException" ["java/lang/RuntimeException", "java/lang/Exception"]).filter goodWord)
def wsX6_longest : List Cond := .code yX6_longest cX6_longest 1 (some .int) :: ([.fieldLink RX6 28 "TriggerAnalyzer" "exploration" "LTriggerAnalyzer$Exploration;", .fieldLink RX6 160 "TriggerAnalyzer$Exploration" "prospect" "LTriggerAnalyzer$Prospect;", .methodLink RX6 157 yX6_needExplored, .instanceMethod yX6_needExplored, .selects RX6 yX6_needExplored yX6_needExplored, .initialized RX6, .code yX6_needExplored cX6_needExplored 1 none, .classLink RX6 43 "java/lang/IllegalStateException", .initialized "java/lang/IllegalStateException", .methodLink RX6 240 yX1_isUsable, .instanceMethod yX1_isUsable, .selects RX1 yX1_isUsable yX1_isUsable, .initialized RX1, .code yX1_isUsable cX1_isUsable 1 (some .boolean), .fieldLink RX1 42 "TriggerAnalyzer$Exploration" "done" "Z", .fieldLink RX1 46 "TriggerAnalyzer$Exploration" "tooMany" "Z", .methodLink RX6 187 yX3_mostPlays, .instanceMethod yX3_mostPlays, .selects RX3 yX3_mostPlays yX3_mostPlays, .initialized RX3, .code yX3_mostPlays cX3_mostPlays 1 (some .int), .fieldLink RX3 25 "TriggerAnalyzer$Prospect" "finite" "Z", .fieldLink RX3 29 "TriggerAnalyzer$Prospect" "longestRow" "I"] ++ wsX60 ++ wsX10 ++ wsX30 ++ (vx_atS RX6 47 "java/lang/IllegalStateException" ["java/lang/RuntimeException", "java/lang/Exception"]).filter goodWord)
def wsX6_ways : List Cond := .code yX6_ways cX6_ways 1 (some .long) :: ([.fieldLink RX6 28 "TriggerAnalyzer" "exploration" "LTriggerAnalyzer$Exploration;", .fieldLink RX6 160 "TriggerAnalyzer$Exploration" "prospect" "LTriggerAnalyzer$Prospect;", .methodLink RX6 157 yX6_needExplored, .instanceMethod yX6_needExplored, .selects RX6 yX6_needExplored yX6_needExplored, .initialized RX6, .code yX6_needExplored cX6_needExplored 1 none, .classLink RX6 43 "java/lang/IllegalStateException", .initialized "java/lang/IllegalStateException", .methodLink RX6 240 yX1_isUsable, .instanceMethod yX1_isUsable, .selects RX1 yX1_isUsable yX1_isUsable, .initialized RX1, .code yX1_isUsable cX1_isUsable 1 (some .boolean), .fieldLink RX1 42 "TriggerAnalyzer$Exploration" "done" "Z", .fieldLink RX1 46 "TriggerAnalyzer$Exploration" "tooMany" "Z", .methodLink RX6 190 yX3_wayCount, .instanceMethod yX3_wayCount, .selects RX3 yX3_wayCount yX3_wayCount, .initialized RX3, .code yX3_wayCount cX3_wayCount 1 (some .long), .fieldLink RX3 25 "TriggerAnalyzer$Prospect" "finite" "Z", .fieldLink RX3 33 "TriggerAnalyzer$Prospect" "endedRows" "J", .constantLong RX3 37 (-1)] ++ wsX60 ++ wsX10 ++ wsX30 ++ (vx_atS RX6 47 "java/lang/IllegalStateException" ["java/lang/RuntimeException", "java/lang/Exception"]).filter goodWord)
def wsX6_isPlayed_r1 : List Cond := [Cond.fieldLink RX6 28 "TriggerAnalyzer" "exploration" "LTriggerAnalyzer$Exploration;", Cond.fieldLink RX6 94 "TriggerAnalyzer$Rule" "bit" "I", Cond.methodLink RX6 157 yX6_needExplored, Cond.instanceMethod yX6_needExplored, Cond.selects RX6 yX6_needExplored yX6_needExplored, Cond.initialized RX6, Cond.code yX6_needExplored cX6_needExplored 1 none, Cond.classLink RX6 43 "java/lang/IllegalStateException", Cond.initialized "java/lang/IllegalStateException", Cond.methodLink RX6 240 yX1_isUsable, Cond.instanceMethod yX1_isUsable, Cond.selects RX1 yX1_isUsable yX1_isUsable, Cond.initialized RX1, Cond.code yX1_isUsable cX1_isUsable 1 (some .boolean), Cond.fieldLink RX1 42 "TriggerAnalyzer$Exploration" "done" "Z", Cond.fieldLink RX1 46 "TriggerAnalyzer$Exploration" "tooMany" "Z", Cond.methodLink RX6 194 yX1_everReady, Cond.instanceMethod yX1_everReady, Cond.selects RX1 yX1_everReady yX1_everReady, Cond.code yX1_everReady cX1_everReady 1 (some .int), Cond.fieldLink RX1 53 "TriggerAnalyzer$Exploration" "readyEver" "I", Cond.methodLink RX6 61 yX6_ruleAt, Cond.instanceMethod yX6_ruleAt, Cond.selects RX6 yX6_ruleAt yX6_ruleAt]
def wsX6_isPlayed_r2 : List Cond := [Cond.code yX6_ruleAt cX6_ruleAt 3 (some (.object "TriggerAnalyzer$Rule")), Cond.classLink RX6 179 "java/lang/IndexOutOfBoundsException", Cond.initialized "java/lang/IndexOutOfBoundsException", Cond.fieldLink RX6 10 "TriggerAnalyzer" "book" "LTriggerAnalyzer$RuleBook;", Cond.methodLink RX6 230 yX5_ruleOrNull, Cond.instanceMethod yX5_ruleOrNull, Cond.selects RX5 yX5_ruleOrNull yX5_ruleOrNull, Cond.initialized RX5, Cond.code yX5_ruleOrNull cX5_ruleOrNull 2 (some (.object "TriggerAnalyzer$Rule")), Cond.fieldLink RX5 24 "TriggerAnalyzer$RuleBook" "count" "I", Cond.fieldLink RX5 11 "TriggerAnalyzer$RuleBook" "rules" "[LTriggerAnalyzer$Rule;"]
def wsX6_isPlayed : List Cond := .code yX6_isPlayed cX6_isPlayed 2 (some .boolean) :: ((wsX6_isPlayed_r1 ++ wsX6_isPlayed_r2) ++ wsX60 ++ wsX40 ++ wsX10 ++ wsX50 ++ (vx_atS RX6 47 "java/lang/IllegalStateException" ["java/lang/RuntimeException", "java/lang/Exception"]).filter goodWord ++ (vx_atS RX6 183 "java/lang/IndexOutOfBoundsException" ["java/lang/RuntimeException", "java/lang/Exception"]).filter goodWord)
def wsX6_choice : List Cond := .code yX6_choice cX6_choice 1 (some .double) :: ([.fieldLink RX6 28 "TriggerAnalyzer" "exploration" "LTriggerAnalyzer$Exploration;", .methodLink RX6 157 yX6_needExplored, .instanceMethod yX6_needExplored, .selects RX6 yX6_needExplored yX6_needExplored, .initialized RX6, .code yX6_needExplored cX6_needExplored 1 none, .classLink RX6 43 "java/lang/IllegalStateException", .initialized "java/lang/IllegalStateException", .methodLink RX6 240 yX1_isUsable, .instanceMethod yX1_isUsable, .selects RX1 yX1_isUsable yX1_isUsable, .initialized RX1, .code yX1_isUsable cX1_isUsable 1 (some .boolean), .fieldLink RX1 42 "TriggerAnalyzer$Exploration" "done" "Z", .fieldLink RX1 46 "TriggerAnalyzer$Exploration" "tooMany" "Z", .methodLink RX6 197 yX1_choiceShare, .instanceMethod yX1_choiceShare, .selects RX1 yX1_choiceShare yX1_choiceShare, .code yX1_choiceShare cX1_choiceShare 1 (some .double), .fieldLink RX1 49 "TriggerAnalyzer$Exploration" "count" "I", .fieldLink RX1 56 "TriggerAnalyzer$Exploration" "choices" "I"] ++ wsX60 ++ wsX10 ++ (vx_atS RX6 47 "java/lang/IllegalStateException" ["java/lang/RuntimeException", "java/lang/Exception"]).filter goodWord)
def wsX6_canTrigger_r1 : List Cond := [Cond.fieldLink RX6 10 "TriggerAnalyzer" "book" "LTriggerAnalyzer$RuleBook;", Cond.methodLink RX6 61 yX6_ruleAt, Cond.instanceMethod yX6_ruleAt, Cond.selects RX6 yX6_ruleAt yX6_ruleAt, Cond.initialized RX6, Cond.code yX6_ruleAt cX6_ruleAt 3 (some (.object "TriggerAnalyzer$Rule")), Cond.classLink RX6 179 "java/lang/IndexOutOfBoundsException", Cond.initialized "java/lang/IndexOutOfBoundsException", Cond.methodLink RX6 230 yX5_ruleOrNull, Cond.instanceMethod yX5_ruleOrNull, Cond.selects RX5 yX5_ruleOrNull yX5_ruleOrNull, Cond.initialized RX5, Cond.code yX5_ruleOrNull cX5_ruleOrNull 2 (some (.object "TriggerAnalyzer$Rule")), Cond.fieldLink RX5 24 "TriggerAnalyzer$RuleBook" "count" "I", Cond.fieldLink RX5 11 "TriggerAnalyzer$RuleBook" "rules" "[LTriggerAnalyzer$Rule;", Cond.methodLink RX6 201 yX5_triggerableBy, Cond.instanceMethod yX5_triggerableBy, Cond.selects RX5 yX5_triggerableBy yX5_triggerableBy, Cond.code yX5_triggerableBy cX5_triggerableBy 4 (some .int), Cond.fieldLink RX5 41 "TriggerAnalyzer$Rule" "on" "Z", Cond.fieldLink RX5 75 "TriggerAnalyzer$Rule" "actionCount" "I", Cond.methodLink RX5 78 yX4_actionAt, Cond.instanceMethod yX4_actionAt, Cond.selects RX4 yX4_actionAt yX4_actionAt]
def wsX6_canTrigger_r2 : List Cond := [Cond.initialized RX4, Cond.code yX4_actionAt cX4_actionAt 2 (some .int), Cond.fieldLink RX4 9 "TriggerAnalyzer$Rule" "actions" "[I", Cond.methodLink RX5 58 yX5_listenersTo, Cond.instanceMethod yX5_listenersTo, Cond.selects RX5 yX5_listenersTo yX5_listenersTo, Cond.code yX5_listenersTo cX5_listenersTo 2 (some .int), Cond.fieldLink RX5 17 "TriggerAnalyzer$RuleBook" "listeners" "[I"]
def wsX6_canTrigger : List Cond := .code yX6_canTrigger cX6_canTrigger 2 (some .int) :: ((wsX6_canTrigger_r1 ++ wsX6_canTrigger_r2) ++ wsX60 ++ wsX50 ++ wsX40 ++ (vx_atS RX6 183 "java/lang/IndexOutOfBoundsException" ["java/lang/RuntimeException", "java/lang/Exception"]).filter goodWord)
def wsX6_circular_r1 : List Cond := [Cond.fieldLink RX6 21 "TriggerAnalyzer" "judge" "LTriggerAnalyzer$Judge;", Cond.methodLink RX6 205 yX2_inCircles, Cond.instanceMethod yX2_inCircles, Cond.selects RX2 yX2_inCircles yX2_inCircles, Cond.initialized RX2, Cond.code yX2_inCircles cX2_inCircles 3 (some .int), Cond.fieldLink RX2 9 "TriggerAnalyzer$Judge" "reach" "[I", Cond.methodLink RX2 19 yX2_spreadReach, Cond.instanceMethod yX2_spreadReach, Cond.selects RX2 yX2_spreadReach yX2_spreadReach, Cond.code yX2_spreadReach cX2_spreadReach 3 none, Cond.fieldLink RX2 15 "TriggerAnalyzer$Judge" "book" "LTriggerAnalyzer$RuleBook;", Cond.methodLink RX2 22 yX5_ruleOrNull, Cond.instanceMethod yX5_ruleOrNull, Cond.selects RX5 yX5_ruleOrNull yX5_ruleOrNull, Cond.initialized RX5, Cond.code yX5_ruleOrNull cX5_ruleOrNull 2 (some (.object "TriggerAnalyzer$Rule")), Cond.fieldLink RX5 24 "TriggerAnalyzer$RuleBook" "count" "I", Cond.fieldLink RX5 11 "TriggerAnalyzer$RuleBook" "rules" "[LTriggerAnalyzer$Rule;", Cond.methodLink RX2 28 yX5_triggerableBy, Cond.instanceMethod yX5_triggerableBy, Cond.selects RX5 yX5_triggerableBy yX5_triggerableBy, Cond.code yX5_triggerableBy cX5_triggerableBy 4 (some .int), Cond.fieldLink RX5 41 "TriggerAnalyzer$Rule" "on" "Z"]
def wsX6_circular_r2 : List Cond := [Cond.fieldLink RX5 75 "TriggerAnalyzer$Rule" "actionCount" "I", Cond.methodLink RX5 78 yX4_actionAt, Cond.instanceMethod yX4_actionAt, Cond.selects RX4 yX4_actionAt yX4_actionAt, Cond.initialized RX4, Cond.code yX4_actionAt cX4_actionAt 2 (some .int), Cond.fieldLink RX4 9 "TriggerAnalyzer$Rule" "actions" "[I", Cond.methodLink RX5 58 yX5_listenersTo, Cond.instanceMethod yX5_listenersTo, Cond.selects RX5 yX5_listenersTo yX5_listenersTo, Cond.code yX5_listenersTo cX5_listenersTo 2 (some .int), Cond.fieldLink RX5 17 "TriggerAnalyzer$RuleBook" "listeners" "[I"]
def wsX6_circular : List Cond := .code yX6_circular cX6_circular 1 (some .int) :: ((wsX6_circular_r1 ++ wsX6_circular_r2) ++ wsX60 ++ wsX20 ++ wsX50 ++ wsX40)
def wsX6_commute_r1 : List Cond := [Cond.classLink RX6 105 "java/lang/IllegalArgumentException", Cond.initialized "java/lang/IllegalArgumentException", Cond.fieldLink RX6 21 "TriggerAnalyzer" "judge" "LTriggerAnalyzer$Judge;", Cond.methodLink RX6 61 yX6_ruleAt, Cond.instanceMethod yX6_ruleAt, Cond.selects RX6 yX6_ruleAt yX6_ruleAt, Cond.initialized RX6, Cond.code yX6_ruleAt cX6_ruleAt 3 (some (.object "TriggerAnalyzer$Rule")), Cond.classLink RX6 179 "java/lang/IndexOutOfBoundsException", Cond.initialized "java/lang/IndexOutOfBoundsException", Cond.fieldLink RX6 10 "TriggerAnalyzer" "book" "LTriggerAnalyzer$RuleBook;", Cond.methodLink RX6 230 yX5_ruleOrNull, Cond.instanceMethod yX5_ruleOrNull, Cond.selects RX5 yX5_ruleOrNull yX5_ruleOrNull, Cond.initialized RX5, Cond.code yX5_ruleOrNull cX5_ruleOrNull 2 (some (.object "TriggerAnalyzer$Rule")), Cond.fieldLink RX5 24 "TriggerAnalyzer$RuleBook" "count" "I", Cond.fieldLink RX5 11 "TriggerAnalyzer$RuleBook" "rules" "[LTriggerAnalyzer$Rule;", Cond.methodLink RX6 210 yX2_areIndependent, Cond.instanceMethod yX2_areIndependent, Cond.selects RX2 yX2_areIndependent yX2_areIndependent, Cond.initialized RX2, Cond.code yX2_areIndependent cX2_areIndependent 4 (some .boolean), Cond.fieldLink RX2 32 "TriggerAnalyzer$Rule" "on" "Z"]
def wsX6_commute_r2 : List Cond := [Cond.fieldLink RX2 15 "TriggerAnalyzer$Judge" "book" "LTriggerAnalyzer$RuleBook;", Cond.fieldLink RX2 38 "TriggerAnalyzer$Rule" "bit" "I", Cond.fieldLink RX2 49 "TriggerAnalyzer$Rule" "setFacts" "I", Cond.fieldLink RX2 52 "TriggerAnalyzer$Rule" "unsetFacts" "I", Cond.methodLink RX2 28 yX5_triggerableBy, Cond.instanceMethod yX5_triggerableBy, Cond.selects RX5 yX5_triggerableBy yX5_triggerableBy, Cond.code yX5_triggerableBy cX5_triggerableBy 4 (some .int), Cond.fieldLink RX5 41 "TriggerAnalyzer$Rule" "on" "Z", Cond.fieldLink RX5 75 "TriggerAnalyzer$Rule" "actionCount" "I", Cond.methodLink RX5 78 yX4_actionAt, Cond.instanceMethod yX4_actionAt, Cond.selects RX4 yX4_actionAt yX4_actionAt, Cond.initialized RX4, Cond.code yX4_actionAt cX4_actionAt 2 (some .int), Cond.fieldLink RX4 9 "TriggerAnalyzer$Rule" "actions" "[I", Cond.methodLink RX5 58 yX5_listenersTo, Cond.instanceMethod yX5_listenersTo, Cond.selects RX5 yX5_listenersTo yX5_listenersTo, Cond.code yX5_listenersTo cX5_listenersTo 2 (some .int), Cond.fieldLink RX5 17 "TriggerAnalyzer$RuleBook" "listeners" "[I", Cond.methodLink RX2 42 yX4_changedFacts, Cond.instanceMethod yX4_changedFacts, Cond.selects RX4 yX4_changedFacts yX4_changedFacts]
def wsX6_commute_r3 : List Cond := [Cond.code yX4_changedFacts cX4_changedFacts 1 (some .int), Cond.fieldLink RX4 22 "TriggerAnalyzer$Rule" "setFacts" "I", Cond.fieldLink RX4 25 "TriggerAnalyzer$Rule" "unsetFacts" "I", Cond.methodLink RX2 46 yX4_conditionFacts, Cond.instanceMethod yX4_conditionFacts, Cond.selects RX4 yX4_conditionFacts yX4_conditionFacts, Cond.code yX4_conditionFacts cX4_conditionFacts 1 (some .int), Cond.fieldLink RX4 41 "TriggerAnalyzer$Rule" "must" "I", Cond.fieldLink RX4 44 "TriggerAnalyzer$Rule" "mustNot" "I"]
def wsX6_commute : List Cond := .code yX6_commute cX6_commute 5 (some .boolean) :: ((wsX6_commute_r1 ++ (wsX6_commute_r2 ++ wsX6_commute_r3)) ++ wsX60 ++ wsX50 ++ wsX40 ++ wsX20 ++ (vx_atS RX6 109 "java/lang/IllegalArgumentException" ["java/lang/RuntimeException", "java/lang/Exception"]).filter goodWord ++ (vx_atS RX6 183 "java/lang/IndexOutOfBoundsException" ["java/lang/RuntimeException", "java/lang/Exception"]).filter goodWord)
def wsX6_conflictCount_r1 : List Cond := [Cond.fieldLink RX6 21 "TriggerAnalyzer" "judge" "LTriggerAnalyzer$Judge;", Cond.methodLink RX6 214 yX2_countConflicts, Cond.instanceMethod yX2_countConflicts, Cond.selects RX2 yX2_countConflicts yX2_countConflicts, Cond.initialized RX2, Cond.code yX2_countConflicts cX2_countConflicts 4 (some .int), Cond.methodLink RX2 63 yX2_areInConflict, Cond.instanceMethod yX2_areInConflict, Cond.selects RX2 yX2_areInConflict yX2_areInConflict, Cond.code yX2_areInConflict cX2_areInConflict 5 (some .boolean), Cond.fieldLink RX2 15 "TriggerAnalyzer$Judge" "book" "LTriggerAnalyzer$RuleBook;", Cond.methodLink RX2 22 yX5_ruleOrNull, Cond.instanceMethod yX5_ruleOrNull, Cond.selects RX5 yX5_ruleOrNull yX5_ruleOrNull, Cond.initialized RX5, Cond.code yX5_ruleOrNull cX5_ruleOrNull 2 (some (.object "TriggerAnalyzer$Rule")), Cond.fieldLink RX5 24 "TriggerAnalyzer$RuleBook" "count" "I", Cond.fieldLink RX5 11 "TriggerAnalyzer$RuleBook" "rules" "[LTriggerAnalyzer$Rule;", Cond.methodLink RX2 55 yX4_isOver, Cond.instanceMethod yX4_isOver, Cond.selects RX4 yX4_isOver yX4_isOver, Cond.initialized RX4, Cond.code yX4_isOver cX4_isOver 2 (some .boolean), Cond.fieldLink RX4 28 "TriggerAnalyzer$Rule" "below" "I"]
def wsX6_conflictCount_r2 : List Cond := [Cond.fieldLink RX4 15 "TriggerAnalyzer$Rule" "bit" "I", Cond.methodLink RX2 59 yX2_areIndependent, Cond.instanceMethod yX2_areIndependent, Cond.selects RX2 yX2_areIndependent yX2_areIndependent, Cond.code yX2_areIndependent cX2_areIndependent 4 (some .boolean), Cond.fieldLink RX2 32 "TriggerAnalyzer$Rule" "on" "Z", Cond.fieldLink RX2 38 "TriggerAnalyzer$Rule" "bit" "I", Cond.fieldLink RX2 49 "TriggerAnalyzer$Rule" "setFacts" "I", Cond.fieldLink RX2 52 "TriggerAnalyzer$Rule" "unsetFacts" "I", Cond.methodLink RX2 28 yX5_triggerableBy, Cond.instanceMethod yX5_triggerableBy, Cond.selects RX5 yX5_triggerableBy yX5_triggerableBy, Cond.code yX5_triggerableBy cX5_triggerableBy 4 (some .int), Cond.fieldLink RX5 41 "TriggerAnalyzer$Rule" "on" "Z", Cond.fieldLink RX5 75 "TriggerAnalyzer$Rule" "actionCount" "I", Cond.methodLink RX5 78 yX4_actionAt, Cond.instanceMethod yX4_actionAt, Cond.selects RX4 yX4_actionAt yX4_actionAt, Cond.code yX4_actionAt cX4_actionAt 2 (some .int), Cond.fieldLink RX4 9 "TriggerAnalyzer$Rule" "actions" "[I", Cond.methodLink RX5 58 yX5_listenersTo, Cond.instanceMethod yX5_listenersTo, Cond.selects RX5 yX5_listenersTo yX5_listenersTo, Cond.code yX5_listenersTo cX5_listenersTo 2 (some .int)]
def wsX6_conflictCount_r3 : List Cond := [Cond.fieldLink RX5 17 "TriggerAnalyzer$RuleBook" "listeners" "[I", Cond.methodLink RX2 42 yX4_changedFacts, Cond.instanceMethod yX4_changedFacts, Cond.selects RX4 yX4_changedFacts yX4_changedFacts, Cond.code yX4_changedFacts cX4_changedFacts 1 (some .int), Cond.fieldLink RX4 22 "TriggerAnalyzer$Rule" "setFacts" "I", Cond.fieldLink RX4 25 "TriggerAnalyzer$Rule" "unsetFacts" "I", Cond.methodLink RX2 46 yX4_conditionFacts, Cond.instanceMethod yX4_conditionFacts, Cond.selects RX4 yX4_conditionFacts yX4_conditionFacts, Cond.code yX4_conditionFacts cX4_conditionFacts 1 (some .int), Cond.fieldLink RX4 41 "TriggerAnalyzer$Rule" "must" "I", Cond.fieldLink RX4 44 "TriggerAnalyzer$Rule" "mustNot" "I"]
def wsX6_conflictCount : List Cond := .code yX6_conflictCount cX6_conflictCount 1 (some .int) :: ((wsX6_conflictCount_r1 ++ (wsX6_conflictCount_r2 ++ wsX6_conflictCount_r3)) ++ wsX60 ++ wsX20 ++ wsX50 ++ wsX40)
def wsX6_conflict_r1 : List Cond := [Cond.classLink RX6 179 "java/lang/IndexOutOfBoundsException", Cond.initialized "java/lang/IndexOutOfBoundsException", Cond.fieldLink RX6 21 "TriggerAnalyzer" "judge" "LTriggerAnalyzer$Judge;", Cond.methodLink RX6 217 yX2_conflictAt, Cond.instanceMethod yX2_conflictAt, Cond.selects RX2 yX2_conflictAt yX2_conflictAt, Cond.initialized RX2, Cond.code yX2_conflictAt cX2_conflictAt 5 (some .int), Cond.methodLink RX2 63 yX2_areInConflict, Cond.instanceMethod yX2_areInConflict, Cond.selects RX2 yX2_areInConflict yX2_areInConflict, Cond.code yX2_areInConflict cX2_areInConflict 5 (some .boolean), Cond.fieldLink RX2 15 "TriggerAnalyzer$Judge" "book" "LTriggerAnalyzer$RuleBook;", Cond.methodLink RX2 22 yX5_ruleOrNull, Cond.instanceMethod yX5_ruleOrNull, Cond.selects RX5 yX5_ruleOrNull yX5_ruleOrNull, Cond.initialized RX5, Cond.code yX5_ruleOrNull cX5_ruleOrNull 2 (some (.object "TriggerAnalyzer$Rule")), Cond.fieldLink RX5 24 "TriggerAnalyzer$RuleBook" "count" "I", Cond.fieldLink RX5 11 "TriggerAnalyzer$RuleBook" "rules" "[LTriggerAnalyzer$Rule;", Cond.methodLink RX2 55 yX4_isOver, Cond.instanceMethod yX4_isOver, Cond.selects RX4 yX4_isOver yX4_isOver, Cond.initialized RX4]
def wsX6_conflict_r2 : List Cond := [Cond.code yX4_isOver cX4_isOver 2 (some .boolean), Cond.fieldLink RX4 28 "TriggerAnalyzer$Rule" "below" "I", Cond.fieldLink RX4 15 "TriggerAnalyzer$Rule" "bit" "I", Cond.methodLink RX2 59 yX2_areIndependent, Cond.instanceMethod yX2_areIndependent, Cond.selects RX2 yX2_areIndependent yX2_areIndependent, Cond.code yX2_areIndependent cX2_areIndependent 4 (some .boolean), Cond.fieldLink RX2 32 "TriggerAnalyzer$Rule" "on" "Z", Cond.fieldLink RX2 38 "TriggerAnalyzer$Rule" "bit" "I", Cond.fieldLink RX2 49 "TriggerAnalyzer$Rule" "setFacts" "I", Cond.fieldLink RX2 52 "TriggerAnalyzer$Rule" "unsetFacts" "I", Cond.methodLink RX2 28 yX5_triggerableBy, Cond.instanceMethod yX5_triggerableBy, Cond.selects RX5 yX5_triggerableBy yX5_triggerableBy, Cond.code yX5_triggerableBy cX5_triggerableBy 4 (some .int), Cond.fieldLink RX5 41 "TriggerAnalyzer$Rule" "on" "Z", Cond.fieldLink RX5 75 "TriggerAnalyzer$Rule" "actionCount" "I", Cond.methodLink RX5 78 yX4_actionAt, Cond.instanceMethod yX4_actionAt, Cond.selects RX4 yX4_actionAt yX4_actionAt, Cond.code yX4_actionAt cX4_actionAt 2 (some .int), Cond.fieldLink RX4 9 "TriggerAnalyzer$Rule" "actions" "[I", Cond.methodLink RX5 58 yX5_listenersTo, Cond.instanceMethod yX5_listenersTo]
def wsX6_conflict_r3 : List Cond := [Cond.selects RX5 yX5_listenersTo yX5_listenersTo, Cond.code yX5_listenersTo cX5_listenersTo 2 (some .int), Cond.fieldLink RX5 17 "TriggerAnalyzer$RuleBook" "listeners" "[I", Cond.methodLink RX2 42 yX4_changedFacts, Cond.instanceMethod yX4_changedFacts, Cond.selects RX4 yX4_changedFacts yX4_changedFacts, Cond.code yX4_changedFacts cX4_changedFacts 1 (some .int), Cond.fieldLink RX4 22 "TriggerAnalyzer$Rule" "setFacts" "I", Cond.fieldLink RX4 25 "TriggerAnalyzer$Rule" "unsetFacts" "I", Cond.methodLink RX2 46 yX4_conditionFacts, Cond.instanceMethod yX4_conditionFacts, Cond.selects RX4 yX4_conditionFacts yX4_conditionFacts, Cond.code yX4_conditionFacts cX4_conditionFacts 1 (some .int), Cond.fieldLink RX4 41 "TriggerAnalyzer$Rule" "must" "I", Cond.fieldLink RX4 44 "TriggerAnalyzer$Rule" "mustNot" "I"]
def wsX6_conflict : List Cond := .code yX6_conflict cX6_conflict 3 (some .int) :: ((wsX6_conflict_r1 ++ (wsX6_conflict_r2 ++ wsX6_conflict_r3)) ++ wsX60 ++ wsX20 ++ wsX50 ++ wsX40 ++ (vx_atS RX6 183 "java/lang/IndexOutOfBoundsException" ["java/lang/RuntimeException", "java/lang/Exception"]).filter goodWord)
def wsX6_digest_r1 : List Cond := [Cond.fieldLink RX6 10 "TriggerAnalyzer" "book" "LTriggerAnalyzer$RuleBook;", Cond.constantLong RX6 222 (157), Cond.constantLong RX6 228 (31), Cond.fieldLink RX6 84 "TriggerAnalyzer" "present" "I", Cond.fieldLink RX6 28 "TriggerAnalyzer" "exploration" "LTriggerAnalyzer$Exploration;", Cond.methodLink RX6 224 yX5_addedTo, Cond.instanceMethod yX5_addedTo, Cond.selects RX5 yX5_addedTo yX5_addedTo, Cond.initialized RX5, Cond.code yX5_addedTo cX5_addedTo 6 (some .long), Cond.constantLong RX5 84 (31), Cond.fieldLink RX5 24 "TriggerAnalyzer$RuleBook" "count" "I", Cond.fieldLink RX5 11 "TriggerAnalyzer$RuleBook" "rules" "[LTriggerAnalyzer$Rule;", Cond.methodLink RX5 86 yX4_addedTo, Cond.instanceMethod yX4_addedTo, Cond.selects RX4 yX4_addedTo yX4_addedTo, Cond.initialized RX4, Cond.code yX4_addedTo cX4_addedTo 6 (some .long), Cond.constantLong RX4 47 (31), Cond.fieldLink RX4 49 "TriggerAnalyzer$Rule" "event" "I", Cond.fieldLink RX4 41 "TriggerAnalyzer$Rule" "must" "I", Cond.fieldLink RX4 44 "TriggerAnalyzer$Rule" "mustNot" "I", Cond.fieldLink RX4 19 "TriggerAnalyzer$Rule" "actionCount" "I", Cond.fieldLink RX4 55 "TriggerAnalyzer$Rule" "on" "Z"]
def wsX6_digest_r2 : List Cond := [Cond.fieldLink RX4 28 "TriggerAnalyzer$Rule" "below" "I", Cond.methodLink RX4 52 yX4_actionAt, Cond.instanceMethod yX4_actionAt, Cond.selects RX4 yX4_actionAt yX4_actionAt, Cond.code yX4_actionAt cX4_actionAt 2 (some .int), Cond.fieldLink RX4 9 "TriggerAnalyzer$Rule" "actions" "[I", Cond.methodLink RX6 87 yX6_factsIn, Cond.static yX6_factsIn, Cond.initialized RX6, Cond.code yX6_factsIn cX6_factsIn 1 (some .int), Cond.methodLink RX6 91 yX6_triggeredIn, Cond.static yX6_triggeredIn, Cond.code yX6_triggeredIn cX6_triggeredIn 1 (some .int), Cond.methodLink RX6 142 yX1_isDone, Cond.instanceMethod yX1_isDone, Cond.selects RX1 yX1_isDone yX1_isDone, Cond.initialized RX1, Cond.code yX1_isDone cX1_isDone 1 (some .boolean), Cond.fieldLink RX1 42 "TriggerAnalyzer$Exploration" "done" "Z", Cond.methodLink RX6 148 yX1_answer, Cond.instanceMethod yX1_answer, Cond.selects RX1 yX1_answer yX1_answer, Cond.code yX1_answer cX1_answer 1 (some .int), Cond.fieldLink RX1 46 "TriggerAnalyzer$Exploration" "tooMany" "Z"]
def wsX6_digest_r3 : List Cond := [Cond.fieldLink RX1 49 "TriggerAnalyzer$Exploration" "count" "I"]
def wsX6_digest : List Cond := .code yX6_digest cX6_digest 3 (some .long) :: ((wsX6_digest_r1 ++ (wsX6_digest_r2 ++ wsX6_digest_r3)) ++ wsX60 ++ wsX50 ++ wsX40 ++ wsX10)
def wsX7_init : List Cond := .code yX7_init cX7_init 1 none :: ([.methodLink RX7 3 objectInit, .instanceMethod objectInit, .code objectInit ⟨#[0xb1]⟩ 1 none, .arrayClass .int, .fieldLink RX7 9 "TriggerAnalyzerModel" "events" "[I", .fieldLink RX7 13 "TriggerAnalyzerModel" "musts" "[I", .fieldLink RX7 16 "TriggerAnalyzerModel" "mustNots" "[I", .fieldLink RX7 19 "TriggerAnalyzerModel" "many" "[I", .fieldLink RX7 22 "TriggerAnalyzerModel" "actions" "[I", .arrayClass .boolean, .fieldLink RX7 25 "TriggerAnalyzerModel" "areOn" "[Z", .fieldLink RX7 29 "TriggerAnalyzerModel" "below" "[I", .fieldLink RX7 32 "TriggerAnalyzerModel" "all" "[I", .fieldLink RX7 35 "TriggerAnalyzerModel" "next" "[I", .fieldLink RX7 38 "TriggerAnalyzerModel" "longests" "[I", .arrayClass .long, .fieldLink RX7 41 "TriggerAnalyzerModel" "counts" "[J"] ++ wsX70)
def wsX7_thrown : List Cond := .code yX7_thrown cX7_thrown 1 (some .int) :: ([.fieldLink RX7 45 "TriggerAnalyzerModel" "thrown" "I"] ++ wsX70)
def wsX7_fail : List Cond := .code yX7_fail cX7_fail 2 (some .int) :: ([.fieldLink RX7 45 "TriggerAnalyzerModel" "thrown" "I"] ++ wsX70)
def wsX7_isRule : List Cond := .code yX7_isRule cX7_isRule 2 (some .boolean) :: ([.fieldLink RX7 49 "TriggerAnalyzerModel" "rules" "I"] ++ wsX70)
def wsX7_isFact : List Cond := .code yX7_isFact cX7_isFact 1 (some .boolean) :: ([])
def wsX7_isSet : List Cond := .code yX7_isSet cX7_isSet 1 (some .boolean) :: ([])
def wsX7_has : List Cond := .code yX7_has cX7_has 2 (some .boolean) :: ([])
def wsX7_literal : List Cond := .code yX7_literal cX7_literal 2 (some .int) :: ([])
def wsX7_addRule : List Cond := .code yX7_addRule cX7_addRule 5 (some .int) :: ([.fieldLink RX7 45 "TriggerAnalyzerModel" "thrown" "I", .fieldLink RX7 49 "TriggerAnalyzerModel" "rules" "I", .fieldLink RX7 9 "TriggerAnalyzerModel" "events" "[I", .fieldLink RX7 13 "TriggerAnalyzerModel" "musts" "[I", .fieldLink RX7 16 "TriggerAnalyzerModel" "mustNots" "[I", .fieldLink RX7 19 "TriggerAnalyzerModel" "many" "[I", .fieldLink RX7 25 "TriggerAnalyzerModel" "areOn" "[Z", .fieldLink RX7 29 "TriggerAnalyzerModel" "below" "[I", .fieldLink RX7 67 "TriggerAnalyzerModel" "isExplored" "Z", .methodLink RX7 52 yX7_isFact, .static yX7_isFact, .initialized RX7, .code yX7_isFact cX7_isFact 1 (some .boolean), .methodLink RX7 56 yX7_fail, .instanceMethod yX7_fail, .selects RX7 yX7_fail yX7_fail, .code yX7_fail cX7_fail 2 (some .int), .methodLink RX7 60 yX7_isSet, .static yX7_isSet, .code yX7_isSet cX7_isSet 1 (some .boolean), .methodLink RX7 63 yX7_literal, .static yX7_literal, .code yX7_literal cX7_literal 2 (some .int)] ++ wsX70)
def wsX7_addAction : List Cond := .code yX7_addAction cX7_addAction 4 (some .int) :: ([.fieldLink RX7 45 "TriggerAnalyzerModel" "thrown" "I", .fieldLink RX7 19 "TriggerAnalyzerModel" "many" "[I", .fieldLink RX7 22 "TriggerAnalyzerModel" "actions" "[I", .fieldLink RX7 67 "TriggerAnalyzerModel" "isExplored" "Z", .methodLink RX7 71 yX7_isRule, .instanceMethod yX7_isRule, .selects RX7 yX7_isRule yX7_isRule, .initialized RX7, .code yX7_isRule cX7_isRule 2 (some .boolean), .fieldLink RX7 49 "TriggerAnalyzerModel" "rules" "I", .methodLink RX7 52 yX7_isFact, .static yX7_isFact, .code yX7_isFact cX7_isFact 1 (some .boolean), .methodLink RX7 56 yX7_fail, .instanceMethod yX7_fail, .selects RX7 yX7_fail yX7_fail, .code yX7_fail cX7_fail 2 (some .int), .methodLink RX7 63 yX7_literal, .static yX7_literal, .code yX7_literal cX7_literal 2 (some .int)] ++ wsX70)
def wsX7_turn : List Cond := .code yX7_turn cX7_turn 4 (some .boolean) :: ([.fieldLink RX7 45 "TriggerAnalyzerModel" "thrown" "I", .fieldLink RX7 25 "TriggerAnalyzerModel" "areOn" "[Z", .fieldLink RX7 74 "TriggerAnalyzerModel" "triggered" "I", .fieldLink RX7 67 "TriggerAnalyzerModel" "isExplored" "Z", .methodLink RX7 71 yX7_isRule, .instanceMethod yX7_isRule, .selects RX7 yX7_isRule yX7_isRule, .initialized RX7, .code yX7_isRule cX7_isRule 2 (some .boolean), .fieldLink RX7 49 "TriggerAnalyzerModel" "rules" "I"] ++ wsX70)
def wsX7_rank : List Cond := .code yX7_rank cX7_rank 6 (some .boolean) :: ([.fieldLink RX7 29 "TriggerAnalyzerModel" "below" "[I", .fieldLink RX7 45 "TriggerAnalyzerModel" "thrown" "I", .fieldLink RX7 49 "TriggerAnalyzerModel" "rules" "I", .fieldLink RX7 67 "TriggerAnalyzerModel" "isExplored" "Z", .methodLink RX7 71 yX7_isRule, .instanceMethod yX7_isRule, .selects RX7 yX7_isRule yX7_isRule, .initialized RX7, .code yX7_isRule cX7_isRule 2 (some .boolean), .methodLink RX7 77 yX7_has, .static yX7_has, .code yX7_has cX7_has 2 (some .boolean)] ++ wsX70)
def wsX7_isAbove : List Cond := .code yX7_isAbove cX7_isAbove 3 (some .boolean) :: ([.fieldLink RX7 45 "TriggerAnalyzerModel" "thrown" "I", .fieldLink RX7 29 "TriggerAnalyzerModel" "below" "[I", .methodLink RX7 71 yX7_isRule, .instanceMethod yX7_isRule, .selects RX7 yX7_isRule yX7_isRule, .initialized RX7, .code yX7_isRule cX7_isRule 2 (some .boolean), .fieldLink RX7 49 "TriggerAnalyzerModel" "rules" "I", .methodLink RX7 77 yX7_has, .static yX7_has, .code yX7_has cX7_has 2 (some .boolean)] ++ wsX70)
def wsX7_ruleCount : List Cond := .code yX7_ruleCount cX7_ruleCount 1 (some .int) :: ([.fieldLink RX7 45 "TriggerAnalyzerModel" "thrown" "I", .fieldLink RX7 49 "TriggerAnalyzerModel" "rules" "I"] ++ wsX70)
def wsX7_behind : List Cond := .code yX7_behind cX7_behind 7 (some .int) :: ([.fieldLink RX7 49 "TriggerAnalyzerModel" "rules" "I", .fieldLink RX7 25 "TriggerAnalyzerModel" "areOn" "[Z", .fieldLink RX7 9 "TriggerAnalyzerModel" "events" "[I"] ++ wsX70)
def wsX7_triggeredIn : List Cond := .code yX7_triggeredIn cX7_triggeredIn 1 (some .int) :: ([])
def wsX7_readyIn : List Cond := .code yX7_readyIn cX7_readyIn 5 (some .int) :: ([.fieldLink RX7 49 "TriggerAnalyzerModel" "rules" "I", .fieldLink RX7 29 "TriggerAnalyzerModel" "below" "[I", .methodLink RX7 81 yX7_triggeredIn, .static yX7_triggeredIn, .initialized RX7, .code yX7_triggeredIn cX7_triggeredIn 1 (some .int), .methodLink RX7 77 yX7_has, .static yX7_has, .code yX7_has cX7_has 2 (some .boolean)] ++ wsX70)
def wsX7_isTrue : List Cond := .code yX7_isTrue cX7_isTrue 4 (some .boolean) :: ([.fieldLink RX7 13 "TriggerAnalyzerModel" "musts" "[I", .fieldLink RX7 16 "TriggerAnalyzerModel" "mustNots" "[I"] ++ wsX70)
def wsX7_playIn : List Cond := .code yX7_playIn cX7_playIn 5 (some .int) :: ([.fieldLink RX7 19 "TriggerAnalyzerModel" "many" "[I", .fieldLink RX7 22 "TriggerAnalyzerModel" "actions" "[I", .methodLink RX7 84 yX7_isTrue, .instanceMethod yX7_isTrue, .selects RX7 yX7_isTrue yX7_isTrue, .initialized RX7, .code yX7_isTrue cX7_isTrue 4 (some .boolean), .fieldLink RX7 13 "TriggerAnalyzerModel" "musts" "[I", .fieldLink RX7 16 "TriggerAnalyzerModel" "mustNots" "[I", .methodLink RX7 87 yX7_behind, .instanceMethod yX7_behind, .selects RX7 yX7_behind yX7_behind, .code yX7_behind cX7_behind 7 (some .int), .fieldLink RX7 49 "TriggerAnalyzerModel" "rules" "I", .fieldLink RX7 25 "TriggerAnalyzerModel" "areOn" "[Z", .fieldLink RX7 9 "TriggerAnalyzerModel" "events" "[I"] ++ wsX70)
def wsX7_now : List Cond := .code yX7_now cX7_now 1 (some .int) :: ([.fieldLink RX7 91 "TriggerAnalyzerModel" "facts" "I", .fieldLink RX7 74 "TriggerAnalyzerModel" "triggered" "I"] ++ wsX70)
def wsX7_become : List Cond := .code yX7_become cX7_become 2 none :: ([.fieldLink RX7 91 "TriggerAnalyzerModel" "facts" "I", .fieldLink RX7 74 "TriggerAnalyzerModel" "triggered" "I", .methodLink RX7 81 yX7_triggeredIn, .static yX7_triggeredIn, .initialized RX7, .code yX7_triggeredIn cX7_triggeredIn 1 (some .int)] ++ wsX70)
def wsX7_put : List Cond := .code yX7_put cX7_put 3 (some .int) :: ([.fieldLink RX7 45 "TriggerAnalyzerModel" "thrown" "I", .fieldLink RX7 91 "TriggerAnalyzerModel" "facts" "I", .fieldLink RX7 74 "TriggerAnalyzerModel" "triggered" "I", .fieldLink RX7 67 "TriggerAnalyzerModel" "isExplored" "Z", .methodLink RX7 60 yX7_isSet, .static yX7_isSet, .initialized RX7, .code yX7_isSet cX7_isSet 1 (some .boolean), .methodLink RX7 56 yX7_fail, .instanceMethod yX7_fail, .selects RX7 yX7_fail yX7_fail, .code yX7_fail cX7_fail 2 (some .int)] ++ wsX70)
def wsX7_change_r1 : List Cond := [Cond.fieldLink RX7 45 "TriggerAnalyzerModel" "thrown" "I", Cond.fieldLink RX7 67 "TriggerAnalyzerModel" "isExplored" "Z", Cond.fieldLink RX7 74 "TriggerAnalyzerModel" "triggered" "I", Cond.methodLink RX7 52 yX7_isFact, Cond.static yX7_isFact, Cond.initialized RX7, Cond.code yX7_isFact cX7_isFact 1 (some .boolean), Cond.methodLink RX7 56 yX7_fail, Cond.instanceMethod yX7_fail, Cond.selects RX7 yX7_fail yX7_fail, Cond.code yX7_fail cX7_fail 2 (some .int), Cond.methodLink RX7 94 yX7_now, Cond.instanceMethod yX7_now, Cond.selects RX7 yX7_now yX7_now, Cond.code yX7_now cX7_now 1 (some .int), Cond.fieldLink RX7 91 "TriggerAnalyzerModel" "facts" "I", Cond.methodLink RX7 63 yX7_literal, Cond.static yX7_literal, Cond.code yX7_literal cX7_literal 2 (some .int), Cond.methodLink RX7 87 yX7_behind, Cond.instanceMethod yX7_behind, Cond.selects RX7 yX7_behind yX7_behind, Cond.code yX7_behind cX7_behind 7 (some .int), Cond.fieldLink RX7 49 "TriggerAnalyzerModel" "rules" "I"]
def wsX7_change_r2 : List Cond := [Cond.fieldLink RX7 25 "TriggerAnalyzerModel" "areOn" "[Z", Cond.fieldLink RX7 9 "TriggerAnalyzerModel" "events" "[I", Cond.methodLink RX7 98 yX7_become, Cond.instanceMethod yX7_become, Cond.selects RX7 yX7_become yX7_become, Cond.code yX7_become cX7_become 2 none, Cond.methodLink RX7 81 yX7_triggeredIn, Cond.static yX7_triggeredIn, Cond.code yX7_triggeredIn cX7_triggeredIn 1 (some .int)]
def wsX7_change : List Cond := .code yX7_change cX7_change 3 (some .int) :: ((wsX7_change_r1 ++ wsX7_change_r2) ++ wsX70)
def wsX7_facts : List Cond := .code yX7_facts cX7_facts 1 (some .int) :: ([.fieldLink RX7 45 "TriggerAnalyzerModel" "thrown" "I", .fieldLink RX7 91 "TriggerAnalyzerModel" "facts" "I"] ++ wsX70)
def wsX7_triggered : List Cond := .code yX7_triggered cX7_triggered 1 (some .int) :: ([.fieldLink RX7 45 "TriggerAnalyzerModel" "thrown" "I", .fieldLink RX7 74 "TriggerAnalyzerModel" "triggered" "I"] ++ wsX70)
def wsX7_ready : List Cond := .code yX7_ready cX7_ready 1 (some .int) :: ([.fieldLink RX7 45 "TriggerAnalyzerModel" "thrown" "I", .methodLink RX7 94 yX7_now, .instanceMethod yX7_now, .selects RX7 yX7_now yX7_now, .initialized RX7, .code yX7_now cX7_now 1 (some .int), .fieldLink RX7 91 "TriggerAnalyzerModel" "facts" "I", .fieldLink RX7 74 "TriggerAnalyzerModel" "triggered" "I", .methodLink RX7 102 yX7_readyIn, .instanceMethod yX7_readyIn, .selects RX7 yX7_readyIn yX7_readyIn, .code yX7_readyIn cX7_readyIn 5 (some .int), .fieldLink RX7 49 "TriggerAnalyzerModel" "rules" "I", .fieldLink RX7 29 "TriggerAnalyzerModel" "below" "[I", .methodLink RX7 81 yX7_triggeredIn, .static yX7_triggeredIn, .code yX7_triggeredIn cX7_triggeredIn 1 (some .int), .methodLink RX7 77 yX7_has, .static yX7_has, .code yX7_has cX7_has 2 (some .boolean)] ++ wsX70)
def wsX7_play_r1 : List Cond := [Cond.fieldLink RX7 45 "TriggerAnalyzerModel" "thrown" "I", Cond.fieldLink RX7 67 "TriggerAnalyzerModel" "isExplored" "Z", Cond.methodLink RX7 71 yX7_isRule, Cond.instanceMethod yX7_isRule, Cond.selects RX7 yX7_isRule yX7_isRule, Cond.initialized RX7, Cond.code yX7_isRule cX7_isRule 2 (some .boolean), Cond.fieldLink RX7 49 "TriggerAnalyzerModel" "rules" "I", Cond.methodLink RX7 94 yX7_now, Cond.instanceMethod yX7_now, Cond.selects RX7 yX7_now yX7_now, Cond.code yX7_now cX7_now 1 (some .int), Cond.fieldLink RX7 91 "TriggerAnalyzerModel" "facts" "I", Cond.fieldLink RX7 74 "TriggerAnalyzerModel" "triggered" "I", Cond.methodLink RX7 102 yX7_readyIn, Cond.instanceMethod yX7_readyIn, Cond.selects RX7 yX7_readyIn yX7_readyIn, Cond.code yX7_readyIn cX7_readyIn 5 (some .int), Cond.fieldLink RX7 29 "TriggerAnalyzerModel" "below" "[I", Cond.methodLink RX7 81 yX7_triggeredIn, Cond.static yX7_triggeredIn, Cond.code yX7_triggeredIn cX7_triggeredIn 1 (some .int), Cond.methodLink RX7 77 yX7_has, Cond.static yX7_has]
def wsX7_play_r2 : List Cond := [Cond.code yX7_has cX7_has 2 (some .boolean), Cond.methodLink RX7 84 yX7_isTrue, Cond.instanceMethod yX7_isTrue, Cond.selects RX7 yX7_isTrue yX7_isTrue, Cond.code yX7_isTrue cX7_isTrue 4 (some .boolean), Cond.fieldLink RX7 13 "TriggerAnalyzerModel" "musts" "[I", Cond.fieldLink RX7 16 "TriggerAnalyzerModel" "mustNots" "[I", Cond.methodLink RX7 105 yX7_playIn, Cond.instanceMethod yX7_playIn, Cond.selects RX7 yX7_playIn yX7_playIn, Cond.code yX7_playIn cX7_playIn 5 (some .int), Cond.fieldLink RX7 19 "TriggerAnalyzerModel" "many" "[I", Cond.fieldLink RX7 22 "TriggerAnalyzerModel" "actions" "[I", Cond.methodLink RX7 87 yX7_behind, Cond.instanceMethod yX7_behind, Cond.selects RX7 yX7_behind yX7_behind, Cond.code yX7_behind cX7_behind 7 (some .int), Cond.fieldLink RX7 25 "TriggerAnalyzerModel" "areOn" "[Z", Cond.fieldLink RX7 9 "TriggerAnalyzerModel" "events" "[I", Cond.methodLink RX7 98 yX7_become, Cond.instanceMethod yX7_become, Cond.selects RX7 yX7_become yX7_become, Cond.code yX7_become cX7_become 2 none]
def wsX7_play : List Cond := .code yX7_play cX7_play 3 (some .boolean) :: ((wsX7_play_r1 ++ wsX7_play_r2) ++ wsX70)
def wsJ6_numberOfTrailingZeros_0f7a4 : List Cond := .code yJ6_numberOfTrailingZeros_0f7a4 cJ6_numberOfTrailingZeros_0f7a4 2 (some .int) :: ([.constant RJ6 264 (65536)])
def wsX7_run_r1 : List Cond := [Cond.fieldLink RX7 45 "TriggerAnalyzerModel" "thrown" "I", Cond.fieldLink RX7 74 "TriggerAnalyzerModel" "triggered" "I", Cond.fieldLink RX7 67 "TriggerAnalyzerModel" "isExplored" "Z", Cond.methodLink RX7 94 yX7_now, Cond.instanceMethod yX7_now, Cond.selects RX7 yX7_now yX7_now, Cond.initialized RX7, Cond.code yX7_now cX7_now 1 (some .int), Cond.fieldLink RX7 91 "TriggerAnalyzerModel" "facts" "I", Cond.methodLink RX7 102 yX7_readyIn, Cond.instanceMethod yX7_readyIn, Cond.selects RX7 yX7_readyIn yX7_readyIn, Cond.code yX7_readyIn cX7_readyIn 5 (some .int), Cond.fieldLink RX7 49 "TriggerAnalyzerModel" "rules" "I", Cond.fieldLink RX7 29 "TriggerAnalyzerModel" "below" "[I", Cond.methodLink RX7 81 yX7_triggeredIn, Cond.static yX7_triggeredIn, Cond.code yX7_triggeredIn cX7_triggeredIn 1 (some .int), Cond.methodLink RX7 77 yX7_has, Cond.static yX7_has, Cond.code yX7_has cX7_has 2 (some .boolean), Cond.methodLink RX7 108 yJ6_numberOfTrailingZeros_0f7a4, Cond.static yJ6_numberOfTrailingZeros_0f7a4, Cond.initialized RJ6]
def wsX7_run_r2 : List Cond := [Cond.code yJ6_numberOfTrailingZeros_0f7a4 cJ6_numberOfTrailingZeros_0f7a4 2 (some .int), Cond.constant RJ6 264 (65536), Cond.methodLink RX7 105 yX7_playIn, Cond.instanceMethod yX7_playIn, Cond.selects RX7 yX7_playIn yX7_playIn, Cond.code yX7_playIn cX7_playIn 5 (some .int), Cond.fieldLink RX7 19 "TriggerAnalyzerModel" "many" "[I", Cond.fieldLink RX7 22 "TriggerAnalyzerModel" "actions" "[I", Cond.methodLink RX7 84 yX7_isTrue, Cond.instanceMethod yX7_isTrue, Cond.selects RX7 yX7_isTrue yX7_isTrue, Cond.code yX7_isTrue cX7_isTrue 4 (some .boolean), Cond.fieldLink RX7 13 "TriggerAnalyzerModel" "musts" "[I", Cond.fieldLink RX7 16 "TriggerAnalyzerModel" "mustNots" "[I", Cond.methodLink RX7 87 yX7_behind, Cond.instanceMethod yX7_behind, Cond.selects RX7 yX7_behind yX7_behind, Cond.code yX7_behind cX7_behind 7 (some .int), Cond.fieldLink RX7 25 "TriggerAnalyzerModel" "areOn" "[Z", Cond.fieldLink RX7 9 "TriggerAnalyzerModel" "events" "[I", Cond.methodLink RX7 98 yX7_become, Cond.instanceMethod yX7_become, Cond.selects RX7 yX7_become yX7_become, Cond.code yX7_become cX7_become 2 none]
def wsX7_run : List Cond := .code yX7_run cX7_run 3 (some .int) :: ((wsX7_run_r1 ++ wsX7_run_r2) ++ wsX70)
def wsX7_numberOf : List Cond := .code yX7_numberOf cX7_numberOf 3 (some .int) :: ([.fieldLink RX7 113 "TriggerAnalyzerModel" "situations" "I", .fieldLink RX7 32 "TriggerAnalyzerModel" "all" "[I"] ++ wsX70)
def wsX7_exploreAll_r1 : List Cond := [Cond.fieldLink RX7 67 "TriggerAnalyzerModel" "isExplored" "Z", Cond.fieldLink RX7 116 "TriggerAnalyzerModel" "isTooMuch" "Z", Cond.fieldLink RX7 32 "TriggerAnalyzerModel" "all" "[I", Cond.fieldLink RX7 113 "TriggerAnalyzerModel" "situations" "I", Cond.fieldLink RX7 35 "TriggerAnalyzerModel" "next" "[I", Cond.methodLink RX7 94 yX7_now, Cond.instanceMethod yX7_now, Cond.selects RX7 yX7_now yX7_now, Cond.initialized RX7, Cond.code yX7_now cX7_now 1 (some .int), Cond.fieldLink RX7 91 "TriggerAnalyzerModel" "facts" "I", Cond.fieldLink RX7 74 "TriggerAnalyzerModel" "triggered" "I", Cond.methodLink RX7 102 yX7_readyIn, Cond.instanceMethod yX7_readyIn, Cond.selects RX7 yX7_readyIn yX7_readyIn, Cond.code yX7_readyIn cX7_readyIn 5 (some .int), Cond.fieldLink RX7 49 "TriggerAnalyzerModel" "rules" "I", Cond.fieldLink RX7 29 "TriggerAnalyzerModel" "below" "[I", Cond.methodLink RX7 81 yX7_triggeredIn, Cond.static yX7_triggeredIn, Cond.code yX7_triggeredIn cX7_triggeredIn 1 (some .int), Cond.methodLink RX7 77 yX7_has, Cond.static yX7_has, Cond.code yX7_has cX7_has 2 (some .boolean)]
def wsX7_exploreAll_r2 : List Cond := [Cond.methodLink RX7 105 yX7_playIn, Cond.instanceMethod yX7_playIn, Cond.selects RX7 yX7_playIn yX7_playIn, Cond.code yX7_playIn cX7_playIn 5 (some .int), Cond.fieldLink RX7 19 "TriggerAnalyzerModel" "many" "[I", Cond.fieldLink RX7 22 "TriggerAnalyzerModel" "actions" "[I", Cond.methodLink RX7 84 yX7_isTrue, Cond.instanceMethod yX7_isTrue, Cond.selects RX7 yX7_isTrue yX7_isTrue, Cond.code yX7_isTrue cX7_isTrue 4 (some .boolean), Cond.fieldLink RX7 13 "TriggerAnalyzerModel" "musts" "[I", Cond.fieldLink RX7 16 "TriggerAnalyzerModel" "mustNots" "[I", Cond.methodLink RX7 87 yX7_behind, Cond.instanceMethod yX7_behind, Cond.selects RX7 yX7_behind yX7_behind, Cond.code yX7_behind cX7_behind 7 (some .int), Cond.fieldLink RX7 25 "TriggerAnalyzerModel" "areOn" "[Z", Cond.fieldLink RX7 9 "TriggerAnalyzerModel" "events" "[I", Cond.methodLink RX7 119 yX7_numberOf, Cond.instanceMethod yX7_numberOf, Cond.selects RX7 yX7_numberOf yX7_numberOf, Cond.code yX7_numberOf cX7_numberOf 3 (some .int)]
def wsX7_exploreAll : List Cond := .code yX7_exploreAll cX7_exploreAll 5 none :: ((wsX7_exploreAll_r1 ++ wsX7_exploreAll_r2) ++ wsX70)
def wsX7_explore_r1 : List Cond := [Cond.fieldLink RX7 45 "TriggerAnalyzerModel" "thrown" "I", Cond.fieldLink RX7 67 "TriggerAnalyzerModel" "isExplored" "Z", Cond.fieldLink RX7 116 "TriggerAnalyzerModel" "isTooMuch" "Z", Cond.fieldLink RX7 113 "TriggerAnalyzerModel" "situations" "I", Cond.methodLink RX7 122 yX7_exploreAll, Cond.instanceMethod yX7_exploreAll, Cond.selects RX7 yX7_exploreAll yX7_exploreAll, Cond.initialized RX7, Cond.code yX7_exploreAll cX7_exploreAll 5 none, Cond.fieldLink RX7 32 "TriggerAnalyzerModel" "all" "[I", Cond.fieldLink RX7 35 "TriggerAnalyzerModel" "next" "[I", Cond.methodLink RX7 94 yX7_now, Cond.instanceMethod yX7_now, Cond.selects RX7 yX7_now yX7_now, Cond.code yX7_now cX7_now 1 (some .int), Cond.fieldLink RX7 91 "TriggerAnalyzerModel" "facts" "I", Cond.fieldLink RX7 74 "TriggerAnalyzerModel" "triggered" "I", Cond.methodLink RX7 102 yX7_readyIn, Cond.instanceMethod yX7_readyIn, Cond.selects RX7 yX7_readyIn yX7_readyIn, Cond.code yX7_readyIn cX7_readyIn 5 (some .int), Cond.fieldLink RX7 49 "TriggerAnalyzerModel" "rules" "I", Cond.fieldLink RX7 29 "TriggerAnalyzerModel" "below" "[I", Cond.methodLink RX7 81 yX7_triggeredIn]
def wsX7_explore_r2 : List Cond := [Cond.static yX7_triggeredIn, Cond.code yX7_triggeredIn cX7_triggeredIn 1 (some .int), Cond.methodLink RX7 77 yX7_has, Cond.static yX7_has, Cond.code yX7_has cX7_has 2 (some .boolean), Cond.methodLink RX7 105 yX7_playIn, Cond.instanceMethod yX7_playIn, Cond.selects RX7 yX7_playIn yX7_playIn, Cond.code yX7_playIn cX7_playIn 5 (some .int), Cond.fieldLink RX7 19 "TriggerAnalyzerModel" "many" "[I", Cond.fieldLink RX7 22 "TriggerAnalyzerModel" "actions" "[I", Cond.methodLink RX7 84 yX7_isTrue, Cond.instanceMethod yX7_isTrue, Cond.selects RX7 yX7_isTrue yX7_isTrue, Cond.code yX7_isTrue cX7_isTrue 4 (some .boolean), Cond.fieldLink RX7 13 "TriggerAnalyzerModel" "musts" "[I", Cond.fieldLink RX7 16 "TriggerAnalyzerModel" "mustNots" "[I", Cond.methodLink RX7 87 yX7_behind, Cond.instanceMethod yX7_behind, Cond.selects RX7 yX7_behind yX7_behind, Cond.code yX7_behind cX7_behind 7 (some .int), Cond.fieldLink RX7 25 "TriggerAnalyzerModel" "areOn" "[Z", Cond.fieldLink RX7 9 "TriggerAnalyzerModel" "events" "[I", Cond.methodLink RX7 119 yX7_numberOf]
def wsX7_explore_r3 : List Cond := [Cond.instanceMethod yX7_numberOf, Cond.selects RX7 yX7_numberOf yX7_numberOf, Cond.code yX7_numberOf cX7_numberOf 3 (some .int)]
def wsX7_explore : List Cond := .code yX7_explore cX7_explore 1 (some .int) :: ((wsX7_explore_r1 ++ (wsX7_explore_r2 ++ wsX7_explore_r3)) ++ wsX70)
def wsX7_isWhole : List Cond := .code yX7_isWhole cX7_isWhole 1 (some .boolean) :: ([.fieldLink RX7 67 "TriggerAnalyzerModel" "isExplored" "Z", .fieldLink RX7 116 "TriggerAnalyzerModel" "isTooMuch" "Z"] ++ wsX70)
def wsX7_asks : List Cond := .code yX7_asks cX7_asks 3 (some .boolean) :: ([.fieldLink RX7 45 "TriggerAnalyzerModel" "thrown" "I", .methodLink RX7 125 yX7_isWhole, .instanceMethod yX7_isWhole, .selects RX7 yX7_isWhole yX7_isWhole, .initialized RX7, .code yX7_isWhole cX7_isWhole 1 (some .boolean), .fieldLink RX7 67 "TriggerAnalyzerModel" "isExplored" "Z", .fieldLink RX7 116 "TriggerAnalyzerModel" "isTooMuch" "Z"] ++ wsX70)
def wsX7_factsOf : List Cond := .code yX7_factsOf cX7_factsOf 2 (some .int) :: ([.fieldLink RX7 113 "TriggerAnalyzerModel" "situations" "I", .fieldLink RX7 32 "TriggerAnalyzerModel" "all" "[I", .methodLink RX7 129 yX7_asks, .instanceMethod yX7_asks, .selects RX7 yX7_asks yX7_asks, .initialized RX7, .code yX7_asks cX7_asks 3 (some .boolean), .fieldLink RX7 45 "TriggerAnalyzerModel" "thrown" "I", .methodLink RX7 125 yX7_isWhole, .instanceMethod yX7_isWhole, .selects RX7 yX7_isWhole yX7_isWhole, .code yX7_isWhole cX7_isWhole 1 (some .boolean), .fieldLink RX7 67 "TriggerAnalyzerModel" "isExplored" "Z", .fieldLink RX7 116 "TriggerAnalyzerModel" "isTooMuch" "Z"] ++ wsX70)
def wsX7_triggeredOf : List Cond := .code yX7_triggeredOf cX7_triggeredOf 2 (some .int) :: ([.fieldLink RX7 113 "TriggerAnalyzerModel" "situations" "I", .fieldLink RX7 32 "TriggerAnalyzerModel" "all" "[I", .methodLink RX7 129 yX7_asks, .instanceMethod yX7_asks, .selects RX7 yX7_asks yX7_asks, .initialized RX7, .code yX7_asks cX7_asks 3 (some .boolean), .fieldLink RX7 45 "TriggerAnalyzerModel" "thrown" "I", .methodLink RX7 125 yX7_isWhole, .instanceMethod yX7_isWhole, .selects RX7 yX7_isWhole yX7_isWhole, .code yX7_isWhole cX7_isWhole 1 (some .boolean), .fieldLink RX7 67 "TriggerAnalyzerModel" "isExplored" "Z", .fieldLink RX7 116 "TriggerAnalyzerModel" "isTooMuch" "Z", .methodLink RX7 81 yX7_triggeredIn, .static yX7_triggeredIn, .code yX7_triggeredIn cX7_triggeredIn 1 (some .int)] ++ wsX70)
def wsX7_after : List Cond := .code yX7_after cX7_after 3 (some .int) :: ([.fieldLink RX7 113 "TriggerAnalyzerModel" "situations" "I", .fieldLink RX7 49 "TriggerAnalyzerModel" "rules" "I", .fieldLink RX7 35 "TriggerAnalyzerModel" "next" "[I", .methodLink RX7 129 yX7_asks, .instanceMethod yX7_asks, .selects RX7 yX7_asks yX7_asks, .initialized RX7, .code yX7_asks cX7_asks 3 (some .boolean), .fieldLink RX7 45 "TriggerAnalyzerModel" "thrown" "I", .methodLink RX7 125 yX7_isWhole, .instanceMethod yX7_isWhole, .selects RX7 yX7_isWhole yX7_isWhole, .code yX7_isWhole cX7_isWhole 1 (some .boolean), .fieldLink RX7 67 "TriggerAnalyzerModel" "isExplored" "Z", .fieldLink RX7 116 "TriggerAnalyzerModel" "isTooMuch" "Z"] ++ wsX70)
def wsX7_isEnd : List Cond := .code yX7_isEnd cX7_isEnd 2 (some .boolean) :: ([.fieldLink RX7 32 "TriggerAnalyzerModel" "all" "[I", .methodLink RX7 81 yX7_triggeredIn, .static yX7_triggeredIn, .initialized RX7, .code yX7_triggeredIn cX7_triggeredIn 1 (some .int)] ++ wsX70)
def wsX7_isSettled : List Cond := .code yX7_isSettled cX7_isSettled 4 (some .boolean) :: ([.fieldLink RX7 49 "TriggerAnalyzerModel" "rules" "I", .fieldLink RX7 35 "TriggerAnalyzerModel" "next" "[I", .fieldLink RX7 38 "TriggerAnalyzerModel" "longests" "[I"] ++ wsX70)
def wsX7_settle : List Cond := .code yX7_settle cX7_settle 5 (some .boolean) :: ([.fieldLink RX7 113 "TriggerAnalyzerModel" "situations" "I", .fieldLink RX7 38 "TriggerAnalyzerModel" "longests" "[I", .fieldLink RX7 41 "TriggerAnalyzerModel" "counts" "[J", .fieldLink RX7 49 "TriggerAnalyzerModel" "rules" "I", .fieldLink RX7 35 "TriggerAnalyzerModel" "next" "[I", .methodLink RX7 138 Lib.Math.max.name, .static Lib.Math.max.name, .initialized "java/lang/Math", .code Lib.Math.max.name Lib.Math.max.code 2 (some .int), .methodLink RX7 132 yX7_isSettled, .instanceMethod yX7_isSettled, .selects RX7 yX7_isSettled yX7_isSettled, .initialized RX7, .code yX7_isSettled cX7_isSettled 4 (some .boolean), .methodLink RX7 135 yX7_isEnd, .instanceMethod yX7_isEnd, .selects RX7 yX7_isEnd yX7_isEnd, .code yX7_isEnd cX7_isEnd 2 (some .boolean), .fieldLink RX7 32 "TriggerAnalyzerModel" "all" "[I", .methodLink RX7 81 yX7_triggeredIn, .static yX7_triggeredIn, .code yX7_triggeredIn cX7_triggeredIn 1 (some .int)] ++ wsX70)
def wsX7_terminates_r1 : List Cond := [Cond.methodLink RX7 129 yX7_asks, Cond.instanceMethod yX7_asks, Cond.selects RX7 yX7_asks yX7_asks, Cond.initialized RX7, Cond.code yX7_asks cX7_asks 3 (some .boolean), Cond.fieldLink RX7 45 "TriggerAnalyzerModel" "thrown" "I", Cond.methodLink RX7 125 yX7_isWhole, Cond.instanceMethod yX7_isWhole, Cond.selects RX7 yX7_isWhole yX7_isWhole, Cond.code yX7_isWhole cX7_isWhole 1 (some .boolean), Cond.fieldLink RX7 67 "TriggerAnalyzerModel" "isExplored" "Z", Cond.fieldLink RX7 116 "TriggerAnalyzerModel" "isTooMuch" "Z", Cond.methodLink RX7 143 yX7_settle, Cond.instanceMethod yX7_settle, Cond.selects RX7 yX7_settle yX7_settle, Cond.code yX7_settle cX7_settle 5 (some .boolean), Cond.fieldLink RX7 113 "TriggerAnalyzerModel" "situations" "I", Cond.fieldLink RX7 38 "TriggerAnalyzerModel" "longests" "[I", Cond.fieldLink RX7 41 "TriggerAnalyzerModel" "counts" "[J", Cond.fieldLink RX7 49 "TriggerAnalyzerModel" "rules" "I", Cond.fieldLink RX7 35 "TriggerAnalyzerModel" "next" "[I", Cond.methodLink RX7 138 Lib.Math.max.name, Cond.static Lib.Math.max.name, Cond.initialized "java/lang/Math"]
def wsX7_terminates_r2 : List Cond := [Cond.code Lib.Math.max.name Lib.Math.max.code 2 (some .int), Cond.methodLink RX7 132 yX7_isSettled, Cond.instanceMethod yX7_isSettled, Cond.selects RX7 yX7_isSettled yX7_isSettled, Cond.code yX7_isSettled cX7_isSettled 4 (some .boolean), Cond.methodLink RX7 135 yX7_isEnd, Cond.instanceMethod yX7_isEnd, Cond.selects RX7 yX7_isEnd yX7_isEnd, Cond.code yX7_isEnd cX7_isEnd 2 (some .boolean), Cond.fieldLink RX7 32 "TriggerAnalyzerModel" "all" "[I", Cond.methodLink RX7 81 yX7_triggeredIn, Cond.static yX7_triggeredIn, Cond.code yX7_triggeredIn cX7_triggeredIn 1 (some .int)]
def wsX7_terminates : List Cond := .code yX7_terminates cX7_terminates 1 (some .boolean) :: ((wsX7_terminates_r1 ++ wsX7_terminates_r2) ++ wsX70)
def wsX7_endCount : List Cond := .code yX7_endCount cX7_endCount 3 (some .int) :: ([.fieldLink RX7 113 "TriggerAnalyzerModel" "situations" "I", .methodLink RX7 129 yX7_asks, .instanceMethod yX7_asks, .selects RX7 yX7_asks yX7_asks, .initialized RX7, .code yX7_asks cX7_asks 3 (some .boolean), .fieldLink RX7 45 "TriggerAnalyzerModel" "thrown" "I", .methodLink RX7 125 yX7_isWhole, .instanceMethod yX7_isWhole, .selects RX7 yX7_isWhole yX7_isWhole, .code yX7_isWhole cX7_isWhole 1 (some .boolean), .fieldLink RX7 67 "TriggerAnalyzerModel" "isExplored" "Z", .fieldLink RX7 116 "TriggerAnalyzerModel" "isTooMuch" "Z", .methodLink RX7 135 yX7_isEnd, .instanceMethod yX7_isEnd, .selects RX7 yX7_isEnd yX7_isEnd, .code yX7_isEnd cX7_isEnd 2 (some .boolean), .fieldLink RX7 32 "TriggerAnalyzerModel" "all" "[I", .methodLink RX7 81 yX7_triggeredIn, .static yX7_triggeredIn, .code yX7_triggeredIn cX7_triggeredIn 1 (some .int)] ++ wsX70)
def wsX7_end_r1 : List Cond := [Cond.fieldLink RX7 32 "TriggerAnalyzerModel" "all" "[I", Cond.methodLink RX7 146 yX7_endCount, Cond.instanceMethod yX7_endCount, Cond.selects RX7 yX7_endCount yX7_endCount, Cond.initialized RX7, Cond.code yX7_endCount cX7_endCount 3 (some .int), Cond.fieldLink RX7 113 "TriggerAnalyzerModel" "situations" "I", Cond.methodLink RX7 129 yX7_asks, Cond.instanceMethod yX7_asks, Cond.selects RX7 yX7_asks yX7_asks, Cond.code yX7_asks cX7_asks 3 (some .boolean), Cond.fieldLink RX7 45 "TriggerAnalyzerModel" "thrown" "I", Cond.methodLink RX7 125 yX7_isWhole, Cond.instanceMethod yX7_isWhole, Cond.selects RX7 yX7_isWhole yX7_isWhole, Cond.code yX7_isWhole cX7_isWhole 1 (some .boolean), Cond.fieldLink RX7 67 "TriggerAnalyzerModel" "isExplored" "Z", Cond.fieldLink RX7 116 "TriggerAnalyzerModel" "isTooMuch" "Z", Cond.methodLink RX7 135 yX7_isEnd, Cond.instanceMethod yX7_isEnd, Cond.selects RX7 yX7_isEnd yX7_isEnd, Cond.code yX7_isEnd cX7_isEnd 2 (some .boolean), Cond.methodLink RX7 81 yX7_triggeredIn, Cond.static yX7_triggeredIn]
def wsX7_end_r2 : List Cond := [Cond.code yX7_triggeredIn cX7_triggeredIn 1 (some .int)]
def wsX7_end : List Cond := .code yX7_end cX7_end 5 (some .int) :: ((wsX7_end_r1 ++ wsX7_end_r2) ++ wsX70)
def wsX7_shortest : List Cond := .code yX7_shortest cX7_shortest 5 (some .int) :: ([.fieldLink RX7 113 "TriggerAnalyzerModel" "situations" "I", .arrayClass .int, .fieldLink RX7 49 "TriggerAnalyzerModel" "rules" "I", .fieldLink RX7 35 "TriggerAnalyzerModel" "next" "[I", .methodLink RX7 129 yX7_asks, .instanceMethod yX7_asks, .selects RX7 yX7_asks yX7_asks, .initialized RX7, .code yX7_asks cX7_asks 3 (some .boolean), .fieldLink RX7 45 "TriggerAnalyzerModel" "thrown" "I", .methodLink RX7 125 yX7_isWhole, .instanceMethod yX7_isWhole, .selects RX7 yX7_isWhole yX7_isWhole, .code yX7_isWhole cX7_isWhole 1 (some .boolean), .fieldLink RX7 67 "TriggerAnalyzerModel" "isExplored" "Z", .fieldLink RX7 116 "TriggerAnalyzerModel" "isTooMuch" "Z", .methodLink RX7 135 yX7_isEnd, .instanceMethod yX7_isEnd, .selects RX7 yX7_isEnd yX7_isEnd, .code yX7_isEnd cX7_isEnd 2 (some .boolean), .fieldLink RX7 32 "TriggerAnalyzerModel" "all" "[I", .methodLink RX7 81 yX7_triggeredIn, .static yX7_triggeredIn, .code yX7_triggeredIn cX7_triggeredIn 1 (some .int)] ++ wsX70)
def wsX7_longest_r1 : List Cond := [Cond.fieldLink RX7 38 "TriggerAnalyzerModel" "longests" "[I", Cond.methodLink RX7 129 yX7_asks, Cond.instanceMethod yX7_asks, Cond.selects RX7 yX7_asks yX7_asks, Cond.initialized RX7, Cond.code yX7_asks cX7_asks 3 (some .boolean), Cond.fieldLink RX7 45 "TriggerAnalyzerModel" "thrown" "I", Cond.methodLink RX7 125 yX7_isWhole, Cond.instanceMethod yX7_isWhole, Cond.selects RX7 yX7_isWhole yX7_isWhole, Cond.code yX7_isWhole cX7_isWhole 1 (some .boolean), Cond.fieldLink RX7 67 "TriggerAnalyzerModel" "isExplored" "Z", Cond.fieldLink RX7 116 "TriggerAnalyzerModel" "isTooMuch" "Z", Cond.methodLink RX7 143 yX7_settle, Cond.instanceMethod yX7_settle, Cond.selects RX7 yX7_settle yX7_settle, Cond.code yX7_settle cX7_settle 5 (some .boolean), Cond.fieldLink RX7 113 "TriggerAnalyzerModel" "situations" "I", Cond.fieldLink RX7 41 "TriggerAnalyzerModel" "counts" "[J", Cond.fieldLink RX7 49 "TriggerAnalyzerModel" "rules" "I", Cond.fieldLink RX7 35 "TriggerAnalyzerModel" "next" "[I", Cond.methodLink RX7 138 Lib.Math.max.name, Cond.static Lib.Math.max.name, Cond.initialized "java/lang/Math"]
def wsX7_longest_r2 : List Cond := [Cond.code Lib.Math.max.name Lib.Math.max.code 2 (some .int), Cond.methodLink RX7 132 yX7_isSettled, Cond.instanceMethod yX7_isSettled, Cond.selects RX7 yX7_isSettled yX7_isSettled, Cond.code yX7_isSettled cX7_isSettled 4 (some .boolean), Cond.methodLink RX7 135 yX7_isEnd, Cond.instanceMethod yX7_isEnd, Cond.selects RX7 yX7_isEnd yX7_isEnd, Cond.code yX7_isEnd cX7_isEnd 2 (some .boolean), Cond.fieldLink RX7 32 "TriggerAnalyzerModel" "all" "[I", Cond.methodLink RX7 81 yX7_triggeredIn, Cond.static yX7_triggeredIn, Cond.code yX7_triggeredIn cX7_triggeredIn 1 (some .int)]
def wsX7_longest : List Cond := .code yX7_longest cX7_longest 1 (some .int) :: ((wsX7_longest_r1 ++ wsX7_longest_r2) ++ wsX70)
def wsX7_ways_r1 : List Cond := [Cond.fieldLink RX7 41 "TriggerAnalyzerModel" "counts" "[J", Cond.constantLong RX7 149 (-1), Cond.methodLink RX7 129 yX7_asks, Cond.instanceMethod yX7_asks, Cond.selects RX7 yX7_asks yX7_asks, Cond.initialized RX7, Cond.code yX7_asks cX7_asks 3 (some .boolean), Cond.fieldLink RX7 45 "TriggerAnalyzerModel" "thrown" "I", Cond.methodLink RX7 125 yX7_isWhole, Cond.instanceMethod yX7_isWhole, Cond.selects RX7 yX7_isWhole yX7_isWhole, Cond.code yX7_isWhole cX7_isWhole 1 (some .boolean), Cond.fieldLink RX7 67 "TriggerAnalyzerModel" "isExplored" "Z", Cond.fieldLink RX7 116 "TriggerAnalyzerModel" "isTooMuch" "Z", Cond.methodLink RX7 143 yX7_settle, Cond.instanceMethod yX7_settle, Cond.selects RX7 yX7_settle yX7_settle, Cond.code yX7_settle cX7_settle 5 (some .boolean), Cond.fieldLink RX7 113 "TriggerAnalyzerModel" "situations" "I", Cond.fieldLink RX7 38 "TriggerAnalyzerModel" "longests" "[I", Cond.fieldLink RX7 49 "TriggerAnalyzerModel" "rules" "I", Cond.fieldLink RX7 35 "TriggerAnalyzerModel" "next" "[I", Cond.methodLink RX7 138 Lib.Math.max.name, Cond.static Lib.Math.max.name]
def wsX7_ways_r2 : List Cond := [Cond.initialized "java/lang/Math", Cond.code Lib.Math.max.name Lib.Math.max.code 2 (some .int), Cond.methodLink RX7 132 yX7_isSettled, Cond.instanceMethod yX7_isSettled, Cond.selects RX7 yX7_isSettled yX7_isSettled, Cond.code yX7_isSettled cX7_isSettled 4 (some .boolean), Cond.methodLink RX7 135 yX7_isEnd, Cond.instanceMethod yX7_isEnd, Cond.selects RX7 yX7_isEnd yX7_isEnd, Cond.code yX7_isEnd cX7_isEnd 2 (some .boolean), Cond.fieldLink RX7 32 "TriggerAnalyzerModel" "all" "[I", Cond.methodLink RX7 81 yX7_triggeredIn, Cond.static yX7_triggeredIn, Cond.code yX7_triggeredIn cX7_triggeredIn 1 (some .int)]
def wsX7_ways : List Cond := .code yX7_ways cX7_ways 1 (some .long) :: ((wsX7_ways_r1 ++ wsX7_ways_r2) ++ wsX70)
def wsX7_isPlayed : List Cond := .code yX7_isPlayed cX7_isPlayed 4 (some .boolean) :: ([.fieldLink RX7 49 "TriggerAnalyzerModel" "rules" "I", .fieldLink RX7 113 "TriggerAnalyzerModel" "situations" "I", .fieldLink RX7 35 "TriggerAnalyzerModel" "next" "[I", .methodLink RX7 129 yX7_asks, .instanceMethod yX7_asks, .selects RX7 yX7_asks yX7_asks, .initialized RX7, .code yX7_asks cX7_asks 3 (some .boolean), .fieldLink RX7 45 "TriggerAnalyzerModel" "thrown" "I", .methodLink RX7 125 yX7_isWhole, .instanceMethod yX7_isWhole, .selects RX7 yX7_isWhole yX7_isWhole, .code yX7_isWhole cX7_isWhole 1 (some .boolean), .fieldLink RX7 67 "TriggerAnalyzerModel" "isExplored" "Z", .fieldLink RX7 116 "TriggerAnalyzerModel" "isTooMuch" "Z"] ++ wsX70)
def wsX7_choice_r1 : List Cond := [Cond.fieldLink RX7 113 "TriggerAnalyzerModel" "situations" "I", Cond.fieldLink RX7 32 "TriggerAnalyzerModel" "all" "[I", Cond.methodLink RX7 129 yX7_asks, Cond.instanceMethod yX7_asks, Cond.selects RX7 yX7_asks yX7_asks, Cond.initialized RX7, Cond.code yX7_asks cX7_asks 3 (some .boolean), Cond.fieldLink RX7 45 "TriggerAnalyzerModel" "thrown" "I", Cond.methodLink RX7 125 yX7_isWhole, Cond.instanceMethod yX7_isWhole, Cond.selects RX7 yX7_isWhole yX7_isWhole, Cond.code yX7_isWhole cX7_isWhole 1 (some .boolean), Cond.fieldLink RX7 67 "TriggerAnalyzerModel" "isExplored" "Z", Cond.fieldLink RX7 116 "TriggerAnalyzerModel" "isTooMuch" "Z", Cond.methodLink RX7 102 yX7_readyIn, Cond.instanceMethod yX7_readyIn, Cond.selects RX7 yX7_readyIn yX7_readyIn, Cond.code yX7_readyIn cX7_readyIn 5 (some .int), Cond.fieldLink RX7 49 "TriggerAnalyzerModel" "rules" "I", Cond.fieldLink RX7 29 "TriggerAnalyzerModel" "below" "[I", Cond.methodLink RX7 81 yX7_triggeredIn, Cond.static yX7_triggeredIn, Cond.code yX7_triggeredIn cX7_triggeredIn 1 (some .int), Cond.methodLink RX7 77 yX7_has]
def wsX7_choice_r2 : List Cond := [Cond.static yX7_has, Cond.code yX7_has cX7_has 2 (some .boolean), Cond.methodLink RX7 151 yJ6_bitCount_0f7a4, Cond.static yJ6_bitCount_0f7a4, Cond.initialized RJ6, Cond.code yJ6_bitCount_0f7a4 cJ6_bitCount_0f7a4 1 (some .int), Cond.constant RJ6 265 (1431655765), Cond.constant RJ6 266 (858993459), Cond.constant RJ6 267 (252645135)]
def wsX7_choice : List Cond := .code yX7_choice cX7_choice 3 (some .double) :: ((wsX7_choice_r1 ++ wsX7_choice_r2) ++ wsX70)
def wsX7_triggers : List Cond := .code yX7_triggers cX7_triggers 5 (some .int) :: ([.fieldLink RX7 49 "TriggerAnalyzerModel" "rules" "I", .fieldLink RX7 19 "TriggerAnalyzerModel" "many" "[I", .fieldLink RX7 25 "TriggerAnalyzerModel" "areOn" "[Z", .fieldLink RX7 22 "TriggerAnalyzerModel" "actions" "[I", .fieldLink RX7 9 "TriggerAnalyzerModel" "events" "[I"] ++ wsX70)
def wsX7_canTrigger : List Cond := .code yX7_canTrigger cX7_canTrigger 2 (some .int) :: ([.fieldLink RX7 45 "TriggerAnalyzerModel" "thrown" "I", .methodLink RX7 71 yX7_isRule, .instanceMethod yX7_isRule, .selects RX7 yX7_isRule yX7_isRule, .initialized RX7, .code yX7_isRule cX7_isRule 2 (some .boolean), .fieldLink RX7 49 "TriggerAnalyzerModel" "rules" "I", .methodLink RX7 154 yX7_triggers, .instanceMethod yX7_triggers, .selects RX7 yX7_triggers yX7_triggers, .code yX7_triggers cX7_triggers 5 (some .int), .fieldLink RX7 19 "TriggerAnalyzerModel" "many" "[I", .fieldLink RX7 25 "TriggerAnalyzerModel" "areOn" "[Z", .fieldLink RX7 22 "TriggerAnalyzerModel" "actions" "[I", .fieldLink RX7 9 "TriggerAnalyzerModel" "events" "[I", .methodLink RX7 56 yX7_fail, .instanceMethod yX7_fail, .selects RX7 yX7_fail yX7_fail, .code yX7_fail cX7_fail 2 (some .int)] ++ wsX70)
def wsX7_circular : List Cond := .code yX7_circular cX7_circular 6 (some .int) :: ([.fieldLink RX7 45 "TriggerAnalyzerModel" "thrown" "I", .fieldLink RX7 49 "TriggerAnalyzerModel" "rules" "I", .methodLink RX7 154 yX7_triggers, .instanceMethod yX7_triggers, .selects RX7 yX7_triggers yX7_triggers, .initialized RX7, .code yX7_triggers cX7_triggers 5 (some .int), .fieldLink RX7 19 "TriggerAnalyzerModel" "many" "[I", .fieldLink RX7 25 "TriggerAnalyzerModel" "areOn" "[Z", .fieldLink RX7 22 "TriggerAnalyzerModel" "actions" "[I", .fieldLink RX7 9 "TriggerAnalyzerModel" "events" "[I", .methodLink RX7 77 yX7_has, .static yX7_has, .code yX7_has cX7_has 2 (some .boolean)] ++ wsX70)
def wsX7_disturbs : List Cond := .code yX7_disturbs cX7_disturbs 7 (some .boolean) :: ([.fieldLink RX7 19 "TriggerAnalyzerModel" "many" "[I", .fieldLink RX7 22 "TriggerAnalyzerModel" "actions" "[I", .fieldLink RX7 13 "TriggerAnalyzerModel" "musts" "[I", .fieldLink RX7 16 "TriggerAnalyzerModel" "mustNots" "[I", .methodLink RX7 77 yX7_has, .static yX7_has, .initialized RX7, .code yX7_has cX7_has 2 (some .boolean)] ++ wsX70)
def wsX7_doCommute : List Cond := .code yX7_doCommute cX7_doCommute 3 (some .boolean) :: ([.fieldLink RX7 25 "TriggerAnalyzerModel" "areOn" "[Z", .methodLink RX7 154 yX7_triggers, .instanceMethod yX7_triggers, .selects RX7 yX7_triggers yX7_triggers, .initialized RX7, .code yX7_triggers cX7_triggers 5 (some .int), .fieldLink RX7 49 "TriggerAnalyzerModel" "rules" "I", .fieldLink RX7 19 "TriggerAnalyzerModel" "many" "[I", .fieldLink RX7 22 "TriggerAnalyzerModel" "actions" "[I", .fieldLink RX7 9 "TriggerAnalyzerModel" "events" "[I", .methodLink RX7 157 yX7_disturbs, .instanceMethod yX7_disturbs, .selects RX7 yX7_disturbs yX7_disturbs, .code yX7_disturbs cX7_disturbs 7 (some .boolean), .fieldLink RX7 13 "TriggerAnalyzerModel" "musts" "[I", .fieldLink RX7 16 "TriggerAnalyzerModel" "mustNots" "[I", .methodLink RX7 77 yX7_has, .static yX7_has, .code yX7_has cX7_has 2 (some .boolean)] ++ wsX70)
def wsX7_commute_r1 : List Cond := [Cond.fieldLink RX7 45 "TriggerAnalyzerModel" "thrown" "I", Cond.methodLink RX7 71 yX7_isRule, Cond.instanceMethod yX7_isRule, Cond.selects RX7 yX7_isRule yX7_isRule, Cond.initialized RX7, Cond.code yX7_isRule cX7_isRule 2 (some .boolean), Cond.fieldLink RX7 49 "TriggerAnalyzerModel" "rules" "I", Cond.methodLink RX7 160 yX7_doCommute, Cond.instanceMethod yX7_doCommute, Cond.selects RX7 yX7_doCommute yX7_doCommute, Cond.code yX7_doCommute cX7_doCommute 3 (some .boolean), Cond.fieldLink RX7 25 "TriggerAnalyzerModel" "areOn" "[Z", Cond.methodLink RX7 154 yX7_triggers, Cond.instanceMethod yX7_triggers, Cond.selects RX7 yX7_triggers yX7_triggers, Cond.code yX7_triggers cX7_triggers 5 (some .int), Cond.fieldLink RX7 19 "TriggerAnalyzerModel" "many" "[I", Cond.fieldLink RX7 22 "TriggerAnalyzerModel" "actions" "[I", Cond.fieldLink RX7 9 "TriggerAnalyzerModel" "events" "[I", Cond.methodLink RX7 157 yX7_disturbs, Cond.instanceMethod yX7_disturbs, Cond.selects RX7 yX7_disturbs yX7_disturbs, Cond.code yX7_disturbs cX7_disturbs 7 (some .boolean), Cond.fieldLink RX7 13 "TriggerAnalyzerModel" "musts" "[I"]
def wsX7_commute_r2 : List Cond := [Cond.fieldLink RX7 16 "TriggerAnalyzerModel" "mustNots" "[I", Cond.methodLink RX7 77 yX7_has, Cond.static yX7_has, Cond.code yX7_has cX7_has 2 (some .boolean)]
def wsX7_commute : List Cond := .code yX7_commute cX7_commute 3 (some .boolean) :: ((wsX7_commute_r1 ++ wsX7_commute_r2) ++ wsX70)
def wsX7_isConflict : List Cond := .code yX7_isConflict cX7_isConflict 3 (some .boolean) :: ([.fieldLink RX7 29 "TriggerAnalyzerModel" "below" "[I", .methodLink RX7 160 yX7_doCommute, .instanceMethod yX7_doCommute, .selects RX7 yX7_doCommute yX7_doCommute, .initialized RX7, .code yX7_doCommute cX7_doCommute 3 (some .boolean), .fieldLink RX7 25 "TriggerAnalyzerModel" "areOn" "[Z", .methodLink RX7 154 yX7_triggers, .instanceMethod yX7_triggers, .selects RX7 yX7_triggers yX7_triggers, .code yX7_triggers cX7_triggers 5 (some .int), .fieldLink RX7 49 "TriggerAnalyzerModel" "rules" "I", .fieldLink RX7 19 "TriggerAnalyzerModel" "many" "[I", .fieldLink RX7 22 "TriggerAnalyzerModel" "actions" "[I", .fieldLink RX7 9 "TriggerAnalyzerModel" "events" "[I", .methodLink RX7 157 yX7_disturbs, .instanceMethod yX7_disturbs, .selects RX7 yX7_disturbs yX7_disturbs, .code yX7_disturbs cX7_disturbs 7 (some .boolean), .fieldLink RX7 13 "TriggerAnalyzerModel" "musts" "[I", .fieldLink RX7 16 "TriggerAnalyzerModel" "mustNots" "[I", .methodLink RX7 77 yX7_has, .static yX7_has, .code yX7_has cX7_has 2 (some .boolean)] ++ wsX70)
def wsX7_conflictCount_r1 : List Cond := [Cond.fieldLink RX7 45 "TriggerAnalyzerModel" "thrown" "I", Cond.fieldLink RX7 49 "TriggerAnalyzerModel" "rules" "I", Cond.methodLink RX7 163 yX7_isConflict, Cond.instanceMethod yX7_isConflict, Cond.selects RX7 yX7_isConflict yX7_isConflict, Cond.initialized RX7, Cond.code yX7_isConflict cX7_isConflict 3 (some .boolean), Cond.fieldLink RX7 29 "TriggerAnalyzerModel" "below" "[I", Cond.methodLink RX7 160 yX7_doCommute, Cond.instanceMethod yX7_doCommute, Cond.selects RX7 yX7_doCommute yX7_doCommute, Cond.code yX7_doCommute cX7_doCommute 3 (some .boolean), Cond.fieldLink RX7 25 "TriggerAnalyzerModel" "areOn" "[Z", Cond.methodLink RX7 154 yX7_triggers, Cond.instanceMethod yX7_triggers, Cond.selects RX7 yX7_triggers yX7_triggers, Cond.code yX7_triggers cX7_triggers 5 (some .int), Cond.fieldLink RX7 19 "TriggerAnalyzerModel" "many" "[I", Cond.fieldLink RX7 22 "TriggerAnalyzerModel" "actions" "[I", Cond.fieldLink RX7 9 "TriggerAnalyzerModel" "events" "[I", Cond.methodLink RX7 157 yX7_disturbs, Cond.instanceMethod yX7_disturbs, Cond.selects RX7 yX7_disturbs yX7_disturbs, Cond.code yX7_disturbs cX7_disturbs 7 (some .boolean)]
def wsX7_conflictCount_r2 : List Cond := [Cond.fieldLink RX7 13 "TriggerAnalyzerModel" "musts" "[I", Cond.fieldLink RX7 16 "TriggerAnalyzerModel" "mustNots" "[I", Cond.methodLink RX7 77 yX7_has, Cond.static yX7_has, Cond.code yX7_has cX7_has 2 (some .boolean)]
def wsX7_conflictCount : List Cond := .code yX7_conflictCount cX7_conflictCount 4 (some .int) :: ((wsX7_conflictCount_r1 ++ wsX7_conflictCount_r2) ++ wsX70)
def wsX7_conflict_r1 : List Cond := [Cond.fieldLink RX7 45 "TriggerAnalyzerModel" "thrown" "I", Cond.fieldLink RX7 49 "TriggerAnalyzerModel" "rules" "I", Cond.methodLink RX7 163 yX7_isConflict, Cond.instanceMethod yX7_isConflict, Cond.selects RX7 yX7_isConflict yX7_isConflict, Cond.initialized RX7, Cond.code yX7_isConflict cX7_isConflict 3 (some .boolean), Cond.fieldLink RX7 29 "TriggerAnalyzerModel" "below" "[I", Cond.methodLink RX7 160 yX7_doCommute, Cond.instanceMethod yX7_doCommute, Cond.selects RX7 yX7_doCommute yX7_doCommute, Cond.code yX7_doCommute cX7_doCommute 3 (some .boolean), Cond.fieldLink RX7 25 "TriggerAnalyzerModel" "areOn" "[Z", Cond.methodLink RX7 154 yX7_triggers, Cond.instanceMethod yX7_triggers, Cond.selects RX7 yX7_triggers yX7_triggers, Cond.code yX7_triggers cX7_triggers 5 (some .int), Cond.fieldLink RX7 19 "TriggerAnalyzerModel" "many" "[I", Cond.fieldLink RX7 22 "TriggerAnalyzerModel" "actions" "[I", Cond.fieldLink RX7 9 "TriggerAnalyzerModel" "events" "[I", Cond.methodLink RX7 157 yX7_disturbs, Cond.instanceMethod yX7_disturbs, Cond.selects RX7 yX7_disturbs yX7_disturbs, Cond.code yX7_disturbs cX7_disturbs 7 (some .boolean)]
def wsX7_conflict_r2 : List Cond := [Cond.fieldLink RX7 13 "TriggerAnalyzerModel" "musts" "[I", Cond.fieldLink RX7 16 "TriggerAnalyzerModel" "mustNots" "[I", Cond.methodLink RX7 77 yX7_has, Cond.static yX7_has, Cond.code yX7_has cX7_has 2 (some .boolean), Cond.methodLink RX7 56 yX7_fail, Cond.instanceMethod yX7_fail, Cond.selects RX7 yX7_fail yX7_fail, Cond.code yX7_fail cX7_fail 2 (some .int)]
def wsX7_conflict : List Cond := .code yX7_conflict cX7_conflict 5 (some .int) :: ((wsX7_conflict_r1 ++ wsX7_conflict_r2) ++ wsX70)
def wsX7_digest : List Cond := .code yX7_digest cX7_digest 5 (some .long) :: ([.fieldLink RX7 45 "TriggerAnalyzerModel" "thrown" "I", .constantLong RX7 166 (4867), .fieldLink RX7 49 "TriggerAnalyzerModel" "rules" "I", .constantLong RX7 168 (31), .fieldLink RX7 9 "TriggerAnalyzerModel" "events" "[I", .fieldLink RX7 13 "TriggerAnalyzerModel" "musts" "[I", .fieldLink RX7 16 "TriggerAnalyzerModel" "mustNots" "[I", .fieldLink RX7 19 "TriggerAnalyzerModel" "many" "[I", .fieldLink RX7 22 "TriggerAnalyzerModel" "actions" "[I", .fieldLink RX7 25 "TriggerAnalyzerModel" "areOn" "[Z", .fieldLink RX7 29 "TriggerAnalyzerModel" "below" "[I", .fieldLink RX7 91 "TriggerAnalyzerModel" "facts" "I", .fieldLink RX7 74 "TriggerAnalyzerModel" "triggered" "I", .fieldLink RX7 67 "TriggerAnalyzerModel" "isExplored" "Z", .fieldLink RX7 116 "TriggerAnalyzerModel" "isTooMuch" "Z", .fieldLink RX7 113 "TriggerAnalyzerModel" "situations" "I"] ++ wsX70)
def wsJ9_max_7cf53 : List Cond := .code yJ9_max_7cf53 cJ9_max_7cf53 2 (some .int) :: ([])
def wsL_addRule_r1 : List Cond := [Cond.classLink RL 13 "java/lang/IndexOutOfBoundsException", Cond.classLink RL 15 "java/lang/IllegalArgumentException", Cond.classLink RL 17 "java/lang/IllegalStateException", Cond.methodLink RL 7 yX6_addRule, Cond.instanceMethod yX6_addRule, Cond.selects RX6 yX6_addRule yX6_addRule, Cond.initialized RX6, Cond.code yX6_addRule cX6_addRule 5 (some .int), Cond.classLink RX6 43 "java/lang/IllegalStateException", Cond.initialized "java/lang/IllegalStateException", Cond.fieldLink RX6 10 "TriggerAnalyzer" "book" "LTriggerAnalyzer$RuleBook;", Cond.fieldLink RX6 28 "TriggerAnalyzer" "exploration" "LTriggerAnalyzer$Exploration;", Cond.methodLink RX6 32 yX6_needFact, Cond.static yX6_needFact, Cond.code yX6_needFact cX6_needFact 1 none, Cond.classLink RX6 179 "java/lang/IndexOutOfBoundsException", Cond.initialized "java/lang/IndexOutOfBoundsException", Cond.methodLink RX6 36 yX6_needFactSet, Cond.static yX6_needFactSet, Cond.code yX6_needFactSet cX6_needFactSet 1 none, Cond.classLink RX6 105 "java/lang/IllegalArgumentException", Cond.initialized "java/lang/IllegalArgumentException", Cond.methodLink RX6 39 yX5_isFull, Cond.instanceMethod yX5_isFull]
def wsL_addRule_r2 : List Cond := [Cond.selects RX5 yX5_isFull yX5_isFull, Cond.initialized RX5, Cond.code yX5_isFull cX5_isFull 1 (some .boolean), Cond.fieldLink RX5 24 "TriggerAnalyzer$RuleBook" "count" "I", Cond.fieldLink RX5 11 "TriggerAnalyzer$RuleBook" "rules" "[LTriggerAnalyzer$Rule;", Cond.methodLink RX6 50 yX1_forget, Cond.instanceMethod yX1_forget, Cond.selects RX1 yX1_forget yX1_forget, Cond.initialized RX1, Cond.code yX1_forget cX1_forget 1 none, Cond.fieldLink RX1 42 "TriggerAnalyzer$Exploration" "done" "Z", Cond.methodLink RX6 53 yX6_changeCode, Cond.static yX6_changeCode, Cond.code yX6_changeCode cX6_changeCode 2 (some .int), Cond.methodLink RX6 57 yX5_append, Cond.instanceMethod yX5_append, Cond.selects RX5 yX5_append yX5_append, Cond.code yX5_append cX5_append 6 (some .int), Cond.fieldLink RX5 28 "TriggerAnalyzer$Rule" "event" "I", Cond.fieldLink RX5 31 "TriggerAnalyzer$Rule" "must" "I", Cond.fieldLink RX5 34 "TriggerAnalyzer$Rule" "mustNot" "I", Cond.methodLink RX5 37 yX5_switchRule, Cond.instanceMethod yX5_switchRule, Cond.selects RX5 yX5_switchRule yX5_switchRule]
def wsL_addRule_r3 : List Cond := [Cond.code yX5_switchRule cX5_switchRule 4 none, Cond.fieldLink RX5 41 "TriggerAnalyzer$Rule" "on" "Z", Cond.fieldLink RX5 17 "TriggerAnalyzer$RuleBook" "listeners" "[I", Cond.fieldLink RX5 45 "TriggerAnalyzer$Rule" "bit" "I"]
def wsL_addRule : List Cond := .codeWith yL_addRule cL_addRule 7 (some .int) [(0, 14, 17, 13), (0, 14, 21, 15), (0, 14, 25, 17)] :: ((wsL_addRule_r1 ++ (wsL_addRule_r2 ++ wsL_addRule_r3)) ++ wsX60 ++ wsX50 ++ wsX10 ++ wsX40 ++ (vx_atS RX6 47 "java/lang/IllegalStateException" ["java/lang/RuntimeException", "java/lang/Exception"]).filter goodWord ++ (vx_atS RX6 183 "java/lang/IndexOutOfBoundsException" ["java/lang/RuntimeException", "java/lang/Exception"]).filter goodWord ++ (vx_atS RX6 109 "java/lang/IllegalArgumentException" ["java/lang/RuntimeException", "java/lang/Exception"]).filter goodWord)
def wsL_addAction_r1 : List Cond := [Cond.classLink RL 13 "java/lang/IndexOutOfBoundsException", Cond.classLink RL 17 "java/lang/IllegalStateException", Cond.methodLink RL 19 yX6_addAction, Cond.instanceMethod yX6_addAction, Cond.selects RX6 yX6_addAction yX6_addAction, Cond.initialized RX6, Cond.code yX6_addAction cX6_addAction 5 (some .int), Cond.classLink RX6 43 "java/lang/IllegalStateException", Cond.initialized "java/lang/IllegalStateException", Cond.fieldLink RX6 28 "TriggerAnalyzer" "exploration" "LTriggerAnalyzer$Exploration;", Cond.fieldLink RX6 72 "TriggerAnalyzer$Rule" "actionCount" "I", Cond.methodLink RX6 61 yX6_ruleAt, Cond.instanceMethod yX6_ruleAt, Cond.selects RX6 yX6_ruleAt yX6_ruleAt, Cond.code yX6_ruleAt cX6_ruleAt 3 (some (.object "TriggerAnalyzer$Rule")), Cond.classLink RX6 179 "java/lang/IndexOutOfBoundsException", Cond.initialized "java/lang/IndexOutOfBoundsException", Cond.fieldLink RX6 10 "TriggerAnalyzer" "book" "LTriggerAnalyzer$RuleBook;", Cond.methodLink RX6 230 yX5_ruleOrNull, Cond.instanceMethod yX5_ruleOrNull, Cond.selects RX5 yX5_ruleOrNull yX5_ruleOrNull, Cond.initialized RX5, Cond.code yX5_ruleOrNull cX5_ruleOrNull 2 (some (.object "TriggerAnalyzer$Rule")), Cond.fieldLink RX5 24 "TriggerAnalyzer$RuleBook" "count" "I"]
def wsL_addAction_r2 : List Cond := [Cond.fieldLink RX5 11 "TriggerAnalyzer$RuleBook" "rules" "[LTriggerAnalyzer$Rule;", Cond.methodLink RX6 32 yX6_needFact, Cond.static yX6_needFact, Cond.code yX6_needFact cX6_needFact 1 none, Cond.methodLink RX6 65 yX4_isFull, Cond.instanceMethod yX4_isFull, Cond.selects RX4 yX4_isFull yX4_isFull, Cond.initialized RX4, Cond.code yX4_isFull cX4_isFull 1 (some .boolean), Cond.fieldLink RX4 19 "TriggerAnalyzer$Rule" "actionCount" "I", Cond.fieldLink RX4 9 "TriggerAnalyzer$Rule" "actions" "[I", Cond.methodLink RX6 50 yX1_forget, Cond.instanceMethod yX1_forget, Cond.selects RX1 yX1_forget yX1_forget, Cond.initialized RX1, Cond.code yX1_forget cX1_forget 1 none, Cond.fieldLink RX1 42 "TriggerAnalyzer$Exploration" "done" "Z", Cond.methodLink RX6 53 yX6_changeCode, Cond.static yX6_changeCode, Cond.code yX6_changeCode cX6_changeCode 2 (some .int), Cond.methodLink RX6 70 yX4_append, Cond.instanceMethod yX4_append, Cond.selects RX4 yX4_append yX4_append, Cond.code yX4_append cX4_append 3 none]
def wsL_addAction_r3 : List Cond := [Cond.fieldLink RX4 22 "TriggerAnalyzer$Rule" "setFacts" "I", Cond.fieldLink RX4 25 "TriggerAnalyzer$Rule" "unsetFacts" "I"]
def wsL_addAction : List Cond := .codeWith yL_addAction cL_addAction 6 (some .int) [(0, 12, 15, 13), (0, 12, 19, 17)] :: ((wsL_addAction_r1 ++ (wsL_addAction_r2 ++ wsL_addAction_r3)) ++ wsX60 ++ wsX40 ++ wsX50 ++ wsX10 ++ (vx_atS RX6 47 "java/lang/IllegalStateException" ["java/lang/RuntimeException", "java/lang/Exception"]).filter goodWord ++ (vx_atS RX6 183 "java/lang/IndexOutOfBoundsException" ["java/lang/RuntimeException", "java/lang/Exception"]).filter goodWord)
def wsL_turn_r1 : List Cond := [Cond.classLink RL 13 "java/lang/IndexOutOfBoundsException", Cond.methodLink RL 23 yX6_turn, Cond.instanceMethod yX6_turn, Cond.selects RX6 yX6_turn yX6_turn, Cond.initialized RX6, Cond.code yX6_turn cX6_turn 5 (some .boolean), Cond.fieldLink RX6 76 "TriggerAnalyzer$Rule" "on" "Z", Cond.fieldLink RX6 28 "TriggerAnalyzer" "exploration" "LTriggerAnalyzer$Exploration;", Cond.fieldLink RX6 10 "TriggerAnalyzer" "book" "LTriggerAnalyzer$RuleBook;", Cond.fieldLink RX6 84 "TriggerAnalyzer" "present" "I", Cond.fieldLink RX6 94 "TriggerAnalyzer$Rule" "bit" "I", Cond.methodLink RX6 61 yX6_ruleAt, Cond.instanceMethod yX6_ruleAt, Cond.selects RX6 yX6_ruleAt yX6_ruleAt, Cond.code yX6_ruleAt cX6_ruleAt 3 (some (.object "TriggerAnalyzer$Rule")), Cond.classLink RX6 179 "java/lang/IndexOutOfBoundsException", Cond.initialized "java/lang/IndexOutOfBoundsException", Cond.methodLink RX6 230 yX5_ruleOrNull, Cond.instanceMethod yX5_ruleOrNull, Cond.selects RX5 yX5_ruleOrNull yX5_ruleOrNull, Cond.initialized RX5, Cond.code yX5_ruleOrNull cX5_ruleOrNull 2 (some (.object "TriggerAnalyzer$Rule")), Cond.fieldLink RX5 24 "TriggerAnalyzer$RuleBook" "count" "I", Cond.fieldLink RX5 11 "TriggerAnalyzer$RuleBook" "rules" "[LTriggerAnalyzer$Rule;"]
def wsL_turn_r2 : List Cond := [Cond.methodLink RX6 50 yX1_forget, Cond.instanceMethod yX1_forget, Cond.selects RX1 yX1_forget yX1_forget, Cond.initialized RX1, Cond.code yX1_forget cX1_forget 1 none, Cond.fieldLink RX1 42 "TriggerAnalyzer$Exploration" "done" "Z", Cond.methodLink RX6 80 yX5_switchRule, Cond.instanceMethod yX5_switchRule, Cond.selects RX5 yX5_switchRule yX5_switchRule, Cond.code yX5_switchRule cX5_switchRule 4 none, Cond.fieldLink RX5 41 "TriggerAnalyzer$Rule" "on" "Z", Cond.fieldLink RX5 28 "TriggerAnalyzer$Rule" "event" "I", Cond.fieldLink RX5 17 "TriggerAnalyzer$RuleBook" "listeners" "[I", Cond.fieldLink RX5 45 "TriggerAnalyzer$Rule" "bit" "I", Cond.methodLink RX6 87 yX6_factsIn, Cond.static yX6_factsIn, Cond.code yX6_factsIn cX6_factsIn 1 (some .int), Cond.methodLink RX6 91 yX6_triggeredIn, Cond.static yX6_triggeredIn, Cond.code yX6_triggeredIn cX6_triggeredIn 1 (some .int), Cond.methodLink RX6 97 yX6_situationOf, Cond.static yX6_situationOf, Cond.code yX6_situationOf cX6_situationOf 2 (some .int)]
def wsL_turn : List Cond := .codeWith yL_turn cL_turn 5 (some .int) [(0, 17, 20, 13)] :: ((wsL_turn_r1 ++ wsL_turn_r2) ++ wsX40 ++ wsX60 ++ wsX50 ++ wsX10 ++ (vx_atS RX6 183 "java/lang/IndexOutOfBoundsException" ["java/lang/RuntimeException", "java/lang/Exception"]).filter goodWord)
def wsL_rank_r1 : List Cond := [Cond.classLink RL 13 "java/lang/IndexOutOfBoundsException", Cond.classLink RL 15 "java/lang/IllegalArgumentException", Cond.methodLink RL 27 yX6_rank, Cond.instanceMethod yX6_rank, Cond.selects RX6 yX6_rank yX6_rank, Cond.initialized RX6, Cond.code yX6_rank cX6_rank 6 (some .boolean), Cond.classLink RX6 105 "java/lang/IllegalArgumentException", Cond.initialized "java/lang/IllegalArgumentException", Cond.fieldLink RX6 28 "TriggerAnalyzer" "exploration" "LTriggerAnalyzer$Exploration;", Cond.fieldLink RX6 10 "TriggerAnalyzer" "book" "LTriggerAnalyzer$RuleBook;", Cond.methodLink RX6 61 yX6_ruleAt, Cond.instanceMethod yX6_ruleAt, Cond.selects RX6 yX6_ruleAt yX6_ruleAt, Cond.code yX6_ruleAt cX6_ruleAt 3 (some (.object "TriggerAnalyzer$Rule")), Cond.classLink RX6 179 "java/lang/IndexOutOfBoundsException", Cond.initialized "java/lang/IndexOutOfBoundsException", Cond.methodLink RX6 230 yX5_ruleOrNull, Cond.instanceMethod yX5_ruleOrNull, Cond.selects RX5 yX5_ruleOrNull yX5_ruleOrNull, Cond.initialized RX5, Cond.code yX5_ruleOrNull cX5_ruleOrNull 2 (some (.object "TriggerAnalyzer$Rule")), Cond.fieldLink RX5 24 "TriggerAnalyzer$RuleBook" "count" "I", Cond.fieldLink RX5 11 "TriggerAnalyzer$RuleBook" "rules" "[LTriggerAnalyzer$Rule;"]
def wsL_rank_r2 : List Cond := [Cond.methodLink RX6 101 yX4_isOver, Cond.instanceMethod yX4_isOver, Cond.selects RX4 yX4_isOver yX4_isOver, Cond.initialized RX4, Cond.code yX4_isOver cX4_isOver 2 (some .boolean), Cond.fieldLink RX4 28 "TriggerAnalyzer$Rule" "below" "I", Cond.fieldLink RX4 15 "TriggerAnalyzer$Rule" "bit" "I", Cond.methodLink RX6 50 yX1_forget, Cond.instanceMethod yX1_forget, Cond.selects RX1 yX1_forget yX1_forget, Cond.initialized RX1, Cond.code yX1_forget cX1_forget 1 none, Cond.fieldLink RX1 42 "TriggerAnalyzer$Exploration" "done" "Z", Cond.methodLink RX6 110 yX5_order, Cond.instanceMethod yX5_order, Cond.selects RX5 yX5_order yX5_order, Cond.code yX5_order cX5_order 7 none, Cond.fieldLink RX5 48 "TriggerAnalyzer$Rule" "above" "I", Cond.fieldLink RX5 45 "TriggerAnalyzer$Rule" "bit" "I", Cond.fieldLink RX5 51 "TriggerAnalyzer$Rule" "below" "I"]
def wsL_rank : List Cond := .codeWith yL_rank cL_rank 5 (some .int) [(0, 17, 20, 13), (0, 17, 24, 15)] :: ((wsL_rank_r1 ++ wsL_rank_r2) ++ wsX60 ++ wsX50 ++ wsX40 ++ wsX10 ++ (vx_atS RX6 109 "java/lang/IllegalArgumentException" ["java/lang/RuntimeException", "java/lang/Exception"]).filter goodWord ++ (vx_atS RX6 183 "java/lang/IndexOutOfBoundsException" ["java/lang/RuntimeException", "java/lang/Exception"]).filter goodWord)
def wsL_isAbove_r1 : List Cond := [Cond.classLink RL 13 "java/lang/IndexOutOfBoundsException", Cond.methodLink RL 31 yX6_isAbove, Cond.instanceMethod yX6_isAbove, Cond.selects RX6 yX6_isAbove yX6_isAbove, Cond.initialized RX6, Cond.code yX6_isAbove cX6_isAbove 5 (some .boolean), Cond.methodLink RX6 61 yX6_ruleAt, Cond.instanceMethod yX6_ruleAt, Cond.selects RX6 yX6_ruleAt yX6_ruleAt, Cond.code yX6_ruleAt cX6_ruleAt 3 (some (.object "TriggerAnalyzer$Rule")), Cond.classLink RX6 179 "java/lang/IndexOutOfBoundsException", Cond.initialized "java/lang/IndexOutOfBoundsException", Cond.fieldLink RX6 10 "TriggerAnalyzer" "book" "LTriggerAnalyzer$RuleBook;", Cond.methodLink RX6 230 yX5_ruleOrNull, Cond.instanceMethod yX5_ruleOrNull, Cond.selects RX5 yX5_ruleOrNull yX5_ruleOrNull, Cond.initialized RX5, Cond.code yX5_ruleOrNull cX5_ruleOrNull 2 (some (.object "TriggerAnalyzer$Rule")), Cond.fieldLink RX5 24 "TriggerAnalyzer$RuleBook" "count" "I", Cond.fieldLink RX5 11 "TriggerAnalyzer$RuleBook" "rules" "[LTriggerAnalyzer$Rule;", Cond.methodLink RX6 101 yX4_isOver, Cond.instanceMethod yX4_isOver, Cond.selects RX4 yX4_isOver yX4_isOver, Cond.initialized RX4]
def wsL_isAbove_r2 : List Cond := [Cond.code yX4_isOver cX4_isOver 2 (some .boolean), Cond.fieldLink RX4 28 "TriggerAnalyzer$Rule" "below" "I", Cond.fieldLink RX4 15 "TriggerAnalyzer$Rule" "bit" "I"]
def wsL_isAbove : List Cond := .codeWith yL_isAbove cL_isAbove 5 (some .int) [(0, 17, 20, 13)] :: ((wsL_isAbove_r1 ++ wsL_isAbove_r2) ++ wsX60 ++ wsX50 ++ wsX40 ++ (vx_atS RX6 183 "java/lang/IndexOutOfBoundsException" ["java/lang/RuntimeException", "java/lang/Exception"]).filter goodWord)
def wsL_put_r1 : List Cond := [Cond.classLink RL 15 "java/lang/IllegalArgumentException", Cond.methodLink RL 34 yX6_put, Cond.instanceMethod yX6_put, Cond.selects RX6 yX6_put yX6_put, Cond.initialized RX6, Cond.code yX6_put cX6_put 3 (some .int), Cond.fieldLink RX6 84 "TriggerAnalyzer" "present" "I", Cond.fieldLink RX6 28 "TriggerAnalyzer" "exploration" "LTriggerAnalyzer$Exploration;", Cond.methodLink RX6 36 yX6_needFactSet, Cond.static yX6_needFactSet, Cond.code yX6_needFactSet cX6_needFactSet 1 none, Cond.classLink RX6 105 "java/lang/IllegalArgumentException", Cond.initialized "java/lang/IllegalArgumentException", Cond.methodLink RX6 87 yX6_factsIn, Cond.static yX6_factsIn, Cond.code yX6_factsIn cX6_factsIn 1 (some .int), Cond.methodLink RX6 50 yX1_forget, Cond.instanceMethod yX1_forget, Cond.selects RX1 yX1_forget yX1_forget, Cond.initialized RX1, Cond.code yX1_forget cX1_forget 1 none, Cond.fieldLink RX1 42 "TriggerAnalyzer$Exploration" "done" "Z", Cond.methodLink RX6 97 yX6_situationOf, Cond.static yX6_situationOf]
def wsL_put_r2 : List Cond := [Cond.code yX6_situationOf cX6_situationOf 2 (some .int)]
def wsL_put : List Cond := .codeWith yL_put cL_put 4 (some .int) [(0, 9, 12, 15)] :: ((wsL_put_r1 ++ wsL_put_r2) ++ wsX60 ++ wsX10 ++ (vx_atS RX6 109 "java/lang/IllegalArgumentException" ["java/lang/RuntimeException", "java/lang/Exception"]).filter goodWord)
def wsL_change_r1 : List Cond := [Cond.classLink RL 13 "java/lang/IndexOutOfBoundsException", Cond.methodLink RL 38 yX6_change, Cond.instanceMethod yX6_change, Cond.selects RX6 yX6_change yX6_change, Cond.initialized RX6, Cond.code yX6_change cX6_change 3 (some .int), Cond.fieldLink RX6 28 "TriggerAnalyzer" "exploration" "LTriggerAnalyzer$Exploration;", Cond.fieldLink RX6 10 "TriggerAnalyzer" "book" "LTriggerAnalyzer$RuleBook;", Cond.fieldLink RX6 84 "TriggerAnalyzer" "present" "I", Cond.methodLink RX6 32 yX6_needFact, Cond.static yX6_needFact, Cond.code yX6_needFact cX6_needFact 1 none, Cond.classLink RX6 179 "java/lang/IndexOutOfBoundsException", Cond.initialized "java/lang/IndexOutOfBoundsException", Cond.methodLink RX6 50 yX1_forget, Cond.instanceMethod yX1_forget, Cond.selects RX1 yX1_forget yX1_forget, Cond.initialized RX1, Cond.code yX1_forget cX1_forget 1 none, Cond.fieldLink RX1 42 "TriggerAnalyzer$Exploration" "done" "Z", Cond.methodLink RX6 53 yX6_changeCode, Cond.static yX6_changeCode, Cond.code yX6_changeCode cX6_changeCode 2 (some .int), Cond.methodLink RX6 118 yX5_changed]
def wsL_change_r2 : List Cond := [Cond.instanceMethod yX5_changed, Cond.selects RX5 yX5_changed yX5_changed, Cond.initialized RX5, Cond.code yX5_changed cX5_changed 7 (some .int), Cond.static yX6_triggeredIn, Cond.code yX6_triggeredIn cX6_triggeredIn 1 (some .int), Cond.methodLink RX5 58 yX5_listenersTo, Cond.instanceMethod yX5_listenersTo, Cond.selects RX5 yX5_listenersTo yX5_listenersTo, Cond.code yX5_listenersTo cX5_listenersTo 2 (some .int), Cond.fieldLink RX5 17 "TriggerAnalyzer$RuleBook" "listeners" "[I", Cond.static yX6_factsIn, Cond.code yX6_factsIn cX6_factsIn 1 (some .int), Cond.static yX6_situationOf, Cond.code yX6_situationOf cX6_situationOf 2 (some .int), Cond.methodLink RX6 91 yX6_triggeredIn]
def wsL_change : List Cond := .codeWith yL_change cL_change 5 (some .int) [(0, 10, 13, 13)] :: ((wsL_change_r1 ++ wsL_change_r2) ++ wsX60 ++ wsX10 ++ wsX50 ++ (vx_atS RX6 183 "java/lang/IndexOutOfBoundsException" ["java/lang/RuntimeException", "java/lang/Exception"]).filter goodWord)
def wsL_play_r1 : List Cond := [Cond.classLink RL 13 "java/lang/IndexOutOfBoundsException", Cond.classLink RL 17 "java/lang/IllegalStateException", Cond.methodLink RL 42 yX6_play, Cond.instanceMethod yX6_play, Cond.selects RX6 yX6_play yX6_play, Cond.initialized RX6, Cond.code yX6_play cX6_play 4 (some .boolean), Cond.classLink RX6 43 "java/lang/IllegalStateException", Cond.initialized "java/lang/IllegalStateException", Cond.fieldLink RX6 84 "TriggerAnalyzer" "present" "I", Cond.fieldLink RX6 28 "TriggerAnalyzer" "exploration" "LTriggerAnalyzer$Exploration;", Cond.fieldLink RX6 10 "TriggerAnalyzer" "book" "LTriggerAnalyzer$RuleBook;", Cond.methodLink RX6 61 yX6_ruleAt, Cond.instanceMethod yX6_ruleAt, Cond.selects RX6 yX6_ruleAt yX6_ruleAt, Cond.code yX6_ruleAt cX6_ruleAt 3 (some (.object "TriggerAnalyzer$Rule")), Cond.classLink RX6 179 "java/lang/IndexOutOfBoundsException", Cond.initialized "java/lang/IndexOutOfBoundsException", Cond.methodLink RX6 230 yX5_ruleOrNull, Cond.instanceMethod yX5_ruleOrNull, Cond.selects RX5 yX5_ruleOrNull yX5_ruleOrNull, Cond.initialized RX5, Cond.code yX5_ruleOrNull cX5_ruleOrNull 2 (some (.object "TriggerAnalyzer$Rule")), Cond.fieldLink RX5 24 "TriggerAnalyzer$RuleBook" "count" "I"]
def wsL_play_r2 : List Cond := [Cond.fieldLink RX5 11 "TriggerAnalyzer$RuleBook" "rules" "[LTriggerAnalyzer$Rule;", Cond.methodLink RX6 124 yX4_isReadyIn, Cond.instanceMethod yX4_isReadyIn, Cond.selects RX4 yX4_isReadyIn yX4_isReadyIn, Cond.initialized RX4, Cond.code yX4_isReadyIn cX4_isReadyIn 3 (some .boolean), Cond.fieldLink RX4 15 "TriggerAnalyzer$Rule" "bit" "I", Cond.fieldLink RX4 35 "TriggerAnalyzer$Rule" "above" "I", Cond.static yX6_triggeredIn, Cond.code yX6_triggeredIn cX6_triggeredIn 1 (some .int), Cond.methodLink RX6 130 yX4_holdsIn, Cond.instanceMethod yX4_holdsIn, Cond.selects RX4 yX4_holdsIn yX4_holdsIn, Cond.code yX4_holdsIn cX4_holdsIn 3 (some .boolean), Cond.fieldLink RX4 41 "TriggerAnalyzer$Rule" "must" "I", Cond.fieldLink RX4 44 "TriggerAnalyzer$Rule" "mustNot" "I", Cond.static yX6_factsIn, Cond.code yX6_factsIn cX6_factsIn 1 (some .int), Cond.methodLink RX6 50 yX1_forget, Cond.instanceMethod yX1_forget, Cond.selects RX1 yX1_forget yX1_forget, Cond.initialized RX1, Cond.code yX1_forget cX1_forget 1 none, Cond.fieldLink RX1 42 "TriggerAnalyzer$Exploration" "done" "Z"]
def wsL_play_r3 : List Cond := [Cond.methodLink RX6 133 yX5_played, Cond.instanceMethod yX5_played, Cond.selects RX5 yX5_played yX5_played, Cond.code yX5_played cX5_played 5 (some .int), Cond.fieldLink RX5 45 "TriggerAnalyzer$Rule" "bit" "I", Cond.fieldLink RX5 75 "TriggerAnalyzer$Rule" "actionCount" "I", Cond.static yX6_situationOf, Cond.code yX6_situationOf cX6_situationOf 2 (some .int), Cond.methodLink RX5 72 yX4_holdsIn, Cond.methodLink RX5 78 yX4_actionAt, Cond.instanceMethod yX4_actionAt, Cond.selects RX4 yX4_actionAt yX4_actionAt, Cond.code yX4_actionAt cX4_actionAt 2 (some .int), Cond.fieldLink RX4 9 "TriggerAnalyzer$Rule" "actions" "[I", Cond.methodLink RX5 81 yX5_changed, Cond.instanceMethod yX5_changed, Cond.selects RX5 yX5_changed yX5_changed, Cond.code yX5_changed cX5_changed 7 (some .int), Cond.methodLink RX5 58 yX5_listenersTo, Cond.instanceMethod yX5_listenersTo, Cond.selects RX5 yX5_listenersTo yX5_listenersTo, Cond.code yX5_listenersTo cX5_listenersTo 2 (some .int), Cond.fieldLink RX5 17 "TriggerAnalyzer$RuleBook" "listeners" "[I"]
def wsL_play : List Cond := .codeWith yL_play cL_play 4 (some .int) [(0, 16, 19, 13), (0, 16, 22, 17)] :: ((wsL_play_r1 ++ (wsL_play_r2 ++ wsL_play_r3)) ++ wsX60 ++ wsX50 ++ wsX40 ++ wsX10 ++ (vx_atS RX6 47 "java/lang/IllegalStateException" ["java/lang/RuntimeException", "java/lang/Exception"]).filter goodWord ++ (vx_atS RX6 183 "java/lang/IndexOutOfBoundsException" ["java/lang/RuntimeException", "java/lang/Exception"]).filter goodWord)
def wsL_run_r1 : List Cond := [Cond.classLink RL 15 "java/lang/IllegalArgumentException", Cond.methodLink RL 46 yX6_run, Cond.instanceMethod yX6_run, Cond.selects RX6 yX6_run yX6_run, Cond.initialized RX6, Cond.code yX6_run cX6_run 4 (some .int), Cond.classLink RX6 105 "java/lang/IllegalArgumentException", Cond.initialized "java/lang/IllegalArgumentException", Cond.fieldLink RX6 28 "TriggerAnalyzer" "exploration" "LTriggerAnalyzer$Exploration;", Cond.fieldLink RX6 10 "TriggerAnalyzer" "book" "LTriggerAnalyzer$RuleBook;", Cond.fieldLink RX6 84 "TriggerAnalyzer" "present" "I", Cond.methodLink RX6 50 yX1_forget, Cond.instanceMethod yX1_forget, Cond.selects RX1 yX1_forget yX1_forget, Cond.initialized RX1, Cond.code yX1_forget cX1_forget 1 none, Cond.fieldLink RX1 42 "TriggerAnalyzer$Exploration" "done" "Z", Cond.methodLink RX6 139 yX5_firstReadyIn, Cond.instanceMethod yX5_firstReadyIn, Cond.selects RX5 yX5_firstReadyIn yX5_firstReadyIn, Cond.initialized RX5, Cond.code yX5_firstReadyIn cX5_firstReadyIn 3 (some (.object "TriggerAnalyzer$Rule")), Cond.fieldLink RX5 11 "TriggerAnalyzer$RuleBook" "rules" "[LTriggerAnalyzer$Rule;", Cond.methodLink RX5 68 yX4_isReadyIn]
def wsL_run_r2 : List Cond := [Cond.instanceMethod yX4_isReadyIn, Cond.selects RX4 yX4_isReadyIn yX4_isReadyIn, Cond.initialized RX4, Cond.code yX4_isReadyIn cX4_isReadyIn 3 (some .boolean), Cond.fieldLink RX4 15 "TriggerAnalyzer$Rule" "bit" "I", Cond.fieldLink RX4 35 "TriggerAnalyzer$Rule" "above" "I", Cond.static yX6_triggeredIn, Cond.code yX6_triggeredIn cX6_triggeredIn 1 (some .int), Cond.methodLink RX6 133 yX5_played, Cond.instanceMethod yX5_played, Cond.selects RX5 yX5_played yX5_played, Cond.code yX5_played cX5_played 5 (some .int), Cond.fieldLink RX5 45 "TriggerAnalyzer$Rule" "bit" "I", Cond.fieldLink RX5 75 "TriggerAnalyzer$Rule" "actionCount" "I", Cond.static yX6_factsIn, Cond.code yX6_factsIn cX6_factsIn 1 (some .int), Cond.static yX6_situationOf, Cond.code yX6_situationOf cX6_situationOf 2 (some .int), Cond.methodLink RX5 72 yX4_holdsIn, Cond.instanceMethod yX4_holdsIn, Cond.selects RX4 yX4_holdsIn yX4_holdsIn, Cond.code yX4_holdsIn cX4_holdsIn 3 (some .boolean), Cond.fieldLink RX4 41 "TriggerAnalyzer$Rule" "must" "I", Cond.fieldLink RX4 44 "TriggerAnalyzer$Rule" "mustNot" "I"]
def wsL_run_r3 : List Cond := [Cond.methodLink RX5 78 yX4_actionAt, Cond.instanceMethod yX4_actionAt, Cond.selects RX4 yX4_actionAt yX4_actionAt, Cond.code yX4_actionAt cX4_actionAt 2 (some .int), Cond.fieldLink RX4 9 "TriggerAnalyzer$Rule" "actions" "[I", Cond.methodLink RX5 81 yX5_changed, Cond.instanceMethod yX5_changed, Cond.selects RX5 yX5_changed yX5_changed, Cond.code yX5_changed cX5_changed 7 (some .int), Cond.methodLink RX5 58 yX5_listenersTo, Cond.instanceMethod yX5_listenersTo, Cond.selects RX5 yX5_listenersTo yX5_listenersTo, Cond.code yX5_listenersTo cX5_listenersTo 2 (some .int), Cond.fieldLink RX5 17 "TriggerAnalyzer$RuleBook" "listeners" "[I"]
def wsL_run : List Cond := .codeWith yL_run cL_run 4 (some .int) [(0, 9, 12, 15)] :: ((wsL_run_r1 ++ (wsL_run_r2 ++ wsL_run_r3)) ++ wsX60 ++ wsX10 ++ wsX50 ++ wsX40 ++ (vx_atS RX6 109 "java/lang/IllegalArgumentException" ["java/lang/RuntimeException", "java/lang/Exception"]).filter goodWord)
def wsL_factsOf_r1 : List Cond := [Cond.classLink RL 17 "java/lang/IllegalStateException", Cond.classLink RL 13 "java/lang/IndexOutOfBoundsException", Cond.methodLink RL 49 yX6_factsOf, Cond.instanceMethod yX6_factsOf, Cond.selects RX6 yX6_factsOf yX6_factsOf, Cond.initialized RX6, Cond.code yX6_factsOf cX6_factsOf 2 (some .int), Cond.methodLink RX6 151 yX6_exploredAt, Cond.instanceMethod yX6_exploredAt, Cond.selects RX6 yX6_exploredAt yX6_exploredAt, Cond.code yX6_exploredAt cX6_exploredAt 3 (some .int), Cond.classLink RX6 179 "java/lang/IndexOutOfBoundsException", Cond.initialized "java/lang/IndexOutOfBoundsException", Cond.fieldLink RX6 28 "TriggerAnalyzer" "exploration" "LTriggerAnalyzer$Exploration;", Cond.methodLink RX6 157 yX6_needExplored, Cond.instanceMethod yX6_needExplored, Cond.selects RX6 yX6_needExplored yX6_needExplored, Cond.code yX6_needExplored cX6_needExplored 1 none, Cond.classLink RX6 43 "java/lang/IllegalStateException", Cond.initialized "java/lang/IllegalStateException", Cond.methodLink RX6 240 yX1_isUsable, Cond.instanceMethod yX1_isUsable, Cond.selects RX1 yX1_isUsable yX1_isUsable, Cond.initialized RX1]
def wsL_factsOf_r2 : List Cond := [Cond.code yX1_isUsable cX1_isUsable 1 (some .boolean), Cond.fieldLink RX1 42 "TriggerAnalyzer$Exploration" "done" "Z", Cond.fieldLink RX1 46 "TriggerAnalyzer$Exploration" "tooMany" "Z", Cond.methodLink RX6 235 yX1_situationAt, Cond.instanceMethod yX1_situationAt, Cond.selects RX1 yX1_situationAt yX1_situationAt, Cond.code yX1_situationAt cX1_situationAt 2 (some .int), Cond.fieldLink RX1 49 "TriggerAnalyzer$Exploration" "count" "I", Cond.fieldLink RX1 9 "TriggerAnalyzer$Exploration" "situations" "[I", Cond.methodLink RX6 87 yX6_factsIn, Cond.static yX6_factsIn, Cond.code yX6_factsIn cX6_factsIn 1 (some .int)]
def wsL_factsOf : List Cond := .codeWith yL_factsOf cL_factsOf 4 (some .int) [(0, 9, 12, 17), (0, 9, 15, 13)] :: ((wsL_factsOf_r1 ++ wsL_factsOf_r2) ++ wsX60 ++ wsX10 ++ (vx_atS RX6 183 "java/lang/IndexOutOfBoundsException" ["java/lang/RuntimeException", "java/lang/Exception"]).filter goodWord ++ (vx_atS RX6 47 "java/lang/IllegalStateException" ["java/lang/RuntimeException", "java/lang/Exception"]).filter goodWord)
def wsL_triggeredOf_r1 : List Cond := [Cond.classLink RL 17 "java/lang/IllegalStateException", Cond.classLink RL 13 "java/lang/IndexOutOfBoundsException", Cond.methodLink RL 52 yX6_triggeredOf, Cond.instanceMethod yX6_triggeredOf, Cond.selects RX6 yX6_triggeredOf yX6_triggeredOf, Cond.initialized RX6, Cond.code yX6_triggeredOf cX6_triggeredOf 2 (some .int), Cond.methodLink RX6 151 yX6_exploredAt, Cond.instanceMethod yX6_exploredAt, Cond.selects RX6 yX6_exploredAt yX6_exploredAt, Cond.code yX6_exploredAt cX6_exploredAt 3 (some .int), Cond.classLink RX6 179 "java/lang/IndexOutOfBoundsException", Cond.initialized "java/lang/IndexOutOfBoundsException", Cond.fieldLink RX6 28 "TriggerAnalyzer" "exploration" "LTriggerAnalyzer$Exploration;", Cond.methodLink RX6 157 yX6_needExplored, Cond.instanceMethod yX6_needExplored, Cond.selects RX6 yX6_needExplored yX6_needExplored, Cond.code yX6_needExplored cX6_needExplored 1 none, Cond.classLink RX6 43 "java/lang/IllegalStateException", Cond.initialized "java/lang/IllegalStateException", Cond.methodLink RX6 240 yX1_isUsable, Cond.instanceMethod yX1_isUsable, Cond.selects RX1 yX1_isUsable yX1_isUsable, Cond.initialized RX1]
def wsL_triggeredOf_r2 : List Cond := [Cond.code yX1_isUsable cX1_isUsable 1 (some .boolean), Cond.fieldLink RX1 42 "TriggerAnalyzer$Exploration" "done" "Z", Cond.fieldLink RX1 46 "TriggerAnalyzer$Exploration" "tooMany" "Z", Cond.methodLink RX6 235 yX1_situationAt, Cond.instanceMethod yX1_situationAt, Cond.selects RX1 yX1_situationAt yX1_situationAt, Cond.code yX1_situationAt cX1_situationAt 2 (some .int), Cond.fieldLink RX1 49 "TriggerAnalyzer$Exploration" "count" "I", Cond.fieldLink RX1 9 "TriggerAnalyzer$Exploration" "situations" "[I", Cond.methodLink RX6 91 yX6_triggeredIn, Cond.static yX6_triggeredIn, Cond.code yX6_triggeredIn cX6_triggeredIn 1 (some .int)]
def wsL_triggeredOf : List Cond := .codeWith yL_triggeredOf cL_triggeredOf 4 (some .int) [(0, 9, 12, 17), (0, 9, 15, 13)] :: ((wsL_triggeredOf_r1 ++ wsL_triggeredOf_r2) ++ wsX60 ++ wsX10 ++ (vx_atS RX6 183 "java/lang/IndexOutOfBoundsException" ["java/lang/RuntimeException", "java/lang/Exception"]).filter goodWord ++ (vx_atS RX6 47 "java/lang/IllegalStateException" ["java/lang/RuntimeException", "java/lang/Exception"]).filter goodWord)
def wsL_after_r1 : List Cond := [Cond.classLink RL 17 "java/lang/IllegalStateException", Cond.classLink RL 13 "java/lang/IndexOutOfBoundsException", Cond.methodLink RL 55 yX6_after, Cond.instanceMethod yX6_after, Cond.selects RX6 yX6_after yX6_after, Cond.initialized RX6, Cond.code yX6_after cX6_after 3 (some .int), Cond.fieldLink RX6 28 "TriggerAnalyzer" "exploration" "LTriggerAnalyzer$Exploration;", Cond.methodLink RX6 151 yX6_exploredAt, Cond.instanceMethod yX6_exploredAt, Cond.selects RX6 yX6_exploredAt yX6_exploredAt, Cond.code yX6_exploredAt cX6_exploredAt 3 (some .int), Cond.classLink RX6 179 "java/lang/IndexOutOfBoundsException", Cond.initialized "java/lang/IndexOutOfBoundsException", Cond.methodLink RX6 157 yX6_needExplored, Cond.instanceMethod yX6_needExplored, Cond.selects RX6 yX6_needExplored yX6_needExplored, Cond.code yX6_needExplored cX6_needExplored 1 none, Cond.classLink RX6 43 "java/lang/IllegalStateException", Cond.initialized "java/lang/IllegalStateException", Cond.methodLink RX6 240 yX1_isUsable, Cond.instanceMethod yX1_isUsable, Cond.selects RX1 yX1_isUsable yX1_isUsable, Cond.initialized RX1]
def wsL_after_r2 : List Cond := [Cond.code yX1_isUsable cX1_isUsable 1 (some .boolean), Cond.fieldLink RX1 42 "TriggerAnalyzer$Exploration" "done" "Z", Cond.fieldLink RX1 46 "TriggerAnalyzer$Exploration" "tooMany" "Z", Cond.methodLink RX6 235 yX1_situationAt, Cond.instanceMethod yX1_situationAt, Cond.selects RX1 yX1_situationAt yX1_situationAt, Cond.code yX1_situationAt cX1_situationAt 2 (some .int), Cond.fieldLink RX1 49 "TriggerAnalyzer$Exploration" "count" "I", Cond.fieldLink RX1 9 "TriggerAnalyzer$Exploration" "situations" "[I", Cond.methodLink RX6 61 yX6_ruleAt, Cond.instanceMethod yX6_ruleAt, Cond.selects RX6 yX6_ruleAt yX6_ruleAt, Cond.code yX6_ruleAt cX6_ruleAt 3 (some (.object "TriggerAnalyzer$Rule")), Cond.fieldLink RX6 10 "TriggerAnalyzer" "book" "LTriggerAnalyzer$RuleBook;", Cond.methodLink RX6 230 yX5_ruleOrNull, Cond.instanceMethod yX5_ruleOrNull, Cond.selects RX5 yX5_ruleOrNull yX5_ruleOrNull, Cond.initialized RX5, Cond.code yX5_ruleOrNull cX5_ruleOrNull 2 (some (.object "TriggerAnalyzer$Rule")), Cond.fieldLink RX5 24 "TriggerAnalyzer$RuleBook" "count" "I", Cond.fieldLink RX5 11 "TriggerAnalyzer$RuleBook" "rules" "[LTriggerAnalyzer$Rule;", Cond.methodLink RX6 154 yX1_nextOf, Cond.instanceMethod yX1_nextOf, Cond.selects RX1 yX1_nextOf yX1_nextOf]
def wsL_after_r3 : List Cond := [Cond.code yX1_nextOf cX1_nextOf 4 (some .int), Cond.fieldLink RX1 18 "TriggerAnalyzer$Exploration" "nexts" "[I"]
def wsL_after : List Cond := .codeWith yL_after cL_after 5 (some .int) [(0, 10, 13, 17), (0, 10, 17, 13)] :: ((wsL_after_r1 ++ (wsL_after_r2 ++ wsL_after_r3)) ++ wsX60 ++ wsX10 ++ wsX50 ++ (vx_atS RX6 183 "java/lang/IndexOutOfBoundsException" ["java/lang/RuntimeException", "java/lang/Exception"]).filter goodWord ++ (vx_atS RX6 47 "java/lang/IllegalStateException" ["java/lang/RuntimeException", "java/lang/Exception"]).filter goodWord)
def wsL_terminates_r1 : List Cond := [Cond.classLink RL 17 "java/lang/IllegalStateException", Cond.methodLink RL 59 yX6_terminates, Cond.instanceMethod yX6_terminates, Cond.selects RX6 yX6_terminates yX6_terminates, Cond.initialized RX6, Cond.code yX6_terminates cX6_terminates 1 (some .boolean), Cond.fieldLink RX6 28 "TriggerAnalyzer" "exploration" "LTriggerAnalyzer$Exploration;", Cond.fieldLink RX6 160 "TriggerAnalyzer$Exploration" "prospect" "LTriggerAnalyzer$Prospect;", Cond.methodLink RX6 157 yX6_needExplored, Cond.instanceMethod yX6_needExplored, Cond.selects RX6 yX6_needExplored yX6_needExplored, Cond.code yX6_needExplored cX6_needExplored 1 none, Cond.classLink RX6 43 "java/lang/IllegalStateException", Cond.initialized "java/lang/IllegalStateException", Cond.methodLink RX6 240 yX1_isUsable, Cond.instanceMethod yX1_isUsable, Cond.selects RX1 yX1_isUsable yX1_isUsable, Cond.initialized RX1, Cond.code yX1_isUsable cX1_isUsable 1 (some .boolean), Cond.fieldLink RX1 42 "TriggerAnalyzer$Exploration" "done" "Z", Cond.fieldLink RX1 46 "TriggerAnalyzer$Exploration" "tooMany" "Z", Cond.methodLink RX6 164 yX3_isFinite, Cond.instanceMethod yX3_isFinite, Cond.selects RX3 yX3_isFinite yX3_isFinite]
def wsL_terminates_r2 : List Cond := [Cond.initialized RX3, Cond.code yX3_isFinite cX3_isFinite 1 (some .boolean), Cond.fieldLink RX3 25 "TriggerAnalyzer$Prospect" "finite" "Z"]
def wsL_terminates : List Cond := .codeWith yL_terminates cL_terminates 3 (some .int) [(0, 15, 18, 17)] :: ((wsL_terminates_r1 ++ wsL_terminates_r2) ++ wsX60 ++ wsX10 ++ wsX30 ++ (vx_atS RX6 47 "java/lang/IllegalStateException" ["java/lang/RuntimeException", "java/lang/Exception"]).filter goodWord)
def wsL_endCount_r1 : List Cond := [Cond.classLink RL 17 "java/lang/IllegalStateException", Cond.methodLink RL 63 yX6_endCount, Cond.instanceMethod yX6_endCount, Cond.selects RX6 yX6_endCount yX6_endCount, Cond.initialized RX6, Cond.code yX6_endCount cX6_endCount 1 (some .int), Cond.fieldLink RX6 28 "TriggerAnalyzer" "exploration" "LTriggerAnalyzer$Exploration;", Cond.fieldLink RX6 169 "TriggerAnalyzer$Exploration" "ends" "LTriggerAnalyzer$Ends;", Cond.methodLink RX6 157 yX6_needExplored, Cond.instanceMethod yX6_needExplored, Cond.selects RX6 yX6_needExplored yX6_needExplored, Cond.code yX6_needExplored cX6_needExplored 1 none, Cond.classLink RX6 43 "java/lang/IllegalStateException", Cond.initialized "java/lang/IllegalStateException", Cond.methodLink RX6 240 yX1_isUsable, Cond.instanceMethod yX1_isUsable, Cond.selects RX1 yX1_isUsable yX1_isUsable, Cond.initialized RX1, Cond.code yX1_isUsable cX1_isUsable 1 (some .boolean), Cond.fieldLink RX1 42 "TriggerAnalyzer$Exploration" "done" "Z", Cond.fieldLink RX1 46 "TriggerAnalyzer$Exploration" "tooMany" "Z", Cond.methodLink RX6 173 yX0_size, Cond.instanceMethod yX0_size, Cond.selects RX0 yX0_size yX0_size]
def wsL_endCount_r2 : List Cond := [Cond.initialized RX0, Cond.code yX0_size cX0_size 1 (some .int), Cond.fieldLink RX0 19 "TriggerAnalyzer$Ends" "count" "I"]
def wsL_endCount : List Cond := .codeWith yL_endCount cL_endCount 3 (some .int) [(0, 8, 11, 17)] :: ((wsL_endCount_r1 ++ wsL_endCount_r2) ++ wsX60 ++ wsX10 ++ wsX00 ++ (vx_atS RX6 47 "java/lang/IllegalStateException" ["java/lang/RuntimeException", "java/lang/Exception"]).filter goodWord)
def wsL_end_r1 : List Cond := [Cond.classLink RL 17 "java/lang/IllegalStateException", Cond.classLink RL 13 "java/lang/IndexOutOfBoundsException", Cond.methodLink RL 67 yX6_end, Cond.instanceMethod yX6_end, Cond.selects RX6 yX6_end yX6_end, Cond.initialized RX6, Cond.code yX6_end cX6_end 3 (some .int), Cond.classLink RX6 179 "java/lang/IndexOutOfBoundsException", Cond.initialized "java/lang/IndexOutOfBoundsException", Cond.fieldLink RX6 28 "TriggerAnalyzer" "exploration" "LTriggerAnalyzer$Exploration;", Cond.fieldLink RX6 169 "TriggerAnalyzer$Exploration" "ends" "LTriggerAnalyzer$Ends;", Cond.methodLink RX6 157 yX6_needExplored, Cond.instanceMethod yX6_needExplored, Cond.selects RX6 yX6_needExplored yX6_needExplored, Cond.code yX6_needExplored cX6_needExplored 1 none, Cond.classLink RX6 43 "java/lang/IllegalStateException", Cond.initialized "java/lang/IllegalStateException", Cond.methodLink RX6 240 yX1_isUsable, Cond.instanceMethod yX1_isUsable, Cond.selects RX1 yX1_isUsable yX1_isUsable, Cond.initialized RX1, Cond.code yX1_isUsable cX1_isUsable 1 (some .boolean), Cond.fieldLink RX1 42 "TriggerAnalyzer$Exploration" "done" "Z", Cond.fieldLink RX1 46 "TriggerAnalyzer$Exploration" "tooMany" "Z"]
def wsL_end_r2 : List Cond := [Cond.methodLink RX6 176 yX0_factsAt, Cond.instanceMethod yX0_factsAt, Cond.selects RX0 yX0_factsAt yX0_factsAt, Cond.initialized RX0, Cond.code yX0_factsAt cX0_factsAt 2 (some .int), Cond.fieldLink RX0 19 "TriggerAnalyzer$Ends" "count" "I", Cond.fieldLink RX0 9 "TriggerAnalyzer$Ends" "facts" "[I"]
def wsL_end : List Cond := .codeWith yL_end cL_end 4 (some .int) [(0, 9, 12, 17), (0, 9, 15, 13)] :: ((wsL_end_r1 ++ wsL_end_r2) ++ wsX60 ++ wsX10 ++ wsX00 ++ (vx_atS RX6 183 "java/lang/IndexOutOfBoundsException" ["java/lang/RuntimeException", "java/lang/Exception"]).filter goodWord ++ (vx_atS RX6 47 "java/lang/IllegalStateException" ["java/lang/RuntimeException", "java/lang/Exception"]).filter goodWord)
def wsL_shortest_r1 : List Cond := [Cond.classLink RL 17 "java/lang/IllegalStateException", Cond.methodLink RL 70 yX6_shortest, Cond.instanceMethod yX6_shortest, Cond.selects RX6 yX6_shortest yX6_shortest, Cond.initialized RX6, Cond.code yX6_shortest cX6_shortest 1 (some .int), Cond.fieldLink RX6 28 "TriggerAnalyzer" "exploration" "LTriggerAnalyzer$Exploration;", Cond.fieldLink RX6 169 "TriggerAnalyzer$Exploration" "ends" "LTriggerAnalyzer$Ends;", Cond.methodLink RX6 157 yX6_needExplored, Cond.instanceMethod yX6_needExplored, Cond.selects RX6 yX6_needExplored yX6_needExplored, Cond.code yX6_needExplored cX6_needExplored 1 none, Cond.classLink RX6 43 "java/lang/IllegalStateException", Cond.initialized "java/lang/IllegalStateException", Cond.methodLink RX6 240 yX1_isUsable, Cond.instanceMethod yX1_isUsable, Cond.selects RX1 yX1_isUsable yX1_isUsable, Cond.initialized RX1, Cond.code yX1_isUsable cX1_isUsable 1 (some .boolean), Cond.fieldLink RX1 42 "TriggerAnalyzer$Exploration" "done" "Z", Cond.fieldLink RX1 46 "TriggerAnalyzer$Exploration" "tooMany" "Z", Cond.methodLink RX6 184 yX0_firstDepth, Cond.instanceMethod yX0_firstDepth, Cond.selects RX0 yX0_firstDepth yX0_firstDepth]
def wsL_shortest_r2 : List Cond := [Cond.initialized RX0, Cond.code yX0_firstDepth cX0_firstDepth 1 (some .int), Cond.fieldLink RX0 15 "TriggerAnalyzer$Ends" "nearest" "I"]
def wsL_shortest : List Cond := .codeWith yL_shortest cL_shortest 3 (some .int) [(0, 8, 11, 17)] :: ((wsL_shortest_r1 ++ wsL_shortest_r2) ++ wsX60 ++ wsX10 ++ wsX00 ++ (vx_atS RX6 47 "java/lang/IllegalStateException" ["java/lang/RuntimeException", "java/lang/Exception"]).filter goodWord)
def wsL_longest_r1 : List Cond := [Cond.classLink RL 17 "java/lang/IllegalStateException", Cond.methodLink RL 73 yX6_longest, Cond.instanceMethod yX6_longest, Cond.selects RX6 yX6_longest yX6_longest, Cond.initialized RX6, Cond.code yX6_longest cX6_longest 1 (some .int), Cond.fieldLink RX6 28 "TriggerAnalyzer" "exploration" "LTriggerAnalyzer$Exploration;", Cond.fieldLink RX6 160 "TriggerAnalyzer$Exploration" "prospect" "LTriggerAnalyzer$Prospect;", Cond.methodLink RX6 157 yX6_needExplored, Cond.instanceMethod yX6_needExplored, Cond.selects RX6 yX6_needExplored yX6_needExplored, Cond.code yX6_needExplored cX6_needExplored 1 none, Cond.classLink RX6 43 "java/lang/IllegalStateException", Cond.initialized "java/lang/IllegalStateException", Cond.methodLink RX6 240 yX1_isUsable, Cond.instanceMethod yX1_isUsable, Cond.selects RX1 yX1_isUsable yX1_isUsable, Cond.initialized RX1, Cond.code yX1_isUsable cX1_isUsable 1 (some .boolean), Cond.fieldLink RX1 42 "TriggerAnalyzer$Exploration" "done" "Z", Cond.fieldLink RX1 46 "TriggerAnalyzer$Exploration" "tooMany" "Z", Cond.methodLink RX6 187 yX3_mostPlays, Cond.instanceMethod yX3_mostPlays, Cond.selects RX3 yX3_mostPlays yX3_mostPlays]
def wsL_longest_r2 : List Cond := [Cond.initialized RX3, Cond.code yX3_mostPlays cX3_mostPlays 1 (some .int), Cond.fieldLink RX3 25 "TriggerAnalyzer$Prospect" "finite" "Z", Cond.fieldLink RX3 29 "TriggerAnalyzer$Prospect" "longestRow" "I"]
def wsL_longest : List Cond := .codeWith yL_longest cL_longest 3 (some .int) [(0, 8, 11, 17)] :: ((wsL_longest_r1 ++ wsL_longest_r2) ++ wsX60 ++ wsX10 ++ wsX30 ++ (vx_atS RX6 47 "java/lang/IllegalStateException" ["java/lang/RuntimeException", "java/lang/Exception"]).filter goodWord)
def wsL_ways_r1 : List Cond := [Cond.classLink RL 17 "java/lang/IllegalStateException", Cond.methodLink RL 76 yX6_ways, Cond.instanceMethod yX6_ways, Cond.selects RX6 yX6_ways yX6_ways, Cond.initialized RX6, Cond.code yX6_ways cX6_ways 1 (some .long), Cond.fieldLink RX6 28 "TriggerAnalyzer" "exploration" "LTriggerAnalyzer$Exploration;", Cond.fieldLink RX6 160 "TriggerAnalyzer$Exploration" "prospect" "LTriggerAnalyzer$Prospect;", Cond.methodLink RX6 157 yX6_needExplored, Cond.instanceMethod yX6_needExplored, Cond.selects RX6 yX6_needExplored yX6_needExplored, Cond.code yX6_needExplored cX6_needExplored 1 none, Cond.classLink RX6 43 "java/lang/IllegalStateException", Cond.initialized "java/lang/IllegalStateException", Cond.methodLink RX6 240 yX1_isUsable, Cond.instanceMethod yX1_isUsable, Cond.selects RX1 yX1_isUsable yX1_isUsable, Cond.initialized RX1, Cond.code yX1_isUsable cX1_isUsable 1 (some .boolean), Cond.fieldLink RX1 42 "TriggerAnalyzer$Exploration" "done" "Z", Cond.fieldLink RX1 46 "TriggerAnalyzer$Exploration" "tooMany" "Z", Cond.methodLink RX6 190 yX3_wayCount, Cond.instanceMethod yX3_wayCount, Cond.selects RX3 yX3_wayCount yX3_wayCount]
def wsL_ways_r2 : List Cond := [Cond.initialized RX3, Cond.code yX3_wayCount cX3_wayCount 1 (some .long), Cond.fieldLink RX3 25 "TriggerAnalyzer$Prospect" "finite" "Z", Cond.fieldLink RX3 33 "TriggerAnalyzer$Prospect" "endedRows" "J", Cond.constantLong RX3 37 (-1)]
def wsL_ways : List Cond := .codeWith yL_ways cL_ways 3 (some .int) [(0, 7, 10, 17)] :: ((wsL_ways_r1 ++ wsL_ways_r2) ++ wsX60 ++ wsX10 ++ wsX30 ++ (vx_atS RX6 47 "java/lang/IllegalStateException" ["java/lang/RuntimeException", "java/lang/Exception"]).filter goodWord)
def wsL_isPlayed_r1 : List Cond := [Cond.classLink RL 17 "java/lang/IllegalStateException", Cond.classLink RL 13 "java/lang/IndexOutOfBoundsException", Cond.methodLink RL 80 yX6_isPlayed, Cond.instanceMethod yX6_isPlayed, Cond.selects RX6 yX6_isPlayed yX6_isPlayed, Cond.initialized RX6, Cond.code yX6_isPlayed cX6_isPlayed 2 (some .boolean), Cond.fieldLink RX6 28 "TriggerAnalyzer" "exploration" "LTriggerAnalyzer$Exploration;", Cond.fieldLink RX6 94 "TriggerAnalyzer$Rule" "bit" "I", Cond.methodLink RX6 157 yX6_needExplored, Cond.instanceMethod yX6_needExplored, Cond.selects RX6 yX6_needExplored yX6_needExplored, Cond.code yX6_needExplored cX6_needExplored 1 none, Cond.classLink RX6 43 "java/lang/IllegalStateException", Cond.initialized "java/lang/IllegalStateException", Cond.methodLink RX6 240 yX1_isUsable, Cond.instanceMethod yX1_isUsable, Cond.selects RX1 yX1_isUsable yX1_isUsable, Cond.initialized RX1, Cond.code yX1_isUsable cX1_isUsable 1 (some .boolean), Cond.fieldLink RX1 42 "TriggerAnalyzer$Exploration" "done" "Z", Cond.fieldLink RX1 46 "TriggerAnalyzer$Exploration" "tooMany" "Z", Cond.methodLink RX6 194 yX1_everReady, Cond.instanceMethod yX1_everReady]
def wsL_isPlayed_r2 : List Cond := [Cond.selects RX1 yX1_everReady yX1_everReady, Cond.code yX1_everReady cX1_everReady 1 (some .int), Cond.fieldLink RX1 53 "TriggerAnalyzer$Exploration" "readyEver" "I", Cond.methodLink RX6 61 yX6_ruleAt, Cond.instanceMethod yX6_ruleAt, Cond.selects RX6 yX6_ruleAt yX6_ruleAt, Cond.code yX6_ruleAt cX6_ruleAt 3 (some (.object "TriggerAnalyzer$Rule")), Cond.classLink RX6 179 "java/lang/IndexOutOfBoundsException", Cond.initialized "java/lang/IndexOutOfBoundsException", Cond.fieldLink RX6 10 "TriggerAnalyzer" "book" "LTriggerAnalyzer$RuleBook;", Cond.methodLink RX6 230 yX5_ruleOrNull, Cond.instanceMethod yX5_ruleOrNull, Cond.selects RX5 yX5_ruleOrNull yX5_ruleOrNull, Cond.initialized RX5, Cond.code yX5_ruleOrNull cX5_ruleOrNull 2 (some (.object "TriggerAnalyzer$Rule")), Cond.fieldLink RX5 24 "TriggerAnalyzer$RuleBook" "count" "I", Cond.fieldLink RX5 11 "TriggerAnalyzer$RuleBook" "rules" "[LTriggerAnalyzer$Rule;"]
def wsL_isPlayed : List Cond := .codeWith yL_isPlayed cL_isPlayed 4 (some .int) [(0, 16, 19, 17), (0, 16, 22, 13)] :: ((wsL_isPlayed_r1 ++ wsL_isPlayed_r2) ++ wsX60 ++ wsX40 ++ wsX10 ++ wsX50 ++ (vx_atS RX6 47 "java/lang/IllegalStateException" ["java/lang/RuntimeException", "java/lang/Exception"]).filter goodWord ++ (vx_atS RX6 183 "java/lang/IndexOutOfBoundsException" ["java/lang/RuntimeException", "java/lang/Exception"]).filter goodWord)
def wsL_choice_r1 : List Cond := [Cond.classLink RL 17 "java/lang/IllegalStateException", Cond.methodLink RL 83 yX6_choice, Cond.instanceMethod yX6_choice, Cond.selects RX6 yX6_choice yX6_choice, Cond.initialized RX6, Cond.code yX6_choice cX6_choice 1 (some .double), Cond.fieldLink RX6 28 "TriggerAnalyzer" "exploration" "LTriggerAnalyzer$Exploration;", Cond.methodLink RX6 157 yX6_needExplored, Cond.instanceMethod yX6_needExplored, Cond.selects RX6 yX6_needExplored yX6_needExplored, Cond.code yX6_needExplored cX6_needExplored 1 none, Cond.classLink RX6 43 "java/lang/IllegalStateException", Cond.initialized "java/lang/IllegalStateException", Cond.methodLink RX6 240 yX1_isUsable, Cond.instanceMethod yX1_isUsable, Cond.selects RX1 yX1_isUsable yX1_isUsable, Cond.initialized RX1, Cond.code yX1_isUsable cX1_isUsable 1 (some .boolean), Cond.fieldLink RX1 42 "TriggerAnalyzer$Exploration" "done" "Z", Cond.fieldLink RX1 46 "TriggerAnalyzer$Exploration" "tooMany" "Z", Cond.methodLink RX6 197 yX1_choiceShare, Cond.instanceMethod yX1_choiceShare, Cond.selects RX1 yX1_choiceShare yX1_choiceShare, Cond.code yX1_choiceShare cX1_choiceShare 1 (some .double)]
def wsL_choice_r2 : List Cond := [Cond.fieldLink RX1 49 "TriggerAnalyzer$Exploration" "count" "I", Cond.fieldLink RX1 56 "TriggerAnalyzer$Exploration" "choices" "I"]
def wsL_choice : List Cond := .codeWith yL_choice cL_choice 3 (some .int) [(0, 7, 10, 17)] :: ((wsL_choice_r1 ++ wsL_choice_r2) ++ wsX60 ++ wsX10 ++ (vx_atS RX6 47 "java/lang/IllegalStateException" ["java/lang/RuntimeException", "java/lang/Exception"]).filter goodWord)
def wsL_canTrigger_r1 : List Cond := [Cond.classLink RL 13 "java/lang/IndexOutOfBoundsException", Cond.methodLink RL 87 yX6_canTrigger, Cond.instanceMethod yX6_canTrigger, Cond.selects RX6 yX6_canTrigger yX6_canTrigger, Cond.initialized RX6, Cond.code yX6_canTrigger cX6_canTrigger 2 (some .int), Cond.fieldLink RX6 10 "TriggerAnalyzer" "book" "LTriggerAnalyzer$RuleBook;", Cond.methodLink RX6 61 yX6_ruleAt, Cond.instanceMethod yX6_ruleAt, Cond.selects RX6 yX6_ruleAt yX6_ruleAt, Cond.code yX6_ruleAt cX6_ruleAt 3 (some (.object "TriggerAnalyzer$Rule")), Cond.classLink RX6 179 "java/lang/IndexOutOfBoundsException", Cond.initialized "java/lang/IndexOutOfBoundsException", Cond.methodLink RX6 230 yX5_ruleOrNull, Cond.instanceMethod yX5_ruleOrNull, Cond.selects RX5 yX5_ruleOrNull yX5_ruleOrNull, Cond.initialized RX5, Cond.code yX5_ruleOrNull cX5_ruleOrNull 2 (some (.object "TriggerAnalyzer$Rule")), Cond.fieldLink RX5 24 "TriggerAnalyzer$RuleBook" "count" "I", Cond.fieldLink RX5 11 "TriggerAnalyzer$RuleBook" "rules" "[LTriggerAnalyzer$Rule;", Cond.methodLink RX6 201 yX5_triggerableBy, Cond.instanceMethod yX5_triggerableBy, Cond.selects RX5 yX5_triggerableBy yX5_triggerableBy, Cond.code yX5_triggerableBy cX5_triggerableBy 4 (some .int)]
def wsL_canTrigger_r2 : List Cond := [Cond.fieldLink RX5 41 "TriggerAnalyzer$Rule" "on" "Z", Cond.fieldLink RX5 75 "TriggerAnalyzer$Rule" "actionCount" "I", Cond.methodLink RX5 78 yX4_actionAt, Cond.instanceMethod yX4_actionAt, Cond.selects RX4 yX4_actionAt yX4_actionAt, Cond.initialized RX4, Cond.code yX4_actionAt cX4_actionAt 2 (some .int), Cond.fieldLink RX4 9 "TriggerAnalyzer$Rule" "actions" "[I", Cond.methodLink RX5 58 yX5_listenersTo, Cond.instanceMethod yX5_listenersTo, Cond.selects RX5 yX5_listenersTo yX5_listenersTo, Cond.code yX5_listenersTo cX5_listenersTo 2 (some .int), Cond.fieldLink RX5 17 "TriggerAnalyzer$RuleBook" "listeners" "[I"]
def wsL_canTrigger : List Cond := .codeWith yL_canTrigger cL_canTrigger 4 (some .int) [(0, 9, 12, 13)] :: ((wsL_canTrigger_r1 ++ wsL_canTrigger_r2) ++ wsX60 ++ wsX50 ++ wsX40 ++ (vx_atS RX6 183 "java/lang/IndexOutOfBoundsException" ["java/lang/RuntimeException", "java/lang/Exception"]).filter goodWord)
def wsL_commute_r1 : List Cond := [Cond.classLink RL 13 "java/lang/IndexOutOfBoundsException", Cond.classLink RL 15 "java/lang/IllegalArgumentException", Cond.methodLink RL 90 yX6_commute, Cond.instanceMethod yX6_commute, Cond.selects RX6 yX6_commute yX6_commute, Cond.initialized RX6, Cond.code yX6_commute cX6_commute 5 (some .boolean), Cond.classLink RX6 105 "java/lang/IllegalArgumentException", Cond.initialized "java/lang/IllegalArgumentException", Cond.fieldLink RX6 21 "TriggerAnalyzer" "judge" "LTriggerAnalyzer$Judge;", Cond.methodLink RX6 61 yX6_ruleAt, Cond.instanceMethod yX6_ruleAt, Cond.selects RX6 yX6_ruleAt yX6_ruleAt, Cond.code yX6_ruleAt cX6_ruleAt 3 (some (.object "TriggerAnalyzer$Rule")), Cond.classLink RX6 179 "java/lang/IndexOutOfBoundsException", Cond.initialized "java/lang/IndexOutOfBoundsException", Cond.fieldLink RX6 10 "TriggerAnalyzer" "book" "LTriggerAnalyzer$RuleBook;", Cond.methodLink RX6 230 yX5_ruleOrNull, Cond.instanceMethod yX5_ruleOrNull, Cond.selects RX5 yX5_ruleOrNull yX5_ruleOrNull, Cond.initialized RX5, Cond.code yX5_ruleOrNull cX5_ruleOrNull 2 (some (.object "TriggerAnalyzer$Rule")), Cond.fieldLink RX5 24 "TriggerAnalyzer$RuleBook" "count" "I", Cond.fieldLink RX5 11 "TriggerAnalyzer$RuleBook" "rules" "[LTriggerAnalyzer$Rule;"]
def wsL_commute_r2 : List Cond := [Cond.methodLink RX6 210 yX2_areIndependent, Cond.instanceMethod yX2_areIndependent, Cond.selects RX2 yX2_areIndependent yX2_areIndependent, Cond.initialized RX2, Cond.code yX2_areIndependent cX2_areIndependent 4 (some .boolean), Cond.fieldLink RX2 32 "TriggerAnalyzer$Rule" "on" "Z", Cond.fieldLink RX2 15 "TriggerAnalyzer$Judge" "book" "LTriggerAnalyzer$RuleBook;", Cond.fieldLink RX2 38 "TriggerAnalyzer$Rule" "bit" "I", Cond.fieldLink RX2 49 "TriggerAnalyzer$Rule" "setFacts" "I", Cond.fieldLink RX2 52 "TriggerAnalyzer$Rule" "unsetFacts" "I", Cond.methodLink RX2 28 yX5_triggerableBy, Cond.instanceMethod yX5_triggerableBy, Cond.selects RX5 yX5_triggerableBy yX5_triggerableBy, Cond.code yX5_triggerableBy cX5_triggerableBy 4 (some .int), Cond.fieldLink RX5 41 "TriggerAnalyzer$Rule" "on" "Z", Cond.fieldLink RX5 75 "TriggerAnalyzer$Rule" "actionCount" "I", Cond.methodLink RX5 78 yX4_actionAt, Cond.instanceMethod yX4_actionAt, Cond.selects RX4 yX4_actionAt yX4_actionAt, Cond.initialized RX4, Cond.code yX4_actionAt cX4_actionAt 2 (some .int), Cond.fieldLink RX4 9 "TriggerAnalyzer$Rule" "actions" "[I", Cond.methodLink RX5 58 yX5_listenersTo, Cond.instanceMethod yX5_listenersTo]
def wsL_commute_r3 : List Cond := [Cond.selects RX5 yX5_listenersTo yX5_listenersTo, Cond.code yX5_listenersTo cX5_listenersTo 2 (some .int), Cond.fieldLink RX5 17 "TriggerAnalyzer$RuleBook" "listeners" "[I", Cond.methodLink RX2 42 yX4_changedFacts, Cond.instanceMethod yX4_changedFacts, Cond.selects RX4 yX4_changedFacts yX4_changedFacts, Cond.code yX4_changedFacts cX4_changedFacts 1 (some .int), Cond.fieldLink RX4 22 "TriggerAnalyzer$Rule" "setFacts" "I", Cond.fieldLink RX4 25 "TriggerAnalyzer$Rule" "unsetFacts" "I", Cond.methodLink RX2 46 yX4_conditionFacts, Cond.instanceMethod yX4_conditionFacts, Cond.selects RX4 yX4_conditionFacts yX4_conditionFacts, Cond.code yX4_conditionFacts cX4_conditionFacts 1 (some .int), Cond.fieldLink RX4 41 "TriggerAnalyzer$Rule" "must" "I", Cond.fieldLink RX4 44 "TriggerAnalyzer$Rule" "mustNot" "I"]
def wsL_commute : List Cond := .codeWith yL_commute cL_commute 5 (some .int) [(0, 17, 20, 13), (0, 17, 24, 15)] :: ((wsL_commute_r1 ++ (wsL_commute_r2 ++ wsL_commute_r3)) ++ wsX60 ++ wsX50 ++ wsX40 ++ wsX20 ++ (vx_atS RX6 109 "java/lang/IllegalArgumentException" ["java/lang/RuntimeException", "java/lang/Exception"]).filter goodWord ++ (vx_atS RX6 183 "java/lang/IndexOutOfBoundsException" ["java/lang/RuntimeException", "java/lang/Exception"]).filter goodWord)
def wsL_conflict_r1 : List Cond := [Cond.classLink RL 13 "java/lang/IndexOutOfBoundsException", Cond.methodLink RL 93 yX6_conflict, Cond.instanceMethod yX6_conflict, Cond.selects RX6 yX6_conflict yX6_conflict, Cond.initialized RX6, Cond.code yX6_conflict cX6_conflict 3 (some .int), Cond.classLink RX6 179 "java/lang/IndexOutOfBoundsException", Cond.initialized "java/lang/IndexOutOfBoundsException", Cond.fieldLink RX6 21 "TriggerAnalyzer" "judge" "LTriggerAnalyzer$Judge;", Cond.methodLink RX6 217 yX2_conflictAt, Cond.instanceMethod yX2_conflictAt, Cond.selects RX2 yX2_conflictAt yX2_conflictAt, Cond.initialized RX2, Cond.code yX2_conflictAt cX2_conflictAt 5 (some .int), Cond.methodLink RX2 63 yX2_areInConflict, Cond.instanceMethod yX2_areInConflict, Cond.selects RX2 yX2_areInConflict yX2_areInConflict, Cond.code yX2_areInConflict cX2_areInConflict 5 (some .boolean), Cond.fieldLink RX2 15 "TriggerAnalyzer$Judge" "book" "LTriggerAnalyzer$RuleBook;", Cond.methodLink RX2 22 yX5_ruleOrNull, Cond.instanceMethod yX5_ruleOrNull, Cond.selects RX5 yX5_ruleOrNull yX5_ruleOrNull, Cond.initialized RX5, Cond.code yX5_ruleOrNull cX5_ruleOrNull 2 (some (.object "TriggerAnalyzer$Rule"))]
def wsL_conflict_r2 : List Cond := [Cond.fieldLink RX5 24 "TriggerAnalyzer$RuleBook" "count" "I", Cond.fieldLink RX5 11 "TriggerAnalyzer$RuleBook" "rules" "[LTriggerAnalyzer$Rule;", Cond.methodLink RX2 55 yX4_isOver, Cond.instanceMethod yX4_isOver, Cond.selects RX4 yX4_isOver yX4_isOver, Cond.initialized RX4, Cond.code yX4_isOver cX4_isOver 2 (some .boolean), Cond.fieldLink RX4 28 "TriggerAnalyzer$Rule" "below" "I", Cond.fieldLink RX4 15 "TriggerAnalyzer$Rule" "bit" "I", Cond.methodLink RX2 59 yX2_areIndependent, Cond.instanceMethod yX2_areIndependent, Cond.selects RX2 yX2_areIndependent yX2_areIndependent, Cond.code yX2_areIndependent cX2_areIndependent 4 (some .boolean), Cond.fieldLink RX2 32 "TriggerAnalyzer$Rule" "on" "Z", Cond.fieldLink RX2 38 "TriggerAnalyzer$Rule" "bit" "I", Cond.fieldLink RX2 49 "TriggerAnalyzer$Rule" "setFacts" "I", Cond.fieldLink RX2 52 "TriggerAnalyzer$Rule" "unsetFacts" "I", Cond.methodLink RX2 28 yX5_triggerableBy, Cond.instanceMethod yX5_triggerableBy, Cond.selects RX5 yX5_triggerableBy yX5_triggerableBy, Cond.code yX5_triggerableBy cX5_triggerableBy 4 (some .int), Cond.fieldLink RX5 41 "TriggerAnalyzer$Rule" "on" "Z", Cond.fieldLink RX5 75 "TriggerAnalyzer$Rule" "actionCount" "I", Cond.methodLink RX5 78 yX4_actionAt]
def wsL_conflict_r3 : List Cond := [Cond.instanceMethod yX4_actionAt, Cond.selects RX4 yX4_actionAt yX4_actionAt, Cond.code yX4_actionAt cX4_actionAt 2 (some .int), Cond.fieldLink RX4 9 "TriggerAnalyzer$Rule" "actions" "[I", Cond.methodLink RX5 58 yX5_listenersTo, Cond.instanceMethod yX5_listenersTo, Cond.selects RX5 yX5_listenersTo yX5_listenersTo, Cond.code yX5_listenersTo cX5_listenersTo 2 (some .int), Cond.fieldLink RX5 17 "TriggerAnalyzer$RuleBook" "listeners" "[I", Cond.methodLink RX2 42 yX4_changedFacts, Cond.instanceMethod yX4_changedFacts, Cond.selects RX4 yX4_changedFacts yX4_changedFacts, Cond.code yX4_changedFacts cX4_changedFacts 1 (some .int), Cond.fieldLink RX4 22 "TriggerAnalyzer$Rule" "setFacts" "I", Cond.fieldLink RX4 25 "TriggerAnalyzer$Rule" "unsetFacts" "I", Cond.methodLink RX2 46 yX4_conditionFacts, Cond.instanceMethod yX4_conditionFacts, Cond.selects RX4 yX4_conditionFacts yX4_conditionFacts, Cond.code yX4_conditionFacts cX4_conditionFacts 1 (some .int), Cond.fieldLink RX4 41 "TriggerAnalyzer$Rule" "must" "I", Cond.fieldLink RX4 44 "TriggerAnalyzer$Rule" "mustNot" "I"]
def wsL_conflict : List Cond := .codeWith yL_conflict cL_conflict 4 (some .int) [(0, 9, 12, 13)] :: ((wsL_conflict_r1 ++ (wsL_conflict_r2 ++ wsL_conflict_r3)) ++ wsX60 ++ wsX20 ++ wsX50 ++ wsX40 ++ (vx_atS RX6 183 "java/lang/IndexOutOfBoundsException" ["java/lang/RuntimeException", "java/lang/Exception"]).filter goodWord)
def wsL_law0_r1 : List Cond := [Cond.classLink RL 8 RX6, Cond.instantiable RX6 4, Cond.initialized RX6, Cond.classLink RL 97 RX7, Cond.instantiable RX7 18, Cond.initialized RX7, Cond.arrayClass .long, Cond.arrayClass .double, Cond.methodLink RL 96 yX6_init, Cond.instanceMethod yX6_init, Cond.code yX6_init cX6_init 1 none, Cond.methodLink RX6 1 objectInit, Cond.instanceMethod objectInit, Cond.code objectInit ⟨#[0xb1]⟩ 1 none, Cond.classLink RX6 7 RX5, Cond.instantiable RX5 3, Cond.initialized RX5, Cond.fieldLink RX6 10 "TriggerAnalyzer" "book" "LTriggerAnalyzer$RuleBook;", Cond.classLink RX6 16 RX2, Cond.instantiable RX2 2, Cond.initialized RX2, Cond.fieldLink RX6 21 "TriggerAnalyzer" "judge" "LTriggerAnalyzer$Judge;", Cond.classLink RX6 25 RX1, Cond.instantiable RX1 12]
def wsL_law0_r2 : List Cond := [Cond.initialized RX1, Cond.fieldLink RX6 28 "TriggerAnalyzer" "exploration" "LTriggerAnalyzer$Exploration;", Cond.methodLink RX6 9 yX5_init, Cond.instanceMethod yX5_init, Cond.code yX5_init cX5_init 2 none, Cond.methodLink RX5 3 objectInit, Cond.classLink RX5 9 RX4, Cond.fieldLink RX5 11 "TriggerAnalyzer$RuleBook" "rules" "[LTriggerAnalyzer$Rule;", Cond.arrayClass .int, Cond.fieldLink RX5 17 "TriggerAnalyzer$RuleBook" "listeners" "[I", Cond.instantiable RX4 11, Cond.initialized RX4, Cond.methodLink RX5 21 yX4_init, Cond.instanceMethod yX4_init, Cond.code yX4_init cX4_init 2 none, Cond.methodLink RX4 3 objectInit, Cond.fieldLink RX4 9 "TriggerAnalyzer$Rule" "actions" "[I", Cond.fieldLink RX4 15 "TriggerAnalyzer$Rule" "bit" "I", Cond.methodLink RX6 18 yX2_init, Cond.instanceMethod yX2_init, Cond.code yX2_init cX2_init 2 none, Cond.methodLink RX2 3 objectInit, Cond.fieldLink RX2 9 "TriggerAnalyzer$Judge" "reach" "[I", Cond.fieldLink RX2 15 "TriggerAnalyzer$Judge" "book" "LTriggerAnalyzer$RuleBook;"]
def wsL_law0_r3 : List Cond := [Cond.methodLink RX6 27 yX1_init, Cond.instanceMethod yX1_init, Cond.code yX1_init cX1_init 2 none, Cond.methodLink RX1 3 objectInit, Cond.fieldLink RX1 9 "TriggerAnalyzer$Exploration" "situations" "[I", Cond.fieldLink RX1 15 "TriggerAnalyzer$Exploration" "depths" "[I", Cond.fieldLink RX1 18 "TriggerAnalyzer$Exploration" "nexts" "[I", Cond.fieldLink RX1 21 "TriggerAnalyzer$Exploration" "places" "[I", Cond.classLink RX1 24 RX0, Cond.instantiable RX0 3, Cond.initialized RX0, Cond.fieldLink RX1 27 "TriggerAnalyzer$Exploration" "ends" "LTriggerAnalyzer$Ends;", Cond.classLink RX1 31 RX3, Cond.instantiable RX3 8, Cond.initialized RX3, Cond.fieldLink RX1 34 "TriggerAnalyzer$Exploration" "prospect" "LTriggerAnalyzer$Prospect;", Cond.fieldLink RX1 38 "TriggerAnalyzer$Exploration" "book" "LTriggerAnalyzer$RuleBook;", Cond.methodLink RX1 26 yX0_init, Cond.instanceMethod yX0_init, Cond.code yX0_init cX0_init 1 none, Cond.methodLink RX0 3 objectInit, Cond.fieldLink RX0 9 "TriggerAnalyzer$Ends" "facts" "[I", Cond.fieldLink RX0 15 "TriggerAnalyzer$Ends" "nearest" "I", Cond.methodLink RX1 33 yX3_init]
def wsL_law0_r4 : List Cond := [Cond.instanceMethod yX3_init, Cond.code yX3_init cX3_init 1 none, Cond.methodLink RX3 3 objectInit, Cond.fieldLink RX3 9 "TriggerAnalyzer$Prospect" "incoming" "[I", Cond.fieldLink RX3 15 "TriggerAnalyzer$Prospect" "plays" "[I", Cond.fieldLink RX3 18 "TriggerAnalyzer$Prospect" "rows" "[J", Cond.fieldLink RX3 22 "TriggerAnalyzer$Prospect" "queue" "[I", Cond.methodLink RL 99 yX7_init, Cond.instanceMethod yX7_init, Cond.code yX7_init cX7_init 1 none, Cond.methodLink RX7 3 objectInit, Cond.fieldLink RX7 9 "TriggerAnalyzerModel" "events" "[I", Cond.fieldLink RX7 13 "TriggerAnalyzerModel" "musts" "[I", Cond.fieldLink RX7 16 "TriggerAnalyzerModel" "mustNots" "[I", Cond.fieldLink RX7 19 "TriggerAnalyzerModel" "many" "[I", Cond.fieldLink RX7 22 "TriggerAnalyzerModel" "actions" "[I", Cond.arrayClass .boolean, Cond.fieldLink RX7 25 "TriggerAnalyzerModel" "areOn" "[Z", Cond.fieldLink RX7 29 "TriggerAnalyzerModel" "below" "[I", Cond.fieldLink RX7 32 "TriggerAnalyzerModel" "all" "[I", Cond.fieldLink RX7 35 "TriggerAnalyzerModel" "next" "[I", Cond.fieldLink RX7 38 "TriggerAnalyzerModel" "longests" "[I", Cond.fieldLink RX7 41 "TriggerAnalyzerModel" "counts" "[J", Cond.methodLink RL 100 yL_addRule]
def wsL_law0_r5 : List Cond := [Cond.static yL_addRule, Cond.initialized RL, Cond.codeWith yL_addRule cL_addRule 7 (some .int) [(0, 14, 17, 13), (0, 14, 21, 15), (0, 14, 25, 17)], Cond.classLink RL 13 "java/lang/IndexOutOfBoundsException", Cond.classLink RL 15 "java/lang/IllegalArgumentException", Cond.classLink RL 17 "java/lang/IllegalStateException", Cond.methodLink RL 7 yX6_addRule, Cond.instanceMethod yX6_addRule, Cond.selects RX6 yX6_addRule yX6_addRule, Cond.code yX6_addRule cX6_addRule 5 (some .int), Cond.classLink RX6 43 "java/lang/IllegalStateException", Cond.initialized "java/lang/IllegalStateException", Cond.methodLink RX6 32 yX6_needFact, Cond.static yX6_needFact, Cond.code yX6_needFact cX6_needFact 1 none, Cond.classLink RX6 179 "java/lang/IndexOutOfBoundsException", Cond.initialized "java/lang/IndexOutOfBoundsException", Cond.methodLink RX6 36 yX6_needFactSet, Cond.static yX6_needFactSet, Cond.code yX6_needFactSet cX6_needFactSet 1 none, Cond.classLink RX6 105 "java/lang/IllegalArgumentException", Cond.initialized "java/lang/IllegalArgumentException", Cond.methodLink RX6 39 yX5_isFull, Cond.instanceMethod yX5_isFull]
def wsL_law0_r6 : List Cond := [Cond.selects RX5 yX5_isFull yX5_isFull, Cond.code yX5_isFull cX5_isFull 1 (some .boolean), Cond.fieldLink RX5 24 "TriggerAnalyzer$RuleBook" "count" "I", Cond.methodLink RX6 50 yX1_forget, Cond.instanceMethod yX1_forget, Cond.selects RX1 yX1_forget yX1_forget, Cond.code yX1_forget cX1_forget 1 none, Cond.fieldLink RX1 42 "TriggerAnalyzer$Exploration" "done" "Z", Cond.methodLink RX6 53 yX6_changeCode, Cond.static yX6_changeCode, Cond.code yX6_changeCode cX6_changeCode 2 (some .int), Cond.methodLink RX6 57 yX5_append, Cond.instanceMethod yX5_append, Cond.selects RX5 yX5_append yX5_append, Cond.code yX5_append cX5_append 6 (some .int), Cond.fieldLink RX5 28 "TriggerAnalyzer$Rule" "event" "I", Cond.fieldLink RX5 31 "TriggerAnalyzer$Rule" "must" "I", Cond.fieldLink RX5 34 "TriggerAnalyzer$Rule" "mustNot" "I", Cond.methodLink RX5 37 yX5_switchRule, Cond.instanceMethod yX5_switchRule, Cond.selects RX5 yX5_switchRule yX5_switchRule, Cond.code yX5_switchRule cX5_switchRule 4 none, Cond.fieldLink RX5 41 "TriggerAnalyzer$Rule" "on" "Z", Cond.fieldLink RX5 45 "TriggerAnalyzer$Rule" "bit" "I"]
def wsL_law0_r7 : List Cond := [Cond.methodLink RL 105 yX7_addRule, Cond.instanceMethod yX7_addRule, Cond.selects RX7 yX7_addRule yX7_addRule, Cond.code yX7_addRule cX7_addRule 5 (some .int), Cond.fieldLink RX7 45 "TriggerAnalyzerModel" "thrown" "I", Cond.fieldLink RX7 49 "TriggerAnalyzerModel" "rules" "I", Cond.fieldLink RX7 67 "TriggerAnalyzerModel" "isExplored" "Z", Cond.methodLink RX7 52 yX7_isFact, Cond.static yX7_isFact, Cond.code yX7_isFact cX7_isFact 1 (some .boolean), Cond.methodLink RX7 56 yX7_fail, Cond.instanceMethod yX7_fail, Cond.selects RX7 yX7_fail yX7_fail, Cond.code yX7_fail cX7_fail 2 (some .int), Cond.methodLink RX7 60 yX7_isSet, Cond.static yX7_isSet, Cond.code yX7_isSet cX7_isSet 1 (some .boolean), Cond.methodLink RX7 63 yX7_literal, Cond.static yX7_literal, Cond.code yX7_literal cX7_literal 2 (some .int), Cond.methodLink RL 106 yX7_thrown, Cond.instanceMethod yX7_thrown, Cond.selects RX7 yX7_thrown yX7_thrown, Cond.code yX7_thrown cX7_thrown 1 (some .int)]
def wsL_law0_r8 : List Cond := [Cond.methodLink RL 109 yL_addAction, Cond.static yL_addAction, Cond.codeWith yL_addAction cL_addAction 6 (some .int) [(0, 12, 15, 13), (0, 12, 19, 17)], Cond.methodLink RL 19 yX6_addAction, Cond.instanceMethod yX6_addAction, Cond.selects RX6 yX6_addAction yX6_addAction, Cond.code yX6_addAction cX6_addAction 5 (some .int), Cond.fieldLink RX6 72 "TriggerAnalyzer$Rule" "actionCount" "I", Cond.methodLink RX6 61 yX6_ruleAt, Cond.instanceMethod yX6_ruleAt, Cond.selects RX6 yX6_ruleAt yX6_ruleAt, Cond.code yX6_ruleAt cX6_ruleAt 3 (some (.object "TriggerAnalyzer$Rule")), Cond.methodLink RX6 230 yX5_ruleOrNull, Cond.instanceMethod yX5_ruleOrNull, Cond.selects RX5 yX5_ruleOrNull yX5_ruleOrNull, Cond.code yX5_ruleOrNull cX5_ruleOrNull 2 (some (.object "TriggerAnalyzer$Rule")), Cond.methodLink RX6 65 yX4_isFull, Cond.instanceMethod yX4_isFull, Cond.selects RX4 yX4_isFull yX4_isFull, Cond.code yX4_isFull cX4_isFull 1 (some .boolean), Cond.fieldLink RX4 19 "TriggerAnalyzer$Rule" "actionCount" "I", Cond.methodLink RX6 70 yX4_append, Cond.instanceMethod yX4_append, Cond.selects RX4 yX4_append yX4_append]
def wsL_law0_r9 : List Cond := [Cond.code yX4_append cX4_append 3 none, Cond.fieldLink RX4 22 "TriggerAnalyzer$Rule" "setFacts" "I", Cond.fieldLink RX4 25 "TriggerAnalyzer$Rule" "unsetFacts" "I", Cond.methodLink RL 112 yX7_addAction, Cond.instanceMethod yX7_addAction, Cond.selects RX7 yX7_addAction yX7_addAction, Cond.code yX7_addAction cX7_addAction 4 (some .int), Cond.methodLink RX7 71 yX7_isRule, Cond.instanceMethod yX7_isRule, Cond.selects RX7 yX7_isRule yX7_isRule, Cond.code yX7_isRule cX7_isRule 2 (some .boolean), Cond.methodLink RL 113 yL_turn, Cond.static yL_turn, Cond.codeWith yL_turn cL_turn 5 (some .int) [(0, 17, 20, 13)], Cond.methodLink RL 23 yX6_turn, Cond.instanceMethod yX6_turn, Cond.selects RX6 yX6_turn yX6_turn, Cond.code yX6_turn cX6_turn 5 (some .boolean), Cond.fieldLink RX6 76 "TriggerAnalyzer$Rule" "on" "Z", Cond.fieldLink RX6 84 "TriggerAnalyzer" "present" "I", Cond.fieldLink RX6 94 "TriggerAnalyzer$Rule" "bit" "I", Cond.methodLink RX6 80 yX5_switchRule, Cond.methodLink RX6 87 yX6_factsIn, Cond.static yX6_factsIn]
def wsL_law0_r10 : List Cond := [Cond.code yX6_factsIn cX6_factsIn 1 (some .int), Cond.methodLink RX6 91 yX6_triggeredIn, Cond.static yX6_triggeredIn, Cond.code yX6_triggeredIn cX6_triggeredIn 1 (some .int), Cond.methodLink RX6 97 yX6_situationOf, Cond.static yX6_situationOf, Cond.code yX6_situationOf cX6_situationOf 2 (some .int), Cond.methodLink RL 116 yX7_turn, Cond.instanceMethod yX7_turn, Cond.selects RX7 yX7_turn yX7_turn, Cond.code yX7_turn cX7_turn 4 (some .boolean), Cond.fieldLink RX7 74 "TriggerAnalyzerModel" "triggered" "I", Cond.methodLink RL 117 yL_rank, Cond.static yL_rank, Cond.codeWith yL_rank cL_rank 5 (some .int) [(0, 17, 20, 13), (0, 17, 24, 15)], Cond.methodLink RL 27 yX6_rank, Cond.instanceMethod yX6_rank, Cond.selects RX6 yX6_rank yX6_rank, Cond.code yX6_rank cX6_rank 6 (some .boolean), Cond.methodLink RX6 101 yX4_isOver, Cond.instanceMethod yX4_isOver, Cond.selects RX4 yX4_isOver yX4_isOver, Cond.code yX4_isOver cX4_isOver 2 (some .boolean), Cond.fieldLink RX4 28 "TriggerAnalyzer$Rule" "below" "I"]
def wsL_law0_r11 : List Cond := [Cond.methodLink RX6 110 yX5_order, Cond.instanceMethod yX5_order, Cond.selects RX5 yX5_order yX5_order, Cond.code yX5_order cX5_order 7 none, Cond.fieldLink RX5 48 "TriggerAnalyzer$Rule" "above" "I", Cond.fieldLink RX5 51 "TriggerAnalyzer$Rule" "below" "I", Cond.methodLink RL 120 yX7_rank, Cond.instanceMethod yX7_rank, Cond.selects RX7 yX7_rank yX7_rank, Cond.code yX7_rank cX7_rank 6 (some .boolean), Cond.methodLink RX7 77 yX7_has, Cond.static yX7_has, Cond.code yX7_has cX7_has 2 (some .boolean), Cond.methodLink RL 121 yL_isAbove, Cond.static yL_isAbove, Cond.codeWith yL_isAbove cL_isAbove 5 (some .int) [(0, 17, 20, 13)], Cond.methodLink RL 31 yX6_isAbove, Cond.instanceMethod yX6_isAbove, Cond.selects RX6 yX6_isAbove yX6_isAbove, Cond.code yX6_isAbove cX6_isAbove 5 (some .boolean), Cond.methodLink RL 123 yX7_isAbove, Cond.instanceMethod yX7_isAbove, Cond.selects RX7 yX7_isAbove yX7_isAbove, Cond.code yX7_isAbove cX7_isAbove 3 (some .boolean)]
def wsL_law0_r12 : List Cond := [Cond.methodLink RL 124 yX6_ruleCount, Cond.instanceMethod yX6_ruleCount, Cond.selects RX6 yX6_ruleCount yX6_ruleCount, Cond.code yX6_ruleCount cX6_ruleCount 1 (some .int), Cond.methodLink RX6 114 yX5_size, Cond.instanceMethod yX5_size, Cond.selects RX5 yX5_size yX5_size, Cond.code yX5_size cX5_size 1 (some .int), Cond.methodLink RL 127 yX7_ruleCount, Cond.instanceMethod yX7_ruleCount, Cond.selects RX7 yX7_ruleCount yX7_ruleCount, Cond.code yX7_ruleCount cX7_ruleCount 1 (some .int), Cond.methodLink RL 128 yL_put, Cond.static yL_put, Cond.codeWith yL_put cL_put 4 (some .int) [(0, 9, 12, 15)], Cond.methodLink RL 34 yX6_put, Cond.instanceMethod yX6_put, Cond.selects RX6 yX6_put yX6_put, Cond.code yX6_put cX6_put 3 (some .int), Cond.methodLink RL 131 yX7_put, Cond.instanceMethod yX7_put, Cond.selects RX7 yX7_put yX7_put, Cond.code yX7_put cX7_put 3 (some .int), Cond.fieldLink RX7 91 "TriggerAnalyzerModel" "facts" "I"]
def wsL_law0_r13 : List Cond := [Cond.methodLink RL 132 yL_change, Cond.static yL_change, Cond.codeWith yL_change cL_change 5 (some .int) [(0, 10, 13, 13)], Cond.methodLink RL 38 yX6_change, Cond.instanceMethod yX6_change, Cond.selects RX6 yX6_change yX6_change, Cond.code yX6_change cX6_change 3 (some .int), Cond.methodLink RX6 118 yX5_changed, Cond.instanceMethod yX5_changed, Cond.selects RX5 yX5_changed yX5_changed, Cond.code yX5_changed cX5_changed 7 (some .int), Cond.methodLink RX5 58 yX5_listenersTo, Cond.instanceMethod yX5_listenersTo, Cond.selects RX5 yX5_listenersTo yX5_listenersTo, Cond.code yX5_listenersTo cX5_listenersTo 2 (some .int), Cond.methodLink RL 134 yX7_change, Cond.instanceMethod yX7_change, Cond.selects RX7 yX7_change yX7_change, Cond.code yX7_change cX7_change 3 (some .int), Cond.methodLink RX7 94 yX7_now, Cond.instanceMethod yX7_now, Cond.selects RX7 yX7_now yX7_now, Cond.code yX7_now cX7_now 1 (some .int), Cond.methodLink RX7 87 yX7_behind]
def wsL_law0_r14 : List Cond := [Cond.instanceMethod yX7_behind, Cond.selects RX7 yX7_behind yX7_behind, Cond.code yX7_behind cX7_behind 7 (some .int), Cond.methodLink RX7 98 yX7_become, Cond.instanceMethod yX7_become, Cond.selects RX7 yX7_become yX7_become, Cond.code yX7_become cX7_become 2 none, Cond.methodLink RX7 81 yX7_triggeredIn, Cond.static yX7_triggeredIn, Cond.code yX7_triggeredIn cX7_triggeredIn 1 (some .int), Cond.methodLink RL 135 yX6_facts, Cond.instanceMethod yX6_facts, Cond.selects RX6 yX6_facts yX6_facts, Cond.code yX6_facts cX6_facts 1 (some .int), Cond.methodLink RL 138 yX7_facts, Cond.instanceMethod yX7_facts, Cond.selects RX7 yX7_facts yX7_facts, Cond.code yX7_facts cX7_facts 1 (some .int), Cond.methodLink RL 139 yX6_triggered, Cond.instanceMethod yX6_triggered, Cond.selects RX6 yX6_triggered yX6_triggered, Cond.code yX6_triggered cX6_triggered 1 (some .int), Cond.methodLink RL 142 yX7_triggered, Cond.instanceMethod yX7_triggered]
def wsL_law0_r15 : List Cond := [Cond.selects RX7 yX7_triggered yX7_triggered, Cond.code yX7_triggered cX7_triggered 1 (some .int), Cond.methodLink RL 143 yX6_ready, Cond.instanceMethod yX6_ready, Cond.selects RX6 yX6_ready yX6_ready, Cond.code yX6_ready cX6_ready 1 (some .int), Cond.methodLink RX6 121 yX5_readyIn, Cond.instanceMethod yX5_readyIn, Cond.selects RX5 yX5_readyIn yX5_readyIn, Cond.code yX5_readyIn cX5_readyIn 4 (some .int), Cond.methodLink RX5 68 yX4_isReadyIn, Cond.instanceMethod yX4_isReadyIn, Cond.selects RX4 yX4_isReadyIn yX4_isReadyIn, Cond.code yX4_isReadyIn cX4_isReadyIn 3 (some .boolean), Cond.fieldLink RX4 35 "TriggerAnalyzer$Rule" "above" "I", Cond.methodLink RL 146 yX7_ready, Cond.instanceMethod yX7_ready, Cond.selects RX7 yX7_ready yX7_ready, Cond.code yX7_ready cX7_ready 1 (some .int), Cond.methodLink RX7 102 yX7_readyIn, Cond.instanceMethod yX7_readyIn, Cond.selects RX7 yX7_readyIn yX7_readyIn, Cond.code yX7_readyIn cX7_readyIn 5 (some .int), Cond.methodLink RL 147 yL_play]
def wsL_law0_r16 : List Cond := [Cond.static yL_play, Cond.codeWith yL_play cL_play 4 (some .int) [(0, 16, 19, 13), (0, 16, 22, 17)], Cond.methodLink RL 42 yX6_play, Cond.instanceMethod yX6_play, Cond.selects RX6 yX6_play yX6_play, Cond.code yX6_play cX6_play 4 (some .boolean), Cond.methodLink RX6 124 yX4_isReadyIn, Cond.methodLink RX6 130 yX4_holdsIn, Cond.instanceMethod yX4_holdsIn, Cond.selects RX4 yX4_holdsIn yX4_holdsIn, Cond.code yX4_holdsIn cX4_holdsIn 3 (some .boolean), Cond.fieldLink RX4 41 "TriggerAnalyzer$Rule" "must" "I", Cond.fieldLink RX4 44 "TriggerAnalyzer$Rule" "mustNot" "I", Cond.methodLink RX6 133 yX5_played, Cond.instanceMethod yX5_played, Cond.selects RX5 yX5_played yX5_played, Cond.code yX5_played cX5_played 5 (some .int), Cond.fieldLink RX5 75 "TriggerAnalyzer$Rule" "actionCount" "I", Cond.methodLink RX5 72 yX4_holdsIn, Cond.methodLink RX5 78 yX4_actionAt, Cond.instanceMethod yX4_actionAt, Cond.selects RX4 yX4_actionAt yX4_actionAt, Cond.code yX4_actionAt cX4_actionAt 2 (some .int), Cond.methodLink RX5 81 yX5_changed]
def wsL_law0_r17 : List Cond := [Cond.methodLink RL 149 yX7_play, Cond.instanceMethod yX7_play, Cond.selects RX7 yX7_play yX7_play, Cond.code yX7_play cX7_play 3 (some .boolean), Cond.methodLink RX7 84 yX7_isTrue, Cond.instanceMethod yX7_isTrue, Cond.selects RX7 yX7_isTrue yX7_isTrue, Cond.code yX7_isTrue cX7_isTrue 4 (some .boolean), Cond.methodLink RX7 105 yX7_playIn, Cond.instanceMethod yX7_playIn, Cond.selects RX7 yX7_playIn yX7_playIn, Cond.code yX7_playIn cX7_playIn 5 (some .int), Cond.methodLink RL 150 yL_run, Cond.static yL_run, Cond.codeWith yL_run cL_run 4 (some .int) [(0, 9, 12, 15)], Cond.methodLink RL 46 yX6_run, Cond.instanceMethod yX6_run, Cond.selects RX6 yX6_run yX6_run, Cond.code yX6_run cX6_run 4 (some .int), Cond.methodLink RX6 139 yX5_firstReadyIn, Cond.instanceMethod yX5_firstReadyIn, Cond.selects RX5 yX5_firstReadyIn yX5_firstReadyIn, Cond.code yX5_firstReadyIn cX5_firstReadyIn 3 (some (.object "TriggerAnalyzer$Rule")), Cond.methodLink RL 152 yX7_run]
def wsL_law0_r18 : List Cond := [Cond.instanceMethod yX7_run, Cond.selects RX7 yX7_run yX7_run, Cond.code yX7_run cX7_run 3 (some .int), Cond.methodLink RX7 108 yJ6_numberOfTrailingZeros_0f7a4, Cond.static yJ6_numberOfTrailingZeros_0f7a4, Cond.initialized RJ6, Cond.code yJ6_numberOfTrailingZeros_0f7a4 cJ6_numberOfTrailingZeros_0f7a4 2 (some .int), Cond.constant RJ6 264 (65536), Cond.methodLink RL 153 yX6_explore, Cond.instanceMethod yX6_explore, Cond.selects RX6 yX6_explore yX6_explore, Cond.code yX6_explore cX6_explore 1 (some .int), Cond.methodLink RX6 142 yX1_isDone, Cond.instanceMethod yX1_isDone, Cond.selects RX1 yX1_isDone yX1_isDone, Cond.code yX1_isDone cX1_isDone 1 (some .boolean), Cond.methodLink RX6 145 yX1_search, Cond.instanceMethod yX1_search, Cond.selects RX1 yX1_search yX1_search, Cond.code yX1_search cX1_search 3 none, Cond.fieldLink RX1 49 "TriggerAnalyzer$Exploration" "count" "I", Cond.fieldLink RX1 46 "TriggerAnalyzer$Exploration" "tooMany" "Z", Cond.methodLink RX1 59 yX1_clear, Cond.instanceMethod yX1_clear]
def wsL_law0_r19 : List Cond := [Cond.selects RX1 yX1_clear yX1_clear, Cond.code yX1_clear cX1_clear 2 none, Cond.fieldLink RX1 53 "TriggerAnalyzer$Exploration" "readyEver" "I", Cond.fieldLink RX1 56 "TriggerAnalyzer$Exploration" "choices" "I", Cond.methodLink RX1 74 yX1_mark, Cond.instanceMethod yX1_mark, Cond.selects RX1 yX1_mark yX1_mark, Cond.code yX1_mark cX1_mark 3 none, Cond.methodLink RX1 78 yX0_clear, Cond.instanceMethod yX0_clear, Cond.selects RX0 yX0_clear yX0_clear, Cond.code yX0_clear cX0_clear 1 none, Cond.fieldLink RX0 19 "TriggerAnalyzer$Ends" "count" "I", Cond.methodLink RX1 62 yX1_placeOf, Cond.instanceMethod yX1_placeOf, Cond.selects RX1 yX1_placeOf yX1_placeOf, Cond.code yX1_placeOf cX1_placeOf 3 (some .int), Cond.methodLink RX1 66 yX1_expand, Cond.instanceMethod yX1_expand, Cond.selects RX1 yX1_expand yX1_expand, Cond.code yX1_expand cX1_expand 7 none, Cond.fieldLink RX1 103 "TriggerAnalyzer$Rule" "bit" "I", Cond.methodLink RX1 79 yX5_readyIn, Cond.methodLink RX1 85 yJ6_bitCount_0f7a4]
def wsL_law0_r20 : List Cond := [Cond.static yJ6_bitCount_0f7a4, Cond.code yJ6_bitCount_0f7a4 cJ6_bitCount_0f7a4 1 (some .int), Cond.constant RJ6 265 (1431655765), Cond.constant RJ6 266 (858993459), Cond.constant RJ6 267 (252645135), Cond.methodLink RX1 96 yX0_append, Cond.instanceMethod yX0_append, Cond.selects RX0 yX0_append yX0_append, Cond.code yX0_append cX0_append 3 none, Cond.methodLink RX1 99 yX5_ruleOrNull, Cond.methodLink RX1 108 yX5_played, Cond.methodLink RX1 112 yX1_keepNext, Cond.instanceMethod yX1_keepNext, Cond.selects RX1 yX1_keepNext yX1_keepNext, Cond.code yX1_keepNext cX1_keepNext 3 none, Cond.methodLink RX1 70 yX3_study, Cond.instanceMethod yX3_study, Cond.selects RX3 yX3_study yX3_study, Cond.code yX3_study cX3_study 3 none, Cond.fieldLink RX3 46 "TriggerAnalyzer$Prospect" "queued" "I", Cond.fieldLink RX3 25 "TriggerAnalyzer$Prospect" "finite" "Z", Cond.methodLink RX3 39 yX3_countIncoming, Cond.instanceMethod yX3_countIncoming, Cond.selects RX3 yX3_countIncoming yX3_countIncoming]
def wsL_law0_r21 : List Cond := [Cond.code yX3_countIncoming cX3_countIncoming 5 none, Cond.methodLink RX3 53 yX1_size, Cond.instanceMethod yX1_size, Cond.selects RX1 yX1_size yX1_size, Cond.code yX1_size cX1_size 1 (some .int), Cond.methodLink RX3 59 yX1_nextOf, Cond.instanceMethod yX1_nextOf, Cond.selects RX1 yX1_nextOf yX1_nextOf, Cond.code yX1_nextOf cX1_nextOf 4 (some .int), Cond.methodLink RX3 43 yX3_startAtFirst, Cond.instanceMethod yX3_startAtFirst, Cond.selects RX3 yX3_startAtFirst yX3_startAtFirst, Cond.code yX3_startAtFirst cX3_startAtFirst 1 none, Cond.fieldLink RX3 29 "TriggerAnalyzer$Prospect" "longestRow" "I", Cond.fieldLink RX3 33 "TriggerAnalyzer$Prospect" "endedRows" "J", Cond.methodLink RX3 63 yX3_enqueue, Cond.instanceMethod yX3_enqueue, Cond.selects RX3 yX3_enqueue yX3_enqueue, Cond.code yX3_enqueue cX3_enqueue 2 none, Cond.methodLink RX3 49 yX3_take, Cond.instanceMethod yX3_take, Cond.selects RX3 yX3_take yX3_take, Cond.code yX3_take cX3_take 6 none, Cond.methodLink RX3 71 Lib.Math.max.name]
def wsL_law0_r22 : List Cond := [Cond.static Lib.Math.max.name, Cond.initialized "java/lang/Math", Cond.code Lib.Math.max.name Lib.Math.max.code 2 (some .int), Cond.methodLink RX3 67 yX3_lead, Cond.instanceMethod yX3_lead, Cond.selects RX3 yX3_lead yX3_lead, Cond.code yX3_lead cX3_lead 5 none, Cond.methodLink RX6 148 yX1_answer, Cond.instanceMethod yX1_answer, Cond.selects RX1 yX1_answer yX1_answer, Cond.code yX1_answer cX1_answer 1 (some .int), Cond.methodLink RL 156 yX7_explore, Cond.instanceMethod yX7_explore, Cond.selects RX7 yX7_explore yX7_explore, Cond.code yX7_explore cX7_explore 1 (some .int), Cond.fieldLink RX7 116 "TriggerAnalyzerModel" "isTooMuch" "Z", Cond.fieldLink RX7 113 "TriggerAnalyzerModel" "situations" "I", Cond.methodLink RX7 122 yX7_exploreAll, Cond.instanceMethod yX7_exploreAll, Cond.selects RX7 yX7_exploreAll yX7_exploreAll, Cond.code yX7_exploreAll cX7_exploreAll 5 none, Cond.methodLink RX7 119 yX7_numberOf, Cond.instanceMethod yX7_numberOf, Cond.selects RX7 yX7_numberOf yX7_numberOf]
def wsL_law0_r23 : List Cond := [Cond.code yX7_numberOf cX7_numberOf 3 (some .int), Cond.methodLink RL 157 yL_factsOf, Cond.static yL_factsOf, Cond.codeWith yL_factsOf cL_factsOf 4 (some .int) [(0, 9, 12, 17), (0, 9, 15, 13)], Cond.methodLink RL 49 yX6_factsOf, Cond.instanceMethod yX6_factsOf, Cond.selects RX6 yX6_factsOf yX6_factsOf, Cond.code yX6_factsOf cX6_factsOf 2 (some .int), Cond.methodLink RX6 151 yX6_exploredAt, Cond.instanceMethod yX6_exploredAt, Cond.selects RX6 yX6_exploredAt yX6_exploredAt, Cond.code yX6_exploredAt cX6_exploredAt 3 (some .int), Cond.methodLink RX6 157 yX6_needExplored, Cond.instanceMethod yX6_needExplored, Cond.selects RX6 yX6_needExplored yX6_needExplored, Cond.code yX6_needExplored cX6_needExplored 1 none, Cond.methodLink RX6 240 yX1_isUsable, Cond.instanceMethod yX1_isUsable, Cond.selects RX1 yX1_isUsable yX1_isUsable, Cond.code yX1_isUsable cX1_isUsable 1 (some .boolean), Cond.methodLink RX6 235 yX1_situationAt, Cond.instanceMethod yX1_situationAt, Cond.selects RX1 yX1_situationAt yX1_situationAt, Cond.code yX1_situationAt cX1_situationAt 2 (some .int)]
def wsL_law0_r24 : List Cond := [Cond.methodLink RL 159 yX7_factsOf, Cond.instanceMethod yX7_factsOf, Cond.selects RX7 yX7_factsOf yX7_factsOf, Cond.code yX7_factsOf cX7_factsOf 2 (some .int), Cond.methodLink RX7 129 yX7_asks, Cond.instanceMethod yX7_asks, Cond.selects RX7 yX7_asks yX7_asks, Cond.code yX7_asks cX7_asks 3 (some .boolean), Cond.methodLink RX7 125 yX7_isWhole, Cond.instanceMethod yX7_isWhole, Cond.selects RX7 yX7_isWhole yX7_isWhole, Cond.code yX7_isWhole cX7_isWhole 1 (some .boolean), Cond.methodLink RL 160 yL_triggeredOf, Cond.static yL_triggeredOf, Cond.codeWith yL_triggeredOf cL_triggeredOf 4 (some .int) [(0, 9, 12, 17), (0, 9, 15, 13)], Cond.methodLink RL 52 yX6_triggeredOf, Cond.instanceMethod yX6_triggeredOf, Cond.selects RX6 yX6_triggeredOf yX6_triggeredOf, Cond.code yX6_triggeredOf cX6_triggeredOf 2 (some .int), Cond.methodLink RL 162 yX7_triggeredOf, Cond.instanceMethod yX7_triggeredOf, Cond.selects RX7 yX7_triggeredOf yX7_triggeredOf, Cond.code yX7_triggeredOf cX7_triggeredOf 2 (some .int), Cond.methodLink RL 163 yL_after]
def wsL_law0_r25 : List Cond := [Cond.static yL_after, Cond.codeWith yL_after cL_after 5 (some .int) [(0, 10, 13, 17), (0, 10, 17, 13)], Cond.methodLink RL 55 yX6_after, Cond.instanceMethod yX6_after, Cond.selects RX6 yX6_after yX6_after, Cond.code yX6_after cX6_after 3 (some .int), Cond.methodLink RX6 154 yX1_nextOf, Cond.methodLink RL 165 yX7_after, Cond.instanceMethod yX7_after, Cond.selects RX7 yX7_after yX7_after, Cond.code yX7_after cX7_after 3 (some .int), Cond.methodLink RL 166 yL_terminates, Cond.static yL_terminates, Cond.codeWith yL_terminates cL_terminates 3 (some .int) [(0, 15, 18, 17)], Cond.methodLink RL 59 yX6_terminates, Cond.instanceMethod yX6_terminates, Cond.selects RX6 yX6_terminates yX6_terminates, Cond.code yX6_terminates cX6_terminates 1 (some .boolean), Cond.fieldLink RX6 160 "TriggerAnalyzer$Exploration" "prospect" "LTriggerAnalyzer$Prospect;", Cond.methodLink RX6 164 yX3_isFinite, Cond.instanceMethod yX3_isFinite, Cond.selects RX3 yX3_isFinite yX3_isFinite, Cond.code yX3_isFinite cX3_isFinite 1 (some .boolean), Cond.methodLink RL 169 yX7_terminates]
def wsL_law0_r26 : List Cond := [Cond.instanceMethod yX7_terminates, Cond.selects RX7 yX7_terminates yX7_terminates, Cond.code yX7_terminates cX7_terminates 1 (some .boolean), Cond.methodLink RX7 143 yX7_settle, Cond.instanceMethod yX7_settle, Cond.selects RX7 yX7_settle yX7_settle, Cond.code yX7_settle cX7_settle 5 (some .boolean), Cond.methodLink RX7 138 Lib.Math.max.name, Cond.methodLink RX7 132 yX7_isSettled, Cond.instanceMethod yX7_isSettled, Cond.selects RX7 yX7_isSettled yX7_isSettled, Cond.code yX7_isSettled cX7_isSettled 4 (some .boolean), Cond.methodLink RX7 135 yX7_isEnd, Cond.instanceMethod yX7_isEnd, Cond.selects RX7 yX7_isEnd yX7_isEnd, Cond.code yX7_isEnd cX7_isEnd 2 (some .boolean), Cond.methodLink RL 170 yL_endCount, Cond.static yL_endCount, Cond.codeWith yL_endCount cL_endCount 3 (some .int) [(0, 8, 11, 17)], Cond.methodLink RL 63 yX6_endCount, Cond.instanceMethod yX6_endCount, Cond.selects RX6 yX6_endCount yX6_endCount, Cond.code yX6_endCount cX6_endCount 1 (some .int), Cond.fieldLink RX6 169 "TriggerAnalyzer$Exploration" "ends" "LTriggerAnalyzer$Ends;"]
def wsL_law0_r27 : List Cond := [Cond.methodLink RX6 173 yX0_size, Cond.instanceMethod yX0_size, Cond.selects RX0 yX0_size yX0_size, Cond.code yX0_size cX0_size 1 (some .int), Cond.methodLink RL 172 yX7_endCount, Cond.instanceMethod yX7_endCount, Cond.selects RX7 yX7_endCount yX7_endCount, Cond.code yX7_endCount cX7_endCount 3 (some .int), Cond.methodLink RL 173 yL_end, Cond.static yL_end, Cond.codeWith yL_end cL_end 4 (some .int) [(0, 9, 12, 17), (0, 9, 15, 13)], Cond.methodLink RL 67 yX6_end, Cond.instanceMethod yX6_end, Cond.selects RX6 yX6_end yX6_end, Cond.code yX6_end cX6_end 3 (some .int), Cond.methodLink RX6 176 yX0_factsAt, Cond.instanceMethod yX0_factsAt, Cond.selects RX0 yX0_factsAt yX0_factsAt, Cond.code yX0_factsAt cX0_factsAt 2 (some .int), Cond.methodLink RL 175 yX7_end, Cond.instanceMethod yX7_end, Cond.selects RX7 yX7_end yX7_end, Cond.code yX7_end cX7_end 5 (some .int), Cond.methodLink RX7 146 yX7_endCount]
def wsL_law0_r28 : List Cond := [Cond.methodLink RL 176 yL_shortest, Cond.static yL_shortest, Cond.codeWith yL_shortest cL_shortest 3 (some .int) [(0, 8, 11, 17)], Cond.methodLink RL 70 yX6_shortest, Cond.instanceMethod yX6_shortest, Cond.selects RX6 yX6_shortest yX6_shortest, Cond.code yX6_shortest cX6_shortest 1 (some .int), Cond.methodLink RX6 184 yX0_firstDepth, Cond.instanceMethod yX0_firstDepth, Cond.selects RX0 yX0_firstDepth yX0_firstDepth, Cond.code yX0_firstDepth cX0_firstDepth 1 (some .int), Cond.methodLink RL 178 yX7_shortest, Cond.instanceMethod yX7_shortest, Cond.selects RX7 yX7_shortest yX7_shortest, Cond.code yX7_shortest cX7_shortest 5 (some .int), Cond.methodLink RL 179 yL_longest, Cond.static yL_longest, Cond.codeWith yL_longest cL_longest 3 (some .int) [(0, 8, 11, 17)], Cond.methodLink RL 73 yX6_longest, Cond.instanceMethod yX6_longest, Cond.selects RX6 yX6_longest yX6_longest, Cond.code yX6_longest cX6_longest 1 (some .int), Cond.methodLink RX6 187 yX3_mostPlays, Cond.instanceMethod yX3_mostPlays]
def wsL_law0_r29 : List Cond := [Cond.selects RX3 yX3_mostPlays yX3_mostPlays, Cond.code yX3_mostPlays cX3_mostPlays 1 (some .int), Cond.methodLink RL 181 yX7_longest, Cond.instanceMethod yX7_longest, Cond.selects RX7 yX7_longest yX7_longest, Cond.code yX7_longest cX7_longest 1 (some .int), Cond.methodLink RL 182 yL_ways, Cond.static yL_ways, Cond.codeWith yL_ways cL_ways 3 (some .int) [(0, 7, 10, 17)], Cond.methodLink RL 76 yX6_ways, Cond.instanceMethod yX6_ways, Cond.selects RX6 yX6_ways yX6_ways, Cond.code yX6_ways cX6_ways 1 (some .long), Cond.methodLink RX6 190 yX3_wayCount, Cond.instanceMethod yX3_wayCount, Cond.selects RX3 yX3_wayCount yX3_wayCount, Cond.code yX3_wayCount cX3_wayCount 1 (some .long), Cond.constantLong RX3 37 (-1), Cond.methodLink RL 184 yX7_ways, Cond.instanceMethod yX7_ways, Cond.selects RX7 yX7_ways yX7_ways, Cond.code yX7_ways cX7_ways 1 (some .long), Cond.constantLong RX7 149 (-1), Cond.methodLink RL 185 yL_isPlayed]
def wsL_law0_r30 : List Cond := [Cond.static yL_isPlayed, Cond.codeWith yL_isPlayed cL_isPlayed 4 (some .int) [(0, 16, 19, 17), (0, 16, 22, 13)], Cond.methodLink RL 80 yX6_isPlayed, Cond.instanceMethod yX6_isPlayed, Cond.selects RX6 yX6_isPlayed yX6_isPlayed, Cond.code yX6_isPlayed cX6_isPlayed 2 (some .boolean), Cond.methodLink RX6 194 yX1_everReady, Cond.instanceMethod yX1_everReady, Cond.selects RX1 yX1_everReady yX1_everReady, Cond.code yX1_everReady cX1_everReady 1 (some .int), Cond.methodLink RL 187 yX7_isPlayed, Cond.instanceMethod yX7_isPlayed, Cond.selects RX7 yX7_isPlayed yX7_isPlayed, Cond.code yX7_isPlayed cX7_isPlayed 4 (some .boolean), Cond.methodLink RL 188 yL_choice, Cond.static yL_choice, Cond.codeWith yL_choice cL_choice 3 (some .int) [(0, 7, 10, 17)], Cond.methodLink RL 83 yX6_choice, Cond.instanceMethod yX6_choice, Cond.selects RX6 yX6_choice yX6_choice, Cond.code yX6_choice cX6_choice 1 (some .double), Cond.methodLink RX6 197 yX1_choiceShare, Cond.instanceMethod yX1_choiceShare, Cond.selects RX1 yX1_choiceShare yX1_choiceShare]
def wsL_law0_r31 : List Cond := [Cond.code yX1_choiceShare cX1_choiceShare 1 (some .double), Cond.methodLink RL 191 yX7_choice, Cond.instanceMethod yX7_choice, Cond.selects RX7 yX7_choice yX7_choice, Cond.code yX7_choice cX7_choice 3 (some .double), Cond.methodLink RX7 151 yJ6_bitCount_0f7a4, Cond.methodLink RL 192 yL_canTrigger, Cond.static yL_canTrigger, Cond.codeWith yL_canTrigger cL_canTrigger 4 (some .int) [(0, 9, 12, 13)], Cond.methodLink RL 87 yX6_canTrigger, Cond.instanceMethod yX6_canTrigger, Cond.selects RX6 yX6_canTrigger yX6_canTrigger, Cond.code yX6_canTrigger cX6_canTrigger 2 (some .int), Cond.methodLink RX6 201 yX5_triggerableBy, Cond.instanceMethod yX5_triggerableBy, Cond.selects RX5 yX5_triggerableBy yX5_triggerableBy, Cond.code yX5_triggerableBy cX5_triggerableBy 4 (some .int), Cond.methodLink RL 194 yX7_canTrigger, Cond.instanceMethod yX7_canTrigger, Cond.selects RX7 yX7_canTrigger yX7_canTrigger, Cond.code yX7_canTrigger cX7_canTrigger 2 (some .int), Cond.methodLink RX7 154 yX7_triggers, Cond.instanceMethod yX7_triggers, Cond.selects RX7 yX7_triggers yX7_triggers]
def wsL_law0_r32 : List Cond := [Cond.code yX7_triggers cX7_triggers 5 (some .int), Cond.methodLink RL 195 yX6_circular, Cond.instanceMethod yX6_circular, Cond.selects RX6 yX6_circular yX6_circular, Cond.code yX6_circular cX6_circular 1 (some .int), Cond.methodLink RX6 205 yX2_inCircles, Cond.instanceMethod yX2_inCircles, Cond.selects RX2 yX2_inCircles yX2_inCircles, Cond.code yX2_inCircles cX2_inCircles 3 (some .int), Cond.methodLink RX2 19 yX2_spreadReach, Cond.instanceMethod yX2_spreadReach, Cond.selects RX2 yX2_spreadReach yX2_spreadReach, Cond.code yX2_spreadReach cX2_spreadReach 3 none, Cond.methodLink RX2 22 yX5_ruleOrNull, Cond.methodLink RX2 28 yX5_triggerableBy, Cond.methodLink RL 198 yX7_circular, Cond.instanceMethod yX7_circular, Cond.selects RX7 yX7_circular yX7_circular, Cond.code yX7_circular cX7_circular 6 (some .int), Cond.methodLink RL 199 yL_commute, Cond.static yL_commute, Cond.codeWith yL_commute cL_commute 5 (some .int) [(0, 17, 20, 13), (0, 17, 24, 15)], Cond.methodLink RL 90 yX6_commute, Cond.instanceMethod yX6_commute]
def wsL_law0_r33 : List Cond := [Cond.selects RX6 yX6_commute yX6_commute, Cond.code yX6_commute cX6_commute 5 (some .boolean), Cond.methodLink RX6 210 yX2_areIndependent, Cond.instanceMethod yX2_areIndependent, Cond.selects RX2 yX2_areIndependent yX2_areIndependent, Cond.code yX2_areIndependent cX2_areIndependent 4 (some .boolean), Cond.fieldLink RX2 32 "TriggerAnalyzer$Rule" "on" "Z", Cond.fieldLink RX2 38 "TriggerAnalyzer$Rule" "bit" "I", Cond.fieldLink RX2 49 "TriggerAnalyzer$Rule" "setFacts" "I", Cond.fieldLink RX2 52 "TriggerAnalyzer$Rule" "unsetFacts" "I", Cond.methodLink RX2 42 yX4_changedFacts, Cond.instanceMethod yX4_changedFacts, Cond.selects RX4 yX4_changedFacts yX4_changedFacts, Cond.code yX4_changedFacts cX4_changedFacts 1 (some .int), Cond.methodLink RX2 46 yX4_conditionFacts, Cond.instanceMethod yX4_conditionFacts, Cond.selects RX4 yX4_conditionFacts yX4_conditionFacts, Cond.code yX4_conditionFacts cX4_conditionFacts 1 (some .int), Cond.methodLink RL 201 yX7_commute, Cond.instanceMethod yX7_commute, Cond.selects RX7 yX7_commute yX7_commute, Cond.code yX7_commute cX7_commute 3 (some .boolean), Cond.methodLink RX7 160 yX7_doCommute, Cond.instanceMethod yX7_doCommute]
def wsL_law0_r34 : List Cond := [Cond.selects RX7 yX7_doCommute yX7_doCommute, Cond.code yX7_doCommute cX7_doCommute 3 (some .boolean), Cond.methodLink RX7 157 yX7_disturbs, Cond.instanceMethod yX7_disturbs, Cond.selects RX7 yX7_disturbs yX7_disturbs, Cond.code yX7_disturbs cX7_disturbs 7 (some .boolean), Cond.methodLink RL 202 yX6_conflictCount, Cond.instanceMethod yX6_conflictCount, Cond.selects RX6 yX6_conflictCount yX6_conflictCount, Cond.code yX6_conflictCount cX6_conflictCount 1 (some .int), Cond.methodLink RX6 214 yX2_countConflicts, Cond.instanceMethod yX2_countConflicts, Cond.selects RX2 yX2_countConflicts yX2_countConflicts, Cond.code yX2_countConflicts cX2_countConflicts 4 (some .int), Cond.methodLink RX2 63 yX2_areInConflict, Cond.instanceMethod yX2_areInConflict, Cond.selects RX2 yX2_areInConflict yX2_areInConflict, Cond.code yX2_areInConflict cX2_areInConflict 5 (some .boolean), Cond.methodLink RX2 55 yX4_isOver, Cond.methodLink RX2 59 yX2_areIndependent, Cond.methodLink RL 205 yX7_conflictCount, Cond.instanceMethod yX7_conflictCount, Cond.selects RX7 yX7_conflictCount yX7_conflictCount, Cond.code yX7_conflictCount cX7_conflictCount 4 (some .int)]
def wsL_law0_r35 : List Cond := [Cond.methodLink RX7 163 yX7_isConflict, Cond.instanceMethod yX7_isConflict, Cond.selects RX7 yX7_isConflict yX7_isConflict, Cond.code yX7_isConflict cX7_isConflict 3 (some .boolean), Cond.methodLink RL 206 yL_conflict, Cond.static yL_conflict, Cond.codeWith yL_conflict cL_conflict 4 (some .int) [(0, 9, 12, 13)], Cond.methodLink RL 93 yX6_conflict, Cond.instanceMethod yX6_conflict, Cond.selects RX6 yX6_conflict yX6_conflict, Cond.code yX6_conflict cX6_conflict 3 (some .int), Cond.methodLink RX6 217 yX2_conflictAt, Cond.instanceMethod yX2_conflictAt, Cond.selects RX2 yX2_conflictAt yX2_conflictAt, Cond.code yX2_conflictAt cX2_conflictAt 5 (some .int), Cond.methodLink RL 208 yX7_conflict, Cond.instanceMethod yX7_conflict, Cond.selects RX7 yX7_conflict yX7_conflict, Cond.code yX7_conflict cX7_conflict 5 (some .int), Cond.methodLink RL 209 yX6_digest, Cond.instanceMethod yX6_digest, Cond.selects RX6 yX6_digest yX6_digest, Cond.code yX6_digest cX6_digest 3 (some .long), Cond.constantLong RX6 222 (157)]
def wsL_law0_r36 : List Cond := [Cond.constantLong RX6 228 (31), Cond.methodLink RX6 224 yX5_addedTo, Cond.instanceMethod yX5_addedTo, Cond.selects RX5 yX5_addedTo yX5_addedTo, Cond.code yX5_addedTo cX5_addedTo 6 (some .long), Cond.constantLong RX5 84 (31), Cond.methodLink RX5 86 yX4_addedTo, Cond.instanceMethod yX4_addedTo, Cond.selects RX4 yX4_addedTo yX4_addedTo, Cond.code yX4_addedTo cX4_addedTo 6 (some .long), Cond.constantLong RX4 47 (31), Cond.fieldLink RX4 49 "TriggerAnalyzer$Rule" "event" "I", Cond.fieldLink RX4 55 "TriggerAnalyzer$Rule" "on" "Z", Cond.methodLink RX4 52 yX4_actionAt, Cond.methodLink RL 212 yX7_digest, Cond.instanceMethod yX7_digest, Cond.selects RX7 yX7_digest yX7_digest, Cond.code yX7_digest cX7_digest 5 (some .long), Cond.constantLong RX7 166 (4867), Cond.constantLong RX7 168 (31)]
def wsL_law0 : List Cond := (wsL_law0_r1 ++ (wsL_law0_r2 ++ (wsL_law0_r3 ++ (wsL_law0_r4 ++ (wsL_law0_r5 ++ (wsL_law0_r6 ++ (wsL_law0_r7 ++ (wsL_law0_r8 ++ (wsL_law0_r9 ++ (wsL_law0_r10 ++ (wsL_law0_r11 ++ (wsL_law0_r12 ++ (wsL_law0_r13 ++ (wsL_law0_r14 ++ (wsL_law0_r15 ++ (wsL_law0_r16 ++ (wsL_law0_r17 ++ (wsL_law0_r18 ++ (wsL_law0_r19 ++ (wsL_law0_r20 ++ (wsL_law0_r21 ++ (wsL_law0_r22 ++ (wsL_law0_r23 ++ (wsL_law0_r24 ++ (wsL_law0_r25 ++ (wsL_law0_r26 ++ (wsL_law0_r27 ++ (wsL_law0_r28 ++ (wsL_law0_r29 ++ (wsL_law0_r30 ++ (wsL_law0_r31 ++ (wsL_law0_r32 ++ (wsL_law0_r33 ++ (wsL_law0_r34 ++ (wsL_law0_r35 ++ wsL_law0_r36))))))))))))))))))))))))))))))))))) ++ wsX60 ++ wsX70 ++ wsX50 ++ wsX20 ++ wsX10 ++ wsX40 ++ wsX00 ++ wsX30 ++ ([] : List Cond)
def wsL_law : List Cond := wsL_law0 ++ (vx_atS RX6 47 "java/lang/IllegalStateException" ["java/lang/RuntimeException", "java/lang/Exception"]).filter goodWord ++ (vx_atS RX6 183 "java/lang/IndexOutOfBoundsException" ["java/lang/RuntimeException", "java/lang/Exception"]).filter goodWord ++ (vx_atS RX6 109 "java/lang/IllegalArgumentException" ["java/lang/RuntimeException", "java/lang/Exception"]).filter goodWord
theorem dX0_init_0 : decode cX0_init 0 = .ok (.aload_n 0, 1) := by decide +kernel
theorem dX0_init_1 : decode cX0_init 1 = .ok (.invokespecial 3, 3) := by decide +kernel
theorem dX0_init_4 : decode cX0_init 4 = .ok (.aload_n 0, 1) := by decide +kernel
theorem dX0_init_5 : decode cX0_init 5 = .ok (.bipush 64, 2) := by decide +kernel
theorem dX0_init_7 : decode cX0_init 7 = .ok (.newarray .int, 2) := by decide +kernel
theorem dX0_init_9 : decode cX0_init 9 = .ok (.putfield 9, 3) := by decide +kernel
theorem dX0_init_12 : decode cX0_init 12 = .ok (.aload_n 0, 1) := by decide +kernel
theorem dX0_init_13 : decode cX0_init 13 = .ok (.iconst (-1), 1) := by decide +kernel
theorem dX0_init_14 : decode cX0_init 14 = .ok (.putfield 15, 3) := by decide +kernel
theorem dX0_init_17 : decode cX0_init 17 = .ok (.return_, 1) := by decide +kernel
theorem dX0_clear_0 : decode cX0_clear 0 = .ok (.aload_n 0, 1) := by decide +kernel
theorem dX0_clear_1 : decode cX0_clear 1 = .ok (.iconst 0, 1) := by decide +kernel
theorem dX0_clear_2 : decode cX0_clear 2 = .ok (.putfield 19, 3) := by decide +kernel
theorem dX0_clear_5 : decode cX0_clear 5 = .ok (.aload_n 0, 1) := by decide +kernel
theorem dX0_clear_6 : decode cX0_clear 6 = .ok (.iconst (-1), 1) := by decide +kernel
theorem dX0_clear_7 : decode cX0_clear 7 = .ok (.putfield 15, 3) := by decide +kernel
theorem dX0_clear_10 : decode cX0_clear 10 = .ok (.return_, 1) := by decide +kernel
theorem dX0_size_0 : decode cX0_size 0 = .ok (.aload_n 0, 1) := by decide +kernel
theorem dX0_size_1 : decode cX0_size 1 = .ok (.getfield 19, 3) := by decide +kernel
theorem dX0_size_4 : decode cX0_size 4 = .ok (.ireturn, 1) := by decide +kernel
theorem dX0_firstDepth_0 : decode cX0_firstDepth 0 = .ok (.aload_n 0, 1) := by decide +kernel
theorem dX0_firstDepth_1 : decode cX0_firstDepth 1 = .ok (.getfield 15, 3) := by decide +kernel
theorem dX0_firstDepth_4 : decode cX0_firstDepth 4 = .ok (.ireturn, 1) := by decide +kernel
theorem dX0_factsAt_0 : decode cX0_factsAt 0 = .ok (.iload_n 1, 1) := by decide +kernel
theorem dX0_factsAt_1 : decode cX0_factsAt 1 = .ok (.ifCond .lt 29, 3) := by decide +kernel
theorem dX0_factsAt_4 : decode cX0_factsAt 4 = .ok (.iload_n 1, 1) := by decide +kernel
theorem dX0_factsAt_5 : decode cX0_factsAt 5 = .ok (.aload_n 0, 1) := by decide +kernel
theorem dX0_factsAt_6 : decode cX0_factsAt 6 = .ok (.getfield 19, 3) := by decide +kernel
theorem dX0_factsAt_9 : decode cX0_factsAt 9 = .ok (.if_icmp .ge 21, 3) := by decide +kernel
theorem dX0_factsAt_12 : decode cX0_factsAt 12 = .ok (.iload_n 1, 1) := by decide +kernel
theorem dX0_factsAt_13 : decode cX0_factsAt 13 = .ok (.aload_n 0, 1) := by decide +kernel
theorem dX0_factsAt_14 : decode cX0_factsAt 14 = .ok (.getfield 9, 3) := by decide +kernel
theorem dX0_factsAt_17 : decode cX0_factsAt 17 = .ok (.arraylength, 1) := by decide +kernel
theorem dX0_factsAt_18 : decode cX0_factsAt 18 = .ok (.if_icmp .ge 12, 3) := by decide +kernel
theorem dX0_factsAt_21 : decode cX0_factsAt 21 = .ok (.aload_n 0, 1) := by decide +kernel
theorem dX0_factsAt_22 : decode cX0_factsAt 22 = .ok (.getfield 9, 3) := by decide +kernel
theorem dX0_factsAt_25 : decode cX0_factsAt 25 = .ok (.iload_n 1, 1) := by decide +kernel
theorem dX0_factsAt_26 : decode cX0_factsAt 26 = .ok (.iaload, 1) := by decide +kernel
theorem dX0_factsAt_27 : decode cX0_factsAt 27 = .ok (.goto 4, 3) := by decide +kernel
theorem dX0_factsAt_30 : decode cX0_factsAt 30 = .ok (.iconst (-1), 1) := by decide +kernel
theorem dX0_factsAt_31 : decode cX0_factsAt 31 = .ok (.ireturn, 1) := by decide +kernel
theorem dX0_append_0 : decode cX0_append 0 = .ok (.aload_n 0, 1) := by decide +kernel
theorem dX0_append_1 : decode cX0_append 1 = .ok (.getfield 19, 3) := by decide +kernel
theorem dX0_append_4 : decode cX0_append 4 = .ok (.ifCond .lt 15, 3) := by decide +kernel
theorem dX0_append_7 : decode cX0_append 7 = .ok (.aload_n 0, 1) := by decide +kernel
theorem dX0_append_8 : decode cX0_append 8 = .ok (.getfield 19, 3) := by decide +kernel
theorem dX0_append_11 : decode cX0_append 11 = .ok (.aload_n 0, 1) := by decide +kernel
theorem dX0_append_12 : decode cX0_append 12 = .ok (.getfield 9, 3) := by decide +kernel
theorem dX0_append_15 : decode cX0_append 15 = .ok (.arraylength, 1) := by decide +kernel
theorem dX0_append_16 : decode cX0_append 16 = .ok (.if_icmp .lt 4, 3) := by decide +kernel
theorem dX0_append_19 : decode cX0_append 19 = .ok (.return_, 1) := by decide +kernel
theorem dX0_append_20 : decode cX0_append 20 = .ok (.aload_n 0, 1) := by decide +kernel
theorem dX0_append_21 : decode cX0_append 21 = .ok (.getfield 19, 3) := by decide +kernel
theorem dX0_append_24 : decode cX0_append 24 = .ok (.ifCond .ne 8, 3) := by decide +kernel
theorem dX0_append_27 : decode cX0_append 27 = .ok (.aload_n 0, 1) := by decide +kernel
theorem dX0_append_28 : decode cX0_append 28 = .ok (.iload_n 2, 1) := by decide +kernel
theorem dX0_append_29 : decode cX0_append 29 = .ok (.putfield 15, 3) := by decide +kernel
theorem dX0_append_32 : decode cX0_append 32 = .ok (.aload_n 0, 1) := by decide +kernel
theorem dX0_append_33 : decode cX0_append 33 = .ok (.getfield 9, 3) := by decide +kernel
theorem dX0_append_36 : decode cX0_append 36 = .ok (.aload_n 0, 1) := by decide +kernel
theorem dX0_append_37 : decode cX0_append 37 = .ok (.getfield 19, 3) := by decide +kernel
theorem dX0_append_40 : decode cX0_append 40 = .ok (.iload_n 1, 1) := by decide +kernel
theorem dX0_append_41 : decode cX0_append 41 = .ok (.iastore, 1) := by decide +kernel
theorem dX0_append_42 : decode cX0_append 42 = .ok (.aload_n 0, 1) := by decide +kernel
theorem dX0_append_43 : decode cX0_append 43 = .ok (.dup, 1) := by decide +kernel
theorem dX0_append_44 : decode cX0_append 44 = .ok (.getfield 19, 3) := by decide +kernel
end
section
theorem dX0_append_47 : decode cX0_append 47 = .ok (.iconst 1, 1) := by decide +kernel
theorem dX0_append_48 : decode cX0_append 48 = .ok (.iadd, 1) := by decide +kernel
theorem dX0_append_49 : decode cX0_append 49 = .ok (.putfield 19, 3) := by decide +kernel
theorem dX0_append_52 : decode cX0_append 52 = .ok (.return_, 1) := by decide +kernel
set_option maxRecDepth 20000 in
theorem ggX1_init_X0_init : GoodIn wsX1_init wsX0_init := goodIn_r _ [20, 21, 2, 3, 4, 22, 23, 45, 46, 47] (by decide +kernel) (by decide +kernel)
set_option maxRecDepth 20000 in
theorem gX1_init_X0_init : GoodIn wsX1_init (wsX0_init) := ggX1_init_X0_init
set_option maxRecDepth 20000 in
theorem ggX1_init_X3_init : GoodIn wsX1_init wsX3_init := goodIn_r _ [26, 27, 2, 3, 4, 28, 29, 30, 31, 32, 48, 49, 50, 51, 52, 53, 54, 55] (by decide +kernel) (by decide +kernel)
set_option maxRecDepth 20000 in
theorem gX1_init_X3_init : GoodIn wsX1_init (wsX3_init) := ggX1_init_X3_init
theorem dX1_init_0 : decode cX1_init 0 = .ok (.aload_n 0, 1) := by decide +kernel
theorem dX1_init_1 : decode cX1_init 1 = .ok (.invokespecial 3, 3) := by decide +kernel
theorem dX1_init_4 : decode cX1_init 4 = .ok (.aload_n 0, 1) := by decide +kernel
theorem dX1_init_5 : decode cX1_init 5 = .ok (.sipush 1000, 3) := by decide +kernel
theorem dX1_init_8 : decode cX1_init 8 = .ok (.newarray .int, 2) := by decide +kernel
theorem dX1_init_10 : decode cX1_init 10 = .ok (.putfield 9, 3) := by decide +kernel
theorem dX1_init_13 : decode cX1_init 13 = .ok (.aload_n 0, 1) := by decide +kernel
theorem dX1_init_14 : decode cX1_init 14 = .ok (.sipush 1000, 3) := by decide +kernel
theorem dX1_init_17 : decode cX1_init 17 = .ok (.newarray .int, 2) := by decide +kernel
theorem dX1_init_19 : decode cX1_init 19 = .ok (.putfield 15, 3) := by decide +kernel
theorem dX1_init_22 : decode cX1_init 22 = .ok (.aload_n 0, 1) := by decide +kernel
theorem dX1_init_23 : decode cX1_init 23 = .ok (.sipush 8000, 3) := by decide +kernel
theorem dX1_init_26 : decode cX1_init 26 = .ok (.newarray .int, 2) := by decide +kernel
theorem dX1_init_28 : decode cX1_init 28 = .ok (.putfield 18, 3) := by decide +kernel
theorem dX1_init_31 : decode cX1_init 31 = .ok (.aload_n 0, 1) := by decide +kernel
theorem dX1_init_32 : decode cX1_init 32 = .ok (.sipush 16384, 3) := by decide +kernel
theorem dX1_init_35 : decode cX1_init 35 = .ok (.newarray .int, 2) := by decide +kernel
theorem dX1_init_37 : decode cX1_init 37 = .ok (.putfield 21, 3) := by decide +kernel
theorem dX1_init_40 : decode cX1_init 40 = .ok (.aload_n 0, 1) := by decide +kernel
theorem dX1_init_41 : decode cX1_init 41 = .ok (.new 24, 3) := by decide +kernel
theorem dX1_init_44 : decode cX1_init 44 = .ok (.dup, 1) := by decide +kernel
theorem dX1_init_45 : decode cX1_init 45 = .ok (.invokespecial 26, 3) := by decide +kernel
theorem dX1_init_48 : decode cX1_init 48 = .ok (.putfield 27, 3) := by decide +kernel
theorem dX1_init_51 : decode cX1_init 51 = .ok (.aload_n 0, 1) := by decide +kernel
theorem dX1_init_52 : decode cX1_init 52 = .ok (.new 31, 3) := by decide +kernel
theorem dX1_init_55 : decode cX1_init 55 = .ok (.dup, 1) := by decide +kernel
theorem dX1_init_56 : decode cX1_init 56 = .ok (.invokespecial 33, 3) := by decide +kernel
theorem dX1_init_59 : decode cX1_init 59 = .ok (.putfield 34, 3) := by decide +kernel
theorem dX1_init_62 : decode cX1_init 62 = .ok (.aload_n 0, 1) := by decide +kernel
theorem dX1_init_63 : decode cX1_init 63 = .ok (.aload_n 1, 1) := by decide +kernel
theorem dX1_init_64 : decode cX1_init 64 = .ok (.putfield 38, 3) := by decide +kernel
theorem dX1_init_67 : decode cX1_init 67 = .ok (.return_, 1) := by decide +kernel
theorem dX1_isDone_0 : decode cX1_isDone 0 = .ok (.aload_n 0, 1) := by decide +kernel
theorem dX1_isDone_1 : decode cX1_isDone 1 = .ok (.getfield 42, 3) := by decide +kernel
theorem dX1_isDone_4 : decode cX1_isDone 4 = .ok (.ireturn, 1) := by decide +kernel
theorem dX1_isUsable_0 : decode cX1_isUsable 0 = .ok (.aload_n 0, 1) := by decide +kernel
theorem dX1_isUsable_1 : decode cX1_isUsable 1 = .ok (.getfield 42, 3) := by decide +kernel
theorem dX1_isUsable_4 : decode cX1_isUsable 4 = .ok (.ifCond .eq 14, 3) := by decide +kernel
theorem dX1_isUsable_7 : decode cX1_isUsable 7 = .ok (.aload_n 0, 1) := by decide +kernel
theorem dX1_isUsable_8 : decode cX1_isUsable 8 = .ok (.getfield 46, 3) := by decide +kernel
theorem dX1_isUsable_11 : decode cX1_isUsable 11 = .ok (.ifCond .ne 7, 3) := by decide +kernel
theorem dX1_isUsable_14 : decode cX1_isUsable 14 = .ok (.iconst 1, 1) := by decide +kernel
theorem dX1_isUsable_15 : decode cX1_isUsable 15 = .ok (.goto 4, 3) := by decide +kernel
theorem dX1_isUsable_18 : decode cX1_isUsable 18 = .ok (.iconst 0, 1) := by decide +kernel
theorem dX1_isUsable_19 : decode cX1_isUsable 19 = .ok (.ireturn, 1) := by decide +kernel
theorem dX1_answer_0 : decode cX1_answer 0 = .ok (.aload_n 0, 1) := by decide +kernel
theorem dX1_answer_1 : decode cX1_answer 1 = .ok (.getfield 46, 3) := by decide +kernel
theorem dX1_answer_4 : decode cX1_answer 4 = .ok (.ifCond .eq 7, 3) := by decide +kernel
theorem dX1_answer_7 : decode cX1_answer 7 = .ok (.iconst (-1), 1) := by decide +kernel
theorem dX1_answer_8 : decode cX1_answer 8 = .ok (.goto 7, 3) := by decide +kernel
theorem dX1_answer_11 : decode cX1_answer 11 = .ok (.aload_n 0, 1) := by decide +kernel
theorem dX1_answer_12 : decode cX1_answer 12 = .ok (.getfield 49, 3) := by decide +kernel
theorem dX1_answer_15 : decode cX1_answer 15 = .ok (.ireturn, 1) := by decide +kernel
theorem dX1_size_0 : decode cX1_size 0 = .ok (.aload_n 0, 1) := by decide +kernel
theorem dX1_size_1 : decode cX1_size 1 = .ok (.getfield 49, 3) := by decide +kernel
theorem dX1_size_4 : decode cX1_size 4 = .ok (.ireturn, 1) := by decide +kernel
theorem dX1_everReady_0 : decode cX1_everReady 0 = .ok (.aload_n 0, 1) := by decide +kernel
theorem dX1_everReady_1 : decode cX1_everReady 1 = .ok (.getfield 53, 3) := by decide +kernel
theorem dX1_everReady_4 : decode cX1_everReady 4 = .ok (.ireturn, 1) := by decide +kernel
theorem dX1_choiceShare_0 : decode cX1_choiceShare 0 = .ok (.aload_n 0, 1) := by decide +kernel
theorem dX1_choiceShare_1 : decode cX1_choiceShare 1 = .ok (.getfield 49, 3) := by decide +kernel
theorem dX1_choiceShare_4 : decode cX1_choiceShare 4 = .ok (.ifCond .le 17, 3) := by decide +kernel
theorem dX1_choiceShare_7 : decode cX1_choiceShare 7 = .ok (.aload_n 0, 1) := by decide +kernel
theorem dX1_choiceShare_8 : decode cX1_choiceShare 8 = .ok (.getfield 56, 3) := by decide +kernel
theorem dX1_choiceShare_11 : decode cX1_choiceShare 11 = .ok (.i2d, 1) := by decide +kernel
theorem dX1_choiceShare_12 : decode cX1_choiceShare 12 = .ok (.aload_n 0, 1) := by decide +kernel
theorem dX1_choiceShare_13 : decode cX1_choiceShare 13 = .ok (.getfield 49, 3) := by decide +kernel
theorem dX1_choiceShare_16 : decode cX1_choiceShare 16 = .ok (.i2d, 1) := by decide +kernel
theorem dX1_choiceShare_17 : decode cX1_choiceShare 17 = .ok (.ddiv, 1) := by decide +kernel
theorem dX1_choiceShare_18 : decode cX1_choiceShare 18 = .ok (.goto 4, 3) := by decide +kernel
theorem dX1_choiceShare_21 : decode cX1_choiceShare 21 = .ok (.dconst 0, 1) := by decide +kernel
theorem dX1_choiceShare_22 : decode cX1_choiceShare 22 = .ok (.dreturn, 1) := by decide +kernel
theorem dX1_forget_0 : decode cX1_forget 0 = .ok (.aload_n 0, 1) := by decide +kernel
theorem dX1_forget_1 : decode cX1_forget 1 = .ok (.iconst 0, 1) := by decide +kernel
theorem dX1_forget_2 : decode cX1_forget 2 = .ok (.putfield 42, 3) := by decide +kernel
theorem dX1_forget_5 : decode cX1_forget 5 = .ok (.return_, 1) := by decide +kernel
theorem dX1_situationAt_0 : decode cX1_situationAt 0 = .ok (.iload_n 1, 1) := by decide +kernel
theorem dX1_situationAt_1 : decode cX1_situationAt 1 = .ok (.ifCond .lt 27, 3) := by decide +kernel
theorem dX1_situationAt_4 : decode cX1_situationAt 4 = .ok (.iload_n 1, 1) := by decide +kernel
theorem dX1_situationAt_5 : decode cX1_situationAt 5 = .ok (.aload_n 0, 1) := by decide +kernel
theorem dX1_situationAt_6 : decode cX1_situationAt 6 = .ok (.getfield 49, 3) := by decide +kernel
theorem dX1_situationAt_9 : decode cX1_situationAt 9 = .ok (.if_icmp .ge 19, 3) := by decide +kernel
theorem dX1_situationAt_12 : decode cX1_situationAt 12 = .ok (.iload_n 1, 1) := by decide +kernel
theorem dX1_situationAt_13 : decode cX1_situationAt 13 = .ok (.sipush 1000, 3) := by decide +kernel
theorem dX1_situationAt_16 : decode cX1_situationAt 16 = .ok (.if_icmp .ge 12, 3) := by decide +kernel
theorem dX1_situationAt_19 : decode cX1_situationAt 19 = .ok (.aload_n 0, 1) := by decide +kernel
theorem dX1_situationAt_20 : decode cX1_situationAt 20 = .ok (.getfield 9, 3) := by decide +kernel
theorem dX1_situationAt_23 : decode cX1_situationAt 23 = .ok (.iload_n 1, 1) := by decide +kernel
theorem dX1_situationAt_24 : decode cX1_situationAt 24 = .ok (.iaload, 1) := by decide +kernel
theorem dX1_situationAt_25 : decode cX1_situationAt 25 = .ok (.goto 4, 3) := by decide +kernel
theorem dX1_situationAt_28 : decode cX1_situationAt 28 = .ok (.iconst (-1), 1) := by decide +kernel
theorem dX1_situationAt_29 : decode cX1_situationAt 29 = .ok (.ireturn, 1) := by decide +kernel
theorem dX1_nextOf_0 : decode cX1_nextOf 0 = .ok (.iload_n 1, 1) := by decide +kernel
theorem dX1_nextOf_1 : decode cX1_nextOf 1 = .ok (.ifCond .lt 21, 3) := by decide +kernel
theorem dX1_nextOf_4 : decode cX1_nextOf 4 = .ok (.iload_n 1, 1) := by decide +kernel
theorem dX1_nextOf_5 : decode cX1_nextOf 5 = .ok (.aload_n 0, 1) := by decide +kernel
theorem dX1_nextOf_6 : decode cX1_nextOf 6 = .ok (.getfield 49, 3) := by decide +kernel
theorem dX1_nextOf_9 : decode cX1_nextOf 9 = .ok (.if_icmp .ge 13, 3) := by decide +kernel
theorem dX1_nextOf_12 : decode cX1_nextOf 12 = .ok (.iload_n 2, 1) := by decide +kernel
theorem dX1_nextOf_13 : decode cX1_nextOf 13 = .ok (.ifCond .lt 9, 3) := by decide +kernel
theorem dX1_nextOf_16 : decode cX1_nextOf 16 = .ok (.iload_n 2, 1) := by decide +kernel
theorem dX1_nextOf_17 : decode cX1_nextOf 17 = .ok (.bipush 8, 2) := by decide +kernel
theorem dX1_nextOf_19 : decode cX1_nextOf 19 = .ok (.if_icmp .lt 5, 3) := by decide +kernel
theorem dX1_nextOf_22 : decode cX1_nextOf 22 = .ok (.iconst (-1), 1) := by decide +kernel
theorem dX1_nextOf_23 : decode cX1_nextOf 23 = .ok (.ireturn, 1) := by decide +kernel
theorem dX1_nextOf_24 : decode cX1_nextOf 24 = .ok (.iload_n 1, 1) := by decide +kernel
theorem dX1_nextOf_25 : decode cX1_nextOf 25 = .ok (.bipush 8, 2) := by decide +kernel
theorem dX1_nextOf_27 : decode cX1_nextOf 27 = .ok (.imul, 1) := by decide +kernel
theorem dX1_nextOf_28 : decode cX1_nextOf 28 = .ok (.iload_n 2, 1) := by decide +kernel
theorem dX1_nextOf_29 : decode cX1_nextOf 29 = .ok (.iadd, 1) := by decide +kernel
theorem dX1_nextOf_30 : decode cX1_nextOf 30 = .ok (.istore_n 3, 1) := by decide +kernel
theorem dX1_nextOf_31 : decode cX1_nextOf 31 = .ok (.iload_n 3, 1) := by decide +kernel
theorem dX1_nextOf_32 : decode cX1_nextOf 32 = .ok (.ifCond .lt 21, 3) := by decide +kernel
theorem dX1_nextOf_35 : decode cX1_nextOf 35 = .ok (.iload_n 3, 1) := by decide +kernel
theorem dX1_nextOf_36 : decode cX1_nextOf 36 = .ok (.aload_n 0, 1) := by decide +kernel
theorem dX1_nextOf_37 : decode cX1_nextOf 37 = .ok (.getfield 18, 3) := by decide +kernel
theorem dX1_nextOf_40 : decode cX1_nextOf 40 = .ok (.arraylength, 1) := by decide +kernel
theorem dX1_nextOf_41 : decode cX1_nextOf 41 = .ok (.if_icmp .ge 12, 3) := by decide +kernel
theorem dX1_nextOf_44 : decode cX1_nextOf 44 = .ok (.aload_n 0, 1) := by decide +kernel
theorem dX1_nextOf_45 : decode cX1_nextOf 45 = .ok (.getfield 18, 3) := by decide +kernel
theorem dX1_nextOf_48 : decode cX1_nextOf 48 = .ok (.iload_n 3, 1) := by decide +kernel
theorem dX1_nextOf_49 : decode cX1_nextOf 49 = .ok (.iaload, 1) := by decide +kernel
theorem dX1_nextOf_50 : decode cX1_nextOf 50 = .ok (.goto 4, 3) := by decide +kernel
theorem dX1_nextOf_53 : decode cX1_nextOf 53 = .ok (.iconst (-1), 1) := by decide +kernel
theorem dX1_nextOf_54 : decode cX1_nextOf 54 = .ok (.ireturn, 1) := by decide +kernel
set_option maxRecDepth 20000 in
theorem ggX1_search_X1_clear : GoodIn wsX1_search wsX1_clear := goodIn_r _ [9, 1, 10, 2, 11, 12, 13, 14, 15, 16, 8, 17, 18, 19, 20, 21, 22, 23, 24, 25, 150, 151, 152, 153, 154, 155, 156, 157, 158, 159, 160, 161, 162, 163, 164] (by decide +kernel) (by decide +kernel)
set_option maxRecDepth 20000 in
theorem gX1_search_X1_clear : GoodIn wsX1_search (wsV RX1 59 RX1 yX1_clear wsX1_clear) := goodIn_app (goodIn_of _ (by decide +kernel)) ggX1_search_X1_clear
set_option maxRecDepth 20000 in
theorem ggX1_search_X1_placeOf : GoodIn wsX1_search wsX1_placeOf := goodIn_r _ [29, 18, 1, 2, 10, 30, 150, 151, 152, 153, 154, 155, 156, 157, 158, 159, 160, 161] (by decide +kernel) (by decide +kernel)
set_option maxRecDepth 20000 in
theorem gX1_search_X1_placeOf : GoodIn wsX1_search (wsV RX1 62 RX1 yX1_placeOf wsX1_placeOf) := goodIn_app (goodIn_of _ (by decide +kernel)) ggX1_search_X1_placeOf
set_option maxRecDepth 20000 in
theorem ggX1_search_X1_expand : GoodIn wsX1_search wsX1_expand := goodIn_r _ [34, 10, 35, 11, 12, 13, 30, 36, 37, 38, 39, 40, 41, 42, 43, 44, 45, 46, 47, 48, 49, 50, 51, 52, 53, 54, 55, 56, 57, 58, 59, 60, 61, 62, 63, 64, 65, 22, 66, 24, 67, 25, 68, 69, 70, 71, 72, 73, 74, 75, 76, 77, 78, 79, 80, 81, 82, 83, 84, 85, 86, 87, 88, 89, 90, 91, 92, 93, 94, 95, 96, 97, 98, 99, 26, 27, 28, 8, 29, 18, 1, 2, 100, 101, 102, 103, 104, 150, 151, 152, 153, 154, 155, 156, 157, 158, 159, 160, 161, 165, 166, 167, 168, 169, 170, 171, 172, 173, 174, 175, 176, 177, 178, 162, 163, 164] (by decide +kernel) (by decide +kernel)
set_option maxRecDepth 20000 in
theorem gX1_search_X1_expand : GoodIn wsX1_search (wsV RX1 66 RX1 yX1_expand wsX1_expand) := goodIn_app (goodIn_of _ (by decide +kernel)) ggX1_search_X1_expand
set_option maxRecDepth 20000 in
theorem ggX1_search_X3_study : GoodIn wsX1_search wsX3_study := goodIn_r _ [109, 110, 111, 112, 113, 114, 115, 108, 116, 117, 118, 119, 120, 121, 122, 8, 123, 1, 124, 125, 126, 127, 104, 128, 129, 130, 131, 132, 133, 134, 135, 136, 137, 138, 139, 140, 141, 142, 143, 144, 145, 146, 147, 148, 149, 179, 180, 181, 182, 183, 184, 185, 186, 150, 151, 152, 153, 154, 155, 156, 157, 158, 159, 160, 161] (by decide +kernel) (by decide +kernel)
set_option maxRecDepth 20000 in
theorem gX1_search_X3_study : GoodIn wsX1_search (wsV RX1 70 RX3 yX3_study wsX3_study) := goodIn_app (goodIn_of _ (by decide +kernel)) ggX1_search_X3_study
theorem dX1_search_0 : decode cX1_search 0 = .ok (.aload_n 0, 1) := by decide +kernel
theorem dX1_search_1 : decode cX1_search 1 = .ok (.invokevirtual 59, 3) := by decide +kernel
theorem dX1_search_4 : decode cX1_search 4 = .ok (.aload_n 0, 1) := by decide +kernel
theorem dX1_search_5 : decode cX1_search 5 = .ok (.iload_n 1, 1) := by decide +kernel
theorem dX1_search_6 : decode cX1_search 6 = .ok (.iconst 0, 1) := by decide +kernel
theorem dX1_search_7 : decode cX1_search 7 = .ok (.invokevirtual 62, 3) := by decide +kernel
theorem dX1_search_10 : decode cX1_search 10 = .ok (.pop, 1) := by decide +kernel
theorem dX1_search_11 : decode cX1_search 11 = .ok (.iconst 0, 1) := by decide +kernel
theorem dX1_search_12 : decode cX1_search 12 = .ok (.istore_n 2, 1) := by decide +kernel
theorem dX1_search_13 : decode cX1_search 13 = .ok (.iload_n 2, 1) := by decide +kernel
theorem dX1_search_14 : decode cX1_search 14 = .ok (.aload_n 0, 1) := by decide +kernel
theorem dX1_search_15 : decode cX1_search 15 = .ok (.getfield 49, 3) := by decide +kernel
theorem dX1_search_18 : decode cX1_search 18 = .ok (.if_icmp .ge 28, 3) := by decide +kernel
theorem dX1_search_21 : decode cX1_search 21 = .ok (.iload_n 2, 1) := by decide +kernel
theorem dX1_search_22 : decode cX1_search 22 = .ok (.sipush 1000, 3) := by decide +kernel
theorem dX1_search_25 : decode cX1_search 25 = .ok (.if_icmp .ge 21, 3) := by decide +kernel
theorem dX1_search_28 : decode cX1_search 28 = .ok (.aload_n 0, 1) := by decide +kernel
theorem dX1_search_29 : decode cX1_search 29 = .ok (.getfield 46, 3) := by decide +kernel
theorem dX1_search_32 : decode cX1_search 32 = .ok (.ifCond .ne 14, 3) := by decide +kernel
theorem dX1_search_35 : decode cX1_search 35 = .ok (.aload_n 0, 1) := by decide +kernel
theorem dX1_search_36 : decode cX1_search 36 = .ok (.iload_n 2, 1) := by decide +kernel
theorem dX1_search_37 : decode cX1_search 37 = .ok (.invokevirtual 66, 3) := by decide +kernel
theorem dX1_search_40 : decode cX1_search 40 = .ok (.iinc 2 1, 3) := by decide +kernel
theorem dX1_search_43 : decode cX1_search 43 = .ok (.goto (-30), 3) := by decide +kernel
theorem dX1_search_46 : decode cX1_search 46 = .ok (.aload_n 0, 1) := by decide +kernel
theorem dX1_search_47 : decode cX1_search 47 = .ok (.getfield 46, 3) := by decide +kernel
theorem dX1_search_50 : decode cX1_search 50 = .ok (.ifCond .ne 11, 3) := by decide +kernel
theorem dX1_search_53 : decode cX1_search 53 = .ok (.aload_n 0, 1) := by decide +kernel
theorem dX1_search_54 : decode cX1_search 54 = .ok (.getfield 34, 3) := by decide +kernel
theorem dX1_search_57 : decode cX1_search 57 = .ok (.aload_n 0, 1) := by decide +kernel
theorem dX1_search_58 : decode cX1_search 58 = .ok (.invokevirtual 70, 3) := by decide +kernel
theorem dX1_search_61 : decode cX1_search 61 = .ok (.aload_n 0, 1) := by decide +kernel
theorem dX1_search_62 : decode cX1_search 62 = .ok (.iconst 1, 1) := by decide +kernel
theorem dX1_search_63 : decode cX1_search 63 = .ok (.putfield 42, 3) := by decide +kernel
theorem dX1_search_66 : decode cX1_search 66 = .ok (.return_, 1) := by decide +kernel
set_option maxRecDepth 20000 in
theorem ggX1_clear_X1_mark : GoodIn wsX1_clear wsX1_mark := goodIn_r _ [11, 12, 20, 21, 22, 23, 24, 25, 26, 27, 28, 29, 30, 31] (by decide +kernel) (by decide +kernel)
set_option maxRecDepth 20000 in
theorem gX1_clear_X1_mark : GoodIn wsX1_clear (wsV RX1 74 RX1 yX1_mark wsX1_mark) := goodIn_app (goodIn_of _ (by decide +kernel)) ggX1_clear_X1_mark
set_option maxRecDepth 20000 in
theorem ggX1_clear_X0_clear : GoodIn wsX1_clear wsX0_clear := goodIn_r _ [17, 18, 19, 32, 33, 34] (by decide +kernel) (by decide +kernel)
set_option maxRecDepth 20000 in
theorem gX1_clear_X0_clear : GoodIn wsX1_clear (wsV RX1 78 RX0 yX0_clear wsX0_clear) := goodIn_app (goodIn_of _ (by decide +kernel)) ggX1_clear_X0_clear
theorem dX1_clear_0 : decode cX1_clear 0 = .ok (.iconst 0, 1) := by decide +kernel
theorem dX1_clear_1 : decode cX1_clear 1 = .ok (.istore_n 1, 1) := by decide +kernel
theorem dX1_clear_2 : decode cX1_clear 2 = .ok (.iload_n 1, 1) := by decide +kernel
theorem dX1_clear_3 : decode cX1_clear 3 = .ok (.aload_n 0, 1) := by decide +kernel
theorem dX1_clear_4 : decode cX1_clear 4 = .ok (.getfield 49, 3) := by decide +kernel
theorem dX1_clear_7 : decode cX1_clear 7 = .ok (.if_icmp .ge 27, 3) := by decide +kernel
theorem dX1_clear_10 : decode cX1_clear 10 = .ok (.iload_n 1, 1) := by decide +kernel
theorem dX1_clear_11 : decode cX1_clear 11 = .ok (.sipush 1000, 3) := by decide +kernel
theorem dX1_clear_14 : decode cX1_clear 14 = .ok (.if_icmp .ge 20, 3) := by decide +kernel
theorem dX1_clear_17 : decode cX1_clear 17 = .ok (.aload_n 0, 1) := by decide +kernel
theorem dX1_clear_18 : decode cX1_clear 18 = .ok (.aload_n 0, 1) := by decide +kernel
theorem dX1_clear_19 : decode cX1_clear 19 = .ok (.getfield 9, 3) := by decide +kernel
theorem dX1_clear_22 : decode cX1_clear 22 = .ok (.iload_n 1, 1) := by decide +kernel
theorem dX1_clear_23 : decode cX1_clear 23 = .ok (.iaload, 1) := by decide +kernel
theorem dX1_clear_24 : decode cX1_clear 24 = .ok (.iconst 0, 1) := by decide +kernel
theorem dX1_clear_25 : decode cX1_clear 25 = .ok (.invokevirtual 74, 3) := by decide +kernel
theorem dX1_clear_28 : decode cX1_clear 28 = .ok (.iinc 1 1, 3) := by decide +kernel
theorem dX1_clear_31 : decode cX1_clear 31 = .ok (.goto (-29), 3) := by decide +kernel
theorem dX1_clear_34 : decode cX1_clear 34 = .ok (.aload_n 0, 1) := by decide +kernel
theorem dX1_clear_35 : decode cX1_clear 35 = .ok (.iconst 0, 1) := by decide +kernel
theorem dX1_clear_36 : decode cX1_clear 36 = .ok (.putfield 49, 3) := by decide +kernel
theorem dX1_clear_39 : decode cX1_clear 39 = .ok (.aload_n 0, 1) := by decide +kernel
theorem dX1_clear_40 : decode cX1_clear 40 = .ok (.iconst 0, 1) := by decide +kernel
theorem dX1_clear_41 : decode cX1_clear 41 = .ok (.putfield 46, 3) := by decide +kernel
theorem dX1_clear_44 : decode cX1_clear 44 = .ok (.aload_n 0, 1) := by decide +kernel
theorem dX1_clear_45 : decode cX1_clear 45 = .ok (.iconst 0, 1) := by decide +kernel
theorem dX1_clear_46 : decode cX1_clear 46 = .ok (.putfield 53, 3) := by decide +kernel
theorem dX1_clear_49 : decode cX1_clear 49 = .ok (.aload_n 0, 1) := by decide +kernel
theorem dX1_clear_50 : decode cX1_clear 50 = .ok (.iconst 0, 1) := by decide +kernel
theorem dX1_clear_51 : decode cX1_clear 51 = .ok (.putfield 56, 3) := by decide +kernel
theorem dX1_clear_54 : decode cX1_clear 54 = .ok (.aload_n 0, 1) := by decide +kernel
theorem dX1_clear_55 : decode cX1_clear 55 = .ok (.getfield 27, 3) := by decide +kernel
theorem dX1_clear_58 : decode cX1_clear 58 = .ok (.invokevirtual 78, 3) := by decide +kernel
theorem dX1_clear_61 : decode cX1_clear 61 = .ok (.return_, 1) := by decide +kernel
theorem dX1_mark_0 : decode cX1_mark 0 = .ok (.iload_n 1, 1) := by decide +kernel
theorem dX1_mark_1 : decode cX1_mark 1 = .ok (.ifCond .lt 19, 3) := by decide +kernel
theorem dX1_mark_4 : decode cX1_mark 4 = .ok (.iload_n 1, 1) := by decide +kernel
theorem dX1_mark_5 : decode cX1_mark 5 = .ok (.aload_n 0, 1) := by decide +kernel
theorem dX1_mark_6 : decode cX1_mark 6 = .ok (.getfield 21, 3) := by decide +kernel
theorem dX1_mark_9 : decode cX1_mark 9 = .ok (.arraylength, 1) := by decide +kernel
theorem dX1_mark_10 : decode cX1_mark 10 = .ok (.if_icmp .ge 10, 3) := by decide +kernel
theorem dX1_mark_13 : decode cX1_mark 13 = .ok (.aload_n 0, 1) := by decide +kernel
theorem dX1_mark_14 : decode cX1_mark 14 = .ok (.getfield 21, 3) := by decide +kernel
theorem dX1_mark_17 : decode cX1_mark 17 = .ok (.iload_n 1, 1) := by decide +kernel
theorem dX1_mark_18 : decode cX1_mark 18 = .ok (.iload_n 2, 1) := by decide +kernel
theorem dX1_mark_19 : decode cX1_mark 19 = .ok (.iastore, 1) := by decide +kernel
theorem dX1_mark_20 : decode cX1_mark 20 = .ok (.return_, 1) := by decide +kernel
theorem dX1_placeOf_0 : decode cX1_placeOf 0 = .ok (.iload_n 1, 1) := by decide +kernel
theorem dX1_placeOf_1 : decode cX1_placeOf 1 = .ok (.ifCond .lt 12, 3) := by decide +kernel
theorem dX1_placeOf_4 : decode cX1_placeOf 4 = .ok (.iload_n 1, 1) := by decide +kernel
theorem dX1_placeOf_5 : decode cX1_placeOf 5 = .ok (.aload_n 0, 1) := by decide +kernel
theorem dX1_placeOf_6 : decode cX1_placeOf 6 = .ok (.getfield 21, 3) := by decide +kernel
theorem dX1_placeOf_9 : decode cX1_placeOf 9 = .ok (.arraylength, 1) := by decide +kernel
theorem dX1_placeOf_10 : decode cX1_placeOf 10 = .ok (.if_icmp .lt 5, 3) := by decide +kernel
theorem dX1_placeOf_13 : decode cX1_placeOf 13 = .ok (.iconst (-1), 1) := by decide +kernel
theorem dX1_placeOf_14 : decode cX1_placeOf 14 = .ok (.ireturn, 1) := by decide +kernel
theorem dX1_placeOf_15 : decode cX1_placeOf 15 = .ok (.aload_n 0, 1) := by decide +kernel
theorem dX1_placeOf_16 : decode cX1_placeOf 16 = .ok (.getfield 21, 3) := by decide +kernel
theorem dX1_placeOf_19 : decode cX1_placeOf 19 = .ok (.iload_n 1, 1) := by decide +kernel
theorem dX1_placeOf_20 : decode cX1_placeOf 20 = .ok (.iaload, 1) := by decide +kernel
theorem dX1_placeOf_21 : decode cX1_placeOf 21 = .ok (.ifCond .le 12, 3) := by decide +kernel
theorem dX1_placeOf_24 : decode cX1_placeOf 24 = .ok (.aload_n 0, 1) := by decide +kernel
theorem dX1_placeOf_25 : decode cX1_placeOf 25 = .ok (.getfield 21, 3) := by decide +kernel
theorem dX1_placeOf_28 : decode cX1_placeOf 28 = .ok (.iload_n 1, 1) := by decide +kernel
theorem dX1_placeOf_29 : decode cX1_placeOf 29 = .ok (.iaload, 1) := by decide +kernel
theorem dX1_placeOf_30 : decode cX1_placeOf 30 = .ok (.iconst 1, 1) := by decide +kernel
theorem dX1_placeOf_31 : decode cX1_placeOf 31 = .ok (.isub, 1) := by decide +kernel
theorem dX1_placeOf_32 : decode cX1_placeOf 32 = .ok (.ireturn, 1) := by decide +kernel
theorem dX1_placeOf_33 : decode cX1_placeOf 33 = .ok (.aload_n 0, 1) := by decide +kernel
theorem dX1_placeOf_34 : decode cX1_placeOf 34 = .ok (.getfield 49, 3) := by decide +kernel
theorem dX1_placeOf_37 : decode cX1_placeOf 37 = .ok (.ifCond .lt 13, 3) := by decide +kernel
theorem dX1_placeOf_40 : decode cX1_placeOf 40 = .ok (.aload_n 0, 1) := by decide +kernel
theorem dX1_placeOf_41 : decode cX1_placeOf 41 = .ok (.getfield 49, 3) := by decide +kernel
theorem dX1_placeOf_44 : decode cX1_placeOf 44 = .ok (.sipush 1000, 3) := by decide +kernel
theorem dX1_placeOf_47 : decode cX1_placeOf 47 = .ok (.if_icmp .lt 10, 3) := by decide +kernel
theorem dX1_placeOf_50 : decode cX1_placeOf 50 = .ok (.aload_n 0, 1) := by decide +kernel
theorem dX1_placeOf_51 : decode cX1_placeOf 51 = .ok (.iconst 1, 1) := by decide +kernel
theorem dX1_placeOf_52 : decode cX1_placeOf 52 = .ok (.putfield 46, 3) := by decide +kernel
theorem dX1_placeOf_55 : decode cX1_placeOf 55 = .ok (.iconst (-1), 1) := by decide +kernel
theorem dX1_placeOf_56 : decode cX1_placeOf 56 = .ok (.ireturn, 1) := by decide +kernel
theorem dX1_placeOf_57 : decode cX1_placeOf 57 = .ok (.aload_n 0, 1) := by decide +kernel
theorem dX1_placeOf_58 : decode cX1_placeOf 58 = .ok (.getfield 9, 3) := by decide +kernel
theorem dX1_placeOf_61 : decode cX1_placeOf 61 = .ok (.aload_n 0, 1) := by decide +kernel
theorem dX1_placeOf_62 : decode cX1_placeOf 62 = .ok (.getfield 49, 3) := by decide +kernel
theorem dX1_placeOf_65 : decode cX1_placeOf 65 = .ok (.iload_n 1, 1) := by decide +kernel
theorem dX1_placeOf_66 : decode cX1_placeOf 66 = .ok (.iastore, 1) := by decide +kernel
theorem dX1_placeOf_67 : decode cX1_placeOf 67 = .ok (.aload_n 0, 1) := by decide +kernel
theorem dX1_placeOf_68 : decode cX1_placeOf 68 = .ok (.getfield 15, 3) := by decide +kernel
theorem dX1_placeOf_71 : decode cX1_placeOf 71 = .ok (.aload_n 0, 1) := by decide +kernel
theorem dX1_placeOf_72 : decode cX1_placeOf 72 = .ok (.getfield 49, 3) := by decide +kernel
theorem dX1_placeOf_75 : decode cX1_placeOf 75 = .ok (.iload_n 2, 1) := by decide +kernel
theorem dX1_placeOf_76 : decode cX1_placeOf 76 = .ok (.iastore, 1) := by decide +kernel
theorem dX1_placeOf_77 : decode cX1_placeOf 77 = .ok (.aload_n 0, 1) := by decide +kernel
theorem dX1_placeOf_78 : decode cX1_placeOf 78 = .ok (.dup, 1) := by decide +kernel
theorem dX1_placeOf_79 : decode cX1_placeOf 79 = .ok (.getfield 49, 3) := by decide +kernel
theorem dX1_placeOf_82 : decode cX1_placeOf 82 = .ok (.iconst 1, 1) := by decide +kernel
theorem dX1_placeOf_83 : decode cX1_placeOf 83 = .ok (.iadd, 1) := by decide +kernel
theorem dX1_placeOf_84 : decode cX1_placeOf 84 = .ok (.putfield 49, 3) := by decide +kernel
theorem dX1_placeOf_87 : decode cX1_placeOf 87 = .ok (.aload_n 0, 1) := by decide +kernel
theorem dX1_placeOf_88 : decode cX1_placeOf 88 = .ok (.getfield 21, 3) := by decide +kernel
theorem dX1_placeOf_91 : decode cX1_placeOf 91 = .ok (.iload_n 1, 1) := by decide +kernel
theorem dX1_placeOf_92 : decode cX1_placeOf 92 = .ok (.aload_n 0, 1) := by decide +kernel
theorem dX1_placeOf_93 : decode cX1_placeOf 93 = .ok (.getfield 49, 3) := by decide +kernel
theorem dX1_placeOf_96 : decode cX1_placeOf 96 = .ok (.iastore, 1) := by decide +kernel
theorem dX1_placeOf_97 : decode cX1_placeOf 97 = .ok (.aload_n 0, 1) := by decide +kernel
theorem dX1_placeOf_98 : decode cX1_placeOf 98 = .ok (.getfield 49, 3) := by decide +kernel
theorem dX1_placeOf_101 : decode cX1_placeOf 101 = .ok (.iconst 1, 1) := by decide +kernel
theorem dX1_placeOf_102 : decode cX1_placeOf 102 = .ok (.isub, 1) := by decide +kernel
theorem dX1_placeOf_103 : decode cX1_placeOf 103 = .ok (.ireturn, 1) := by decide +kernel
set_option maxRecDepth 20000 in
theorem ggX1_expand_X5_readyIn : GoodIn wsX1_expand wsX5_readyIn := goodIn_r _ [12, 13, 14, 15, 16, 17, 18, 19, 20, 21, 22, 23, 24, 110, 111, 112, 99, 100, 101, 102, 103, 104, 105, 106, 107, 108, 109] (by decide +kernel) (by decide +kernel)
set_option maxRecDepth 20000 in
theorem gX1_expand_X5_readyIn : GoodIn wsX1_expand (wsV RX1 79 RX5 yX5_readyIn wsX5_readyIn) := goodIn_app (goodIn_of _ (by decide +kernel)) ggX1_expand_X5_readyIn
set_option maxRecDepth 20000 in
theorem ggX1_expand_J6_bitCount_0f7a4 : GoodIn wsX1_expand wsJ6_bitCount_0f7a4 := goodIn_r _ [28, 29, 30, 31] (by decide +kernel) (by decide +kernel)
set_option maxRecDepth 20000 in
theorem gX1_expand_J6_bitCount_0f7a4 : GoodIn wsX1_expand (va_wsS RX1 85 yJ6_bitCount_0f7a4 wsJ6_bitCount_0f7a4) := goodIn_app (goodIn_of _ (by decide +kernel)) ggX1_expand_J6_bitCount_0f7a4
set_option maxRecDepth 20000 in
theorem ggX1_expand_X6_triggeredIn : GoodIn wsX1_expand wsX6_triggeredIn := goodIn_r _ [24] (by decide +kernel) (by decide +kernel)
set_option maxRecDepth 20000 in
theorem gX1_expand_X6_triggeredIn_n90 : GoodIn wsX1_expand (wsX6_triggeredIn) := ggX1_expand_X6_triggeredIn
set_option maxRecDepth 20000 in
theorem ggX1_expand_X6_factsIn : GoodIn wsX1_expand wsX6_factsIn := goodIn_r _ [33] (by decide +kernel) (by decide +kernel)
set_option maxRecDepth 20000 in
theorem gX1_expand_X6_factsIn_n93 : GoodIn wsX1_expand (wsX6_factsIn) := ggX1_expand_X6_factsIn
set_option maxRecDepth 20000 in
theorem ggX1_expand_X0_append : GoodIn wsX1_expand wsX0_append := goodIn_r _ [38, 39, 40, 41, 113, 114, 115] (by decide +kernel) (by decide +kernel)
set_option maxRecDepth 20000 in
theorem gX1_expand_X0_append : GoodIn wsX1_expand (wsV RX1 96 RX0 yX0_append wsX0_append) := goodIn_app (goodIn_of _ (by decide +kernel)) ggX1_expand_X0_append
set_option maxRecDepth 20000 in
theorem ggX1_expand_X5_ruleOrNull : GoodIn wsX1_expand wsX5_ruleOrNull := goodIn_r _ [45, 46, 13, 110, 111, 112] (by decide +kernel) (by decide +kernel)
set_option maxRecDepth 20000 in
theorem gX1_expand_X5_ruleOrNull : GoodIn wsX1_expand (wsV RX1 99 RX5 yX5_ruleOrNull wsX5_ruleOrNull) := goodIn_app (goodIn_of _ (by decide +kernel)) ggX1_expand_X5_ruleOrNull
set_option maxRecDepth 20000 in
theorem ggX1_expand_X5_played : GoodIn wsX1_expand wsX5_played := goodIn_r _ [50, 14, 51, 32, 23, 33, 22, 24, 52, 53, 54, 55, 56, 18, 57, 58, 59, 60, 61, 62, 63, 64, 65, 66, 67, 11, 68, 69, 70, 71, 72, 73, 99, 100, 101, 102, 103, 104, 105, 106, 107, 108, 109, 110, 111, 112] (by decide +kernel) (by decide +kernel)
set_option maxRecDepth 20000 in
theorem gX1_expand_X5_played : GoodIn wsX1_expand (wsV RX1 108 RX5 yX5_played wsX5_played) := goodIn_app (goodIn_of _ (by decide +kernel)) ggX1_expand_X5_played
set_option maxRecDepth 20000 in
theorem ggX1_expand_X1_placeOf : GoodIn wsX1_expand wsX1_placeOf := goodIn_r _ [78, 79, 80, 81, 1, 6, 87, 88, 89, 90, 91, 92, 93, 94, 95, 96, 97, 98] (by decide +kernel) (by decide +kernel)
set_option maxRecDepth 20000 in
theorem gX1_expand_X1_placeOf : GoodIn wsX1_expand (wsV RX1 62 RX1 yX1_placeOf wsX1_placeOf) := goodIn_app (goodIn_of _ (by decide +kernel)) ggX1_expand_X1_placeOf
set_option maxRecDepth 20000 in
theorem ggX1_expand_X1_keepNext : GoodIn wsX1_expand wsX1_keepNext := goodIn_r _ [85, 86, 87, 88, 89, 90, 91, 92, 93, 94, 95, 96, 97, 98] (by decide +kernel) (by decide +kernel)
set_option maxRecDepth 20000 in
theorem gX1_expand_X1_keepNext : GoodIn wsX1_expand (wsV RX1 112 RX1 yX1_keepNext wsX1_keepNext) := goodIn_app (goodIn_of _ (by decide +kernel)) ggX1_expand_X1_keepNext
theorem dX1_expand_0 : decode cX1_expand 0 = .ok (.iload_n 1, 1) := by decide +kernel
theorem dX1_expand_1 : decode cX1_expand 1 = .ok (.ifCond .lt 10, 3) := by decide +kernel
theorem dX1_expand_4 : decode cX1_expand 4 = .ok (.iload_n 1, 1) := by decide +kernel
theorem dX1_expand_5 : decode cX1_expand 5 = .ok (.sipush 1000, 3) := by decide +kernel
theorem dX1_expand_8 : decode cX1_expand 8 = .ok (.if_icmp .lt 4, 3) := by decide +kernel
theorem dX1_expand_11 : decode cX1_expand 11 = .ok (.return_, 1) := by decide +kernel
theorem dX1_expand_12 : decode cX1_expand 12 = .ok (.aload_n 0, 1) := by decide +kernel
theorem dX1_expand_13 : decode cX1_expand 13 = .ok (.getfield 9, 3) := by decide +kernel
theorem dX1_expand_16 : decode cX1_expand 16 = .ok (.iload_n 1, 1) := by decide +kernel
theorem dX1_expand_17 : decode cX1_expand 17 = .ok (.iaload, 1) := by decide +kernel
theorem dX1_expand_18 : decode cX1_expand 18 = .ok (.istore_n 2, 1) := by decide +kernel
theorem dX1_expand_19 : decode cX1_expand 19 = .ok (.aload_n 0, 1) := by decide +kernel
theorem dX1_expand_20 : decode cX1_expand 20 = .ok (.getfield 38, 3) := by decide +kernel
theorem dX1_expand_23 : decode cX1_expand 23 = .ok (.iload_n 2, 1) := by decide +kernel
theorem dX1_expand_24 : decode cX1_expand 24 = .ok (.invokevirtual 79, 3) := by decide +kernel
theorem dX1_expand_27 : decode cX1_expand 27 = .ok (.istore_n 3, 1) := by decide +kernel
theorem dX1_expand_28 : decode cX1_expand 28 = .ok (.aload_n 0, 1) := by decide +kernel
theorem dX1_expand_29 : decode cX1_expand 29 = .ok (.dup, 1) := by decide +kernel
theorem dX1_expand_30 : decode cX1_expand 30 = .ok (.getfield 53, 3) := by decide +kernel
theorem dX1_expand_33 : decode cX1_expand 33 = .ok (.iload_n 3, 1) := by decide +kernel
theorem dX1_expand_34 : decode cX1_expand 34 = .ok (.ior, 1) := by decide +kernel
theorem dX1_expand_35 : decode cX1_expand 35 = .ok (.putfield 53, 3) := by decide +kernel
theorem dX1_expand_38 : decode cX1_expand 38 = .ok (.iload_n 3, 1) := by decide +kernel
theorem dX1_expand_39 : decode cX1_expand 39 = .ok (.invokestatic 85, 3) := by decide +kernel
theorem dX1_expand_42 : decode cX1_expand 42 = .ok (.iconst 1, 1) := by decide +kernel
theorem dX1_expand_43 : decode cX1_expand 43 = .ok (.if_icmp .le 13, 3) := by decide +kernel
theorem dX1_expand_46 : decode cX1_expand 46 = .ok (.aload_n 0, 1) := by decide +kernel
theorem dX1_expand_47 : decode cX1_expand 47 = .ok (.dup, 1) := by decide +kernel
theorem dX1_expand_48 : decode cX1_expand 48 = .ok (.getfield 56, 3) := by decide +kernel
theorem dX1_expand_51 : decode cX1_expand 51 = .ok (.iconst 1, 1) := by decide +kernel
theorem dX1_expand_52 : decode cX1_expand 52 = .ok (.iadd, 1) := by decide +kernel
theorem dX1_expand_53 : decode cX1_expand 53 = .ok (.putfield 56, 3) := by decide +kernel
theorem dX1_expand_56 : decode cX1_expand 56 = .ok (.iload_n 2, 1) := by decide +kernel
theorem dX1_expand_57 : decode cX1_expand 57 = .ok (.invokestatic 90, 3) := by decide +kernel
theorem dX1_expand_60 : decode cX1_expand 60 = .ok (.ifCond .ne 20, 3) := by decide +kernel
theorem dX1_expand_63 : decode cX1_expand 63 = .ok (.aload_n 0, 1) := by decide +kernel
theorem dX1_expand_64 : decode cX1_expand 64 = .ok (.getfield 27, 3) := by decide +kernel
theorem dX1_expand_67 : decode cX1_expand 67 = .ok (.iload_n 2, 1) := by decide +kernel
theorem dX1_expand_68 : decode cX1_expand 68 = .ok (.invokestatic 93, 3) := by decide +kernel
theorem dX1_expand_71 : decode cX1_expand 71 = .ok (.aload_n 0, 1) := by decide +kernel
theorem dX1_expand_72 : decode cX1_expand 72 = .ok (.getfield 15, 3) := by decide +kernel
theorem dX1_expand_75 : decode cX1_expand 75 = .ok (.iload_n 1, 1) := by decide +kernel
theorem dX1_expand_76 : decode cX1_expand 76 = .ok (.iaload, 1) := by decide +kernel
theorem dX1_expand_77 : decode cX1_expand 77 = .ok (.invokevirtual 96, 3) := by decide +kernel
theorem dX1_expand_80 : decode cX1_expand 80 = .ok (.iconst 0, 1) := by decide +kernel
theorem dX1_expand_81 : decode cX1_expand 81 = .ok (.istore 4, 2) := by decide +kernel
theorem dX1_expand_83 : decode cX1_expand 83 = .ok (.iload 4, 2) := by decide +kernel
theorem dX1_expand_85 : decode cX1_expand 85 = .ok (.bipush 8, 2) := by decide +kernel
theorem dX1_expand_87 : decode cX1_expand 87 = .ok (.if_icmp .ge 75, 3) := by decide +kernel
theorem dX1_expand_90 : decode cX1_expand 90 = .ok (.aload_n 0, 1) := by decide +kernel
theorem dX1_expand_91 : decode cX1_expand 91 = .ok (.getfield 38, 3) := by decide +kernel
theorem dX1_expand_94 : decode cX1_expand 94 = .ok (.iload 4, 2) := by decide +kernel
theorem dX1_expand_96 : decode cX1_expand 96 = .ok (.invokevirtual 99, 3) := by decide +kernel
theorem dX1_expand_99 : decode cX1_expand 99 = .ok (.astore 5, 2) := by decide +kernel
theorem dX1_expand_101 : decode cX1_expand 101 = .ok (.iconst (-1), 1) := by decide +kernel
theorem dX1_expand_102 : decode cX1_expand 102 = .ok (.istore 6, 2) := by decide +kernel
theorem dX1_expand_104 : decode cX1_expand 104 = .ok (.aload 5, 2) := by decide +kernel
theorem dX1_expand_106 : decode cX1_expand 106 = .ok (.ifnull 37, 3) := by decide +kernel
theorem dX1_expand_109 : decode cX1_expand 109 = .ok (.iload_n 3, 1) := by decide +kernel
theorem dX1_expand_110 : decode cX1_expand 110 = .ok (.aload 5, 2) := by decide +kernel
theorem dX1_expand_112 : decode cX1_expand 112 = .ok (.getfield 103, 3) := by decide +kernel
theorem dX1_expand_115 : decode cX1_expand 115 = .ok (.iand, 1) := by decide +kernel
theorem dX1_expand_116 : decode cX1_expand 116 = .ok (.ifCond .eq 27, 3) := by decide +kernel
theorem dX1_expand_119 : decode cX1_expand 119 = .ok (.aload_n 0, 1) := by decide +kernel
theorem dX1_expand_120 : decode cX1_expand 120 = .ok (.aload_n 0, 1) := by decide +kernel
theorem dX1_expand_121 : decode cX1_expand 121 = .ok (.getfield 38, 3) := by decide +kernel
theorem dX1_expand_124 : decode cX1_expand 124 = .ok (.iload_n 2, 1) := by decide +kernel
theorem dX1_expand_125 : decode cX1_expand 125 = .ok (.aload 5, 2) := by decide +kernel
theorem dX1_expand_127 : decode cX1_expand 127 = .ok (.invokevirtual 108, 3) := by decide +kernel
theorem dX1_expand_130 : decode cX1_expand 130 = .ok (.aload_n 0, 1) := by decide +kernel
theorem dX1_expand_131 : decode cX1_expand 131 = .ok (.getfield 15, 3) := by decide +kernel
theorem dX1_expand_134 : decode cX1_expand 134 = .ok (.iload_n 1, 1) := by decide +kernel
theorem dX1_expand_135 : decode cX1_expand 135 = .ok (.iaload, 1) := by decide +kernel
theorem dX1_expand_136 : decode cX1_expand 136 = .ok (.iconst 1, 1) := by decide +kernel
theorem dX1_expand_137 : decode cX1_expand 137 = .ok (.iadd, 1) := by decide +kernel
theorem dX1_expand_138 : decode cX1_expand 138 = .ok (.invokevirtual 62, 3) := by decide +kernel
theorem dX1_expand_141 : decode cX1_expand 141 = .ok (.istore 6, 2) := by decide +kernel
theorem dX1_expand_143 : decode cX1_expand 143 = .ok (.aload_n 0, 1) := by decide +kernel
theorem dX1_expand_144 : decode cX1_expand 144 = .ok (.iload_n 1, 1) := by decide +kernel
theorem dX1_expand_145 : decode cX1_expand 145 = .ok (.bipush 8, 2) := by decide +kernel
theorem dX1_expand_147 : decode cX1_expand 147 = .ok (.imul, 1) := by decide +kernel
theorem dX1_expand_148 : decode cX1_expand 148 = .ok (.iload 4, 2) := by decide +kernel
theorem dX1_expand_150 : decode cX1_expand 150 = .ok (.iadd, 1) := by decide +kernel
theorem dX1_expand_151 : decode cX1_expand 151 = .ok (.iload 6, 2) := by decide +kernel
theorem dX1_expand_153 : decode cX1_expand 153 = .ok (.invokevirtual 112, 3) := by decide +kernel
theorem dX1_expand_156 : decode cX1_expand 156 = .ok (.iinc 4 1, 3) := by decide +kernel
theorem dX1_expand_159 : decode cX1_expand 159 = .ok (.goto (-76), 3) := by decide +kernel
theorem dX1_expand_162 : decode cX1_expand 162 = .ok (.return_, 1) := by decide +kernel
theorem dX1_keepNext_0 : decode cX1_keepNext 0 = .ok (.iload_n 1, 1) := by decide +kernel
theorem dX1_keepNext_1 : decode cX1_keepNext 1 = .ok (.ifCond .lt 19, 3) := by decide +kernel
theorem dX1_keepNext_4 : decode cX1_keepNext 4 = .ok (.iload_n 1, 1) := by decide +kernel
theorem dX1_keepNext_5 : decode cX1_keepNext 5 = .ok (.aload_n 0, 1) := by decide +kernel
theorem dX1_keepNext_6 : decode cX1_keepNext 6 = .ok (.getfield 18, 3) := by decide +kernel
theorem dX1_keepNext_9 : decode cX1_keepNext 9 = .ok (.arraylength, 1) := by decide +kernel
theorem dX1_keepNext_10 : decode cX1_keepNext 10 = .ok (.if_icmp .ge 10, 3) := by decide +kernel
theorem dX1_keepNext_13 : decode cX1_keepNext 13 = .ok (.aload_n 0, 1) := by decide +kernel
theorem dX1_keepNext_14 : decode cX1_keepNext 14 = .ok (.getfield 18, 3) := by decide +kernel
theorem dX1_keepNext_17 : decode cX1_keepNext 17 = .ok (.iload_n 1, 1) := by decide +kernel
theorem dX1_keepNext_18 : decode cX1_keepNext 18 = .ok (.iload_n 2, 1) := by decide +kernel
theorem dX1_keepNext_19 : decode cX1_keepNext 19 = .ok (.iastore, 1) := by decide +kernel
theorem dX1_keepNext_20 : decode cX1_keepNext 20 = .ok (.return_, 1) := by decide +kernel
theorem dX2_init_0 : decode cX2_init 0 = .ok (.aload_n 0, 1) := by decide +kernel
theorem dX2_init_1 : decode cX2_init 1 = .ok (.invokespecial 3, 3) := by decide +kernel
theorem dX2_init_4 : decode cX2_init 4 = .ok (.aload_n 0, 1) := by decide +kernel
theorem dX2_init_5 : decode cX2_init 5 = .ok (.bipush 8, 2) := by decide +kernel
theorem dX2_init_7 : decode cX2_init 7 = .ok (.newarray .int, 2) := by decide +kernel
theorem dX2_init_9 : decode cX2_init 9 = .ok (.putfield 9, 3) := by decide +kernel
theorem dX2_init_12 : decode cX2_init 12 = .ok (.aload_n 0, 1) := by decide +kernel
theorem dX2_init_13 : decode cX2_init 13 = .ok (.aload_n 1, 1) := by decide +kernel
theorem dX2_init_14 : decode cX2_init 14 = .ok (.putfield 15, 3) := by decide +kernel
theorem dX2_init_17 : decode cX2_init 17 = .ok (.return_, 1) := by decide +kernel
set_option maxRecDepth 20000 in
theorem ggX2_inCircles_X2_spreadReach : GoodIn wsX2_inCircles wsX2_spreadReach := goodIn_r _ [6, 1, 7, 8, 9, 10, 11, 12, 13, 14, 15, 16, 17, 18, 19, 20, 21, 22, 23, 24, 25, 26, 27, 28, 29, 30, 31, 32, 33, 34, 35, 36, 37, 38, 39, 40, 41, 42, 43, 44, 45, 46, 47] (by decide +kernel) (by decide +kernel)
set_option maxRecDepth 20000 in
theorem gX2_inCircles_X2_spreadReach : GoodIn wsX2_inCircles (wsV RX2 19 RX2 yX2_spreadReach wsX2_spreadReach) := goodIn_app (goodIn_of _ (by decide +kernel)) ggX2_inCircles_X2_spreadReach
theorem dX2_inCircles_0 : decode cX2_inCircles 0 = .ok (.aload_n 0, 1) := by decide +kernel
theorem dX2_inCircles_1 : decode cX2_inCircles 1 = .ok (.invokevirtual 19, 3) := by decide +kernel
theorem dX2_inCircles_4 : decode cX2_inCircles 4 = .ok (.iconst 0, 1) := by decide +kernel
theorem dX2_inCircles_5 : decode cX2_inCircles 5 = .ok (.istore_n 1, 1) := by decide +kernel
theorem dX2_inCircles_6 : decode cX2_inCircles 6 = .ok (.iconst 0, 1) := by decide +kernel
theorem dX2_inCircles_7 : decode cX2_inCircles 7 = .ok (.istore_n 2, 1) := by decide +kernel
theorem dX2_inCircles_8 : decode cX2_inCircles 8 = .ok (.iload_n 2, 1) := by decide +kernel
theorem dX2_inCircles_9 : decode cX2_inCircles 9 = .ok (.aload_n 0, 1) := by decide +kernel
theorem dX2_inCircles_10 : decode cX2_inCircles 10 = .ok (.getfield 9, 3) := by decide +kernel
theorem dX2_inCircles_13 : decode cX2_inCircles 13 = .ok (.arraylength, 1) := by decide +kernel
theorem dX2_inCircles_14 : decode cX2_inCircles 14 = .ok (.if_icmp .ge 22, 3) := by decide +kernel
theorem dX2_inCircles_17 : decode cX2_inCircles 17 = .ok (.iload_n 1, 1) := by decide +kernel
theorem dX2_inCircles_18 : decode cX2_inCircles 18 = .ok (.aload_n 0, 1) := by decide +kernel
theorem dX2_inCircles_19 : decode cX2_inCircles 19 = .ok (.getfield 9, 3) := by decide +kernel
theorem dX2_inCircles_22 : decode cX2_inCircles 22 = .ok (.iload_n 2, 1) := by decide +kernel
theorem dX2_inCircles_23 : decode cX2_inCircles 23 = .ok (.iaload, 1) := by decide +kernel
theorem dX2_inCircles_24 : decode cX2_inCircles 24 = .ok (.iconst 1, 1) := by decide +kernel
theorem dX2_inCircles_25 : decode cX2_inCircles 25 = .ok (.iload_n 2, 1) := by decide +kernel
theorem dX2_inCircles_26 : decode cX2_inCircles 26 = .ok (.ishl, 1) := by decide +kernel
theorem dX2_inCircles_27 : decode cX2_inCircles 27 = .ok (.iand, 1) := by decide +kernel
theorem dX2_inCircles_28 : decode cX2_inCircles 28 = .ok (.ior, 1) := by decide +kernel
theorem dX2_inCircles_29 : decode cX2_inCircles 29 = .ok (.istore_n 1, 1) := by decide +kernel
theorem dX2_inCircles_30 : decode cX2_inCircles 30 = .ok (.iinc 2 1, 3) := by decide +kernel
theorem dX2_inCircles_33 : decode cX2_inCircles 33 = .ok (.goto (-25), 3) := by decide +kernel
theorem dX2_inCircles_36 : decode cX2_inCircles 36 = .ok (.iload_n 1, 1) := by decide +kernel
theorem dX2_inCircles_37 : decode cX2_inCircles 37 = .ok (.ireturn, 1) := by decide +kernel
set_option maxRecDepth 20000 in
theorem ggX2_spreadReach_X5_ruleOrNull : GoodIn wsX2_spreadReach wsX5_ruleOrNull := goodIn_r _ [7, 8, 9, 29, 30, 31] (by decide +kernel) (by decide +kernel)
set_option maxRecDepth 20000 in
theorem gX2_spreadReach_X5_ruleOrNull : GoodIn wsX2_spreadReach (wsV RX2 22 RX5 yX5_ruleOrNull wsX5_ruleOrNull) := goodIn_app (goodIn_of _ (by decide +kernel)) ggX2_spreadReach_X5_ruleOrNull
set_option maxRecDepth 20000 in
theorem ggX2_spreadReach_X5_triggerableBy : GoodIn wsX2_spreadReach wsX5_triggerableBy := goodIn_r _ [13, 14, 15, 16, 17, 18, 19, 20, 21, 22, 23, 24, 6, 25, 26, 32, 33, 34, 35, 36, 37, 38, 39, 40, 41, 42, 29, 30, 31] (by decide +kernel) (by decide +kernel)
set_option maxRecDepth 20000 in
theorem gX2_spreadReach_X5_triggerableBy : GoodIn wsX2_spreadReach (wsV RX2 28 RX5 yX5_triggerableBy wsX5_triggerableBy) := goodIn_app (goodIn_of _ (by decide +kernel)) ggX2_spreadReach_X5_triggerableBy
theorem dX2_spreadReach_0 : decode cX2_spreadReach 0 = .ok (.iconst 0, 1) := by decide +kernel
theorem dX2_spreadReach_1 : decode cX2_spreadReach 1 = .ok (.istore_n 1, 1) := by decide +kernel
theorem dX2_spreadReach_2 : decode cX2_spreadReach 2 = .ok (.iload_n 1, 1) := by decide +kernel
theorem dX2_spreadReach_3 : decode cX2_spreadReach 3 = .ok (.aload_n 0, 1) := by decide +kernel
theorem dX2_spreadReach_4 : decode cX2_spreadReach 4 = .ok (.getfield 9, 3) := by decide +kernel
theorem dX2_spreadReach_7 : decode cX2_spreadReach 7 = .ok (.arraylength, 1) := by decide +kernel
theorem dX2_spreadReach_8 : decode cX2_spreadReach 8 = .ok (.if_icmp .ge 40, 3) := by decide +kernel
theorem dX2_spreadReach_11 : decode cX2_spreadReach 11 = .ok (.aload_n 0, 1) := by decide +kernel
theorem dX2_spreadReach_12 : decode cX2_spreadReach 12 = .ok (.getfield 15, 3) := by decide +kernel
theorem dX2_spreadReach_15 : decode cX2_spreadReach 15 = .ok (.iload_n 1, 1) := by decide +kernel
theorem dX2_spreadReach_16 : decode cX2_spreadReach 16 = .ok (.invokevirtual 22, 3) := by decide +kernel
theorem dX2_spreadReach_19 : decode cX2_spreadReach 19 = .ok (.astore_n 2, 1) := by decide +kernel
theorem dX2_spreadReach_20 : decode cX2_spreadReach 20 = .ok (.aload_n 0, 1) := by decide +kernel
theorem dX2_spreadReach_21 : decode cX2_spreadReach 21 = .ok (.getfield 9, 3) := by decide +kernel
theorem dX2_spreadReach_24 : decode cX2_spreadReach 24 = .ok (.iload_n 1, 1) := by decide +kernel
theorem dX2_spreadReach_25 : decode cX2_spreadReach 25 = .ok (.aload_n 2, 1) := by decide +kernel
theorem dX2_spreadReach_26 : decode cX2_spreadReach 26 = .ok (.ifnonnull 7, 3) := by decide +kernel
theorem dX2_spreadReach_29 : decode cX2_spreadReach 29 = .ok (.iconst 0, 1) := by decide +kernel
theorem dX2_spreadReach_30 : decode cX2_spreadReach 30 = .ok (.goto 11, 3) := by decide +kernel
theorem dX2_spreadReach_33 : decode cX2_spreadReach 33 = .ok (.aload_n 0, 1) := by decide +kernel
theorem dX2_spreadReach_34 : decode cX2_spreadReach 34 = .ok (.getfield 15, 3) := by decide +kernel
theorem dX2_spreadReach_37 : decode cX2_spreadReach 37 = .ok (.aload_n 2, 1) := by decide +kernel
theorem dX2_spreadReach_38 : decode cX2_spreadReach 38 = .ok (.invokevirtual 28, 3) := by decide +kernel
theorem dX2_spreadReach_41 : decode cX2_spreadReach 41 = .ok (.iastore, 1) := by decide +kernel
theorem dX2_spreadReach_42 : decode cX2_spreadReach 42 = .ok (.iinc 1 1, 3) := by decide +kernel
theorem dX2_spreadReach_45 : decode cX2_spreadReach 45 = .ok (.goto (-43), 3) := by decide +kernel
theorem dX2_spreadReach_48 : decode cX2_spreadReach 48 = .ok (.iconst 0, 1) := by decide +kernel
theorem dX2_spreadReach_49 : decode cX2_spreadReach 49 = .ok (.istore_n 1, 1) := by decide +kernel
theorem dX2_spreadReach_50 : decode cX2_spreadReach 50 = .ok (.iload_n 1, 1) := by decide +kernel
theorem dX2_spreadReach_51 : decode cX2_spreadReach 51 = .ok (.aload_n 0, 1) := by decide +kernel
theorem dX2_spreadReach_52 : decode cX2_spreadReach 52 = .ok (.getfield 9, 3) := by decide +kernel
theorem dX2_spreadReach_55 : decode cX2_spreadReach 55 = .ok (.arraylength, 1) := by decide +kernel
theorem dX2_spreadReach_56 : decode cX2_spreadReach 56 = .ok (.if_icmp .ge 54, 3) := by decide +kernel
theorem dX2_spreadReach_59 : decode cX2_spreadReach 59 = .ok (.iconst 0, 1) := by decide +kernel
theorem dX2_spreadReach_60 : decode cX2_spreadReach 60 = .ok (.istore_n 2, 1) := by decide +kernel
theorem dX2_spreadReach_61 : decode cX2_spreadReach 61 = .ok (.iload_n 2, 1) := by decide +kernel
theorem dX2_spreadReach_62 : decode cX2_spreadReach 62 = .ok (.aload_n 0, 1) := by decide +kernel
theorem dX2_spreadReach_63 : decode cX2_spreadReach 63 = .ok (.getfield 9, 3) := by decide +kernel
theorem dX2_spreadReach_66 : decode cX2_spreadReach 66 = .ok (.arraylength, 1) := by decide +kernel
theorem dX2_spreadReach_67 : decode cX2_spreadReach 67 = .ok (.if_icmp .ge 37, 3) := by decide +kernel
theorem dX2_spreadReach_70 : decode cX2_spreadReach 70 = .ok (.aload_n 0, 1) := by decide +kernel
theorem dX2_spreadReach_71 : decode cX2_spreadReach 71 = .ok (.getfield 9, 3) := by decide +kernel
theorem dX2_spreadReach_74 : decode cX2_spreadReach 74 = .ok (.iload_n 2, 1) := by decide +kernel
theorem dX2_spreadReach_75 : decode cX2_spreadReach 75 = .ok (.iaload, 1) := by decide +kernel
theorem dX2_spreadReach_76 : decode cX2_spreadReach 76 = .ok (.iconst 1, 1) := by decide +kernel
theorem dX2_spreadReach_77 : decode cX2_spreadReach 77 = .ok (.iload_n 1, 1) := by decide +kernel
theorem dX2_spreadReach_78 : decode cX2_spreadReach 78 = .ok (.ishl, 1) := by decide +kernel
theorem dX2_spreadReach_79 : decode cX2_spreadReach 79 = .ok (.iand, 1) := by decide +kernel
theorem dX2_spreadReach_80 : decode cX2_spreadReach 80 = .ok (.ifCond .eq 18, 3) := by decide +kernel
theorem dX2_spreadReach_83 : decode cX2_spreadReach 83 = .ok (.aload_n 0, 1) := by decide +kernel
theorem dX2_spreadReach_84 : decode cX2_spreadReach 84 = .ok (.getfield 9, 3) := by decide +kernel
theorem dX2_spreadReach_87 : decode cX2_spreadReach 87 = .ok (.iload_n 2, 1) := by decide +kernel
theorem dX2_spreadReach_88 : decode cX2_spreadReach 88 = .ok (.dup2, 1) := by decide +kernel
theorem dX2_spreadReach_89 : decode cX2_spreadReach 89 = .ok (.iaload, 1) := by decide +kernel
theorem dX2_spreadReach_90 : decode cX2_spreadReach 90 = .ok (.aload_n 0, 1) := by decide +kernel
theorem dX2_spreadReach_91 : decode cX2_spreadReach 91 = .ok (.getfield 9, 3) := by decide +kernel
theorem dX2_spreadReach_94 : decode cX2_spreadReach 94 = .ok (.iload_n 1, 1) := by decide +kernel
theorem dX2_spreadReach_95 : decode cX2_spreadReach 95 = .ok (.iaload, 1) := by decide +kernel
theorem dX2_spreadReach_96 : decode cX2_spreadReach 96 = .ok (.ior, 1) := by decide +kernel
theorem dX2_spreadReach_97 : decode cX2_spreadReach 97 = .ok (.iastore, 1) := by decide +kernel
theorem dX2_spreadReach_98 : decode cX2_spreadReach 98 = .ok (.iinc 2 1, 3) := by decide +kernel
theorem dX2_spreadReach_101 : decode cX2_spreadReach 101 = .ok (.goto (-40), 3) := by decide +kernel
theorem dX2_spreadReach_104 : decode cX2_spreadReach 104 = .ok (.iinc 1 1, 3) := by decide +kernel
theorem dX2_spreadReach_107 : decode cX2_spreadReach 107 = .ok (.goto (-57), 3) := by decide +kernel
theorem dX2_spreadReach_110 : decode cX2_spreadReach 110 = .ok (.return_, 1) := by decide +kernel
set_option maxRecDepth 20000 in
theorem ggX2_areIndependent_X5_triggerableBy : GoodIn wsX2_areIndependent wsX5_triggerableBy := goodIn_r _ [10, 11, 12, 13, 14, 15, 16, 17, 18, 19, 20, 21, 9, 22, 23, 36, 37, 38, 39, 40, 41, 42, 43, 44, 45, 46, 49, 50, 51] (by decide +kernel) (by decide +kernel)
set_option maxRecDepth 20000 in
theorem gX2_areIndependent_X5_triggerableBy : GoodIn wsX2_areIndependent (wsV RX2 28 RX5 yX5_triggerableBy wsX5_triggerableBy) := goodIn_app (goodIn_of _ (by decide +kernel)) ggX2_areIndependent_X5_triggerableBy
set_option maxRecDepth 20000 in
theorem ggX2_areIndependent_X4_changedFacts : GoodIn wsX2_areIndependent wsX4_changedFacts := goodIn_r _ [27, 28, 29, 36, 37, 38, 39, 40, 41, 42, 43, 44, 45, 46] (by decide +kernel) (by decide +kernel)
set_option maxRecDepth 20000 in
theorem gX2_areIndependent_X4_changedFacts : GoodIn wsX2_areIndependent (wsV RX2 42 RX4 yX4_changedFacts wsX4_changedFacts) := goodIn_app (goodIn_of _ (by decide +kernel)) ggX2_areIndependent_X4_changedFacts
set_option maxRecDepth 20000 in
theorem ggX2_areIndependent_X4_conditionFacts : GoodIn wsX2_areIndependent wsX4_conditionFacts := goodIn_r _ [33, 34, 35, 36, 37, 38, 39, 40, 41, 42, 43, 44, 45, 46] (by decide +kernel) (by decide +kernel)
set_option maxRecDepth 20000 in
theorem gX2_areIndependent_X4_conditionFacts : GoodIn wsX2_areIndependent (wsV RX2 46 RX4 yX4_conditionFacts wsX4_conditionFacts) := goodIn_app (goodIn_of _ (by decide +kernel)) ggX2_areIndependent_X4_conditionFacts
theorem dX2_areIndependent_0 : decode cX2_areIndependent 0 = .ok (.aload_n 1, 1) := by decide +kernel
theorem dX2_areIndependent_1 : decode cX2_areIndependent 1 = .ok (.getfield 32, 3) := by decide +kernel
theorem dX2_areIndependent_4 : decode cX2_areIndependent 4 = .ok (.ifCond .eq 10, 3) := by decide +kernel
theorem dX2_areIndependent_7 : decode cX2_areIndependent 7 = .ok (.aload_n 2, 1) := by decide +kernel
theorem dX2_areIndependent_8 : decode cX2_areIndependent 8 = .ok (.getfield 32, 3) := by decide +kernel
theorem dX2_areIndependent_11 : decode cX2_areIndependent 11 = .ok (.ifCond .ne 5, 3) := by decide +kernel
theorem dX2_areIndependent_14 : decode cX2_areIndependent 14 = .ok (.iconst 1, 1) := by decide +kernel
theorem dX2_areIndependent_15 : decode cX2_areIndependent 15 = .ok (.ireturn, 1) := by decide +kernel
theorem dX2_areIndependent_16 : decode cX2_areIndependent 16 = .ok (.aload_n 0, 1) := by decide +kernel
theorem dX2_areIndependent_17 : decode cX2_areIndependent 17 = .ok (.getfield 15, 3) := by decide +kernel
theorem dX2_areIndependent_20 : decode cX2_areIndependent 20 = .ok (.aload_n 1, 1) := by decide +kernel
theorem dX2_areIndependent_21 : decode cX2_areIndependent 21 = .ok (.invokevirtual 28, 3) := by decide +kernel
theorem dX2_areIndependent_24 : decode cX2_areIndependent 24 = .ok (.aload_n 0, 1) := by decide +kernel
theorem dX2_areIndependent_25 : decode cX2_areIndependent 25 = .ok (.getfield 15, 3) := by decide +kernel
theorem dX2_areIndependent_28 : decode cX2_areIndependent 28 = .ok (.aload_n 2, 1) := by decide +kernel
theorem dX2_areIndependent_29 : decode cX2_areIndependent 29 = .ok (.invokevirtual 28, 3) := by decide +kernel
theorem dX2_areIndependent_32 : decode cX2_areIndependent 32 = .ok (.ior, 1) := by decide +kernel
theorem dX2_areIndependent_33 : decode cX2_areIndependent 33 = .ok (.istore_n 3, 1) := by decide +kernel
theorem dX2_areIndependent_34 : decode cX2_areIndependent 34 = .ok (.iload_n 3, 1) := by decide +kernel
theorem dX2_areIndependent_35 : decode cX2_areIndependent 35 = .ok (.aload_n 1, 1) := by decide +kernel
theorem dX2_areIndependent_36 : decode cX2_areIndependent 36 = .ok (.getfield 38, 3) := by decide +kernel
theorem dX2_areIndependent_39 : decode cX2_areIndependent 39 = .ok (.aload_n 2, 1) := by decide +kernel
theorem dX2_areIndependent_40 : decode cX2_areIndependent 40 = .ok (.getfield 38, 3) := by decide +kernel
theorem dX2_areIndependent_43 : decode cX2_areIndependent 43 = .ok (.ior, 1) := by decide +kernel
theorem dX2_areIndependent_44 : decode cX2_areIndependent 44 = .ok (.iand, 1) := by decide +kernel
theorem dX2_areIndependent_45 : decode cX2_areIndependent 45 = .ok (.ifCond .eq 5, 3) := by decide +kernel
theorem dX2_areIndependent_48 : decode cX2_areIndependent 48 = .ok (.iconst 0, 1) := by decide +kernel
theorem dX2_areIndependent_49 : decode cX2_areIndependent 49 = .ok (.ireturn, 1) := by decide +kernel
theorem dX2_areIndependent_50 : decode cX2_areIndependent 50 = .ok (.aload_n 1, 1) := by decide +kernel
theorem dX2_areIndependent_51 : decode cX2_areIndependent 51 = .ok (.invokevirtual 42, 3) := by decide +kernel
theorem dX2_areIndependent_54 : decode cX2_areIndependent 54 = .ok (.aload_n 2, 1) := by decide +kernel
theorem dX2_areIndependent_55 : decode cX2_areIndependent 55 = .ok (.invokevirtual 46, 3) := by decide +kernel
theorem dX2_areIndependent_58 : decode cX2_areIndependent 58 = .ok (.iand, 1) := by decide +kernel
theorem dX2_areIndependent_59 : decode cX2_areIndependent 59 = .ok (.ifCond .ne 15, 3) := by decide +kernel
theorem dX2_areIndependent_62 : decode cX2_areIndependent 62 = .ok (.aload_n 2, 1) := by decide +kernel
theorem dX2_areIndependent_63 : decode cX2_areIndependent 63 = .ok (.invokevirtual 42, 3) := by decide +kernel
theorem dX2_areIndependent_66 : decode cX2_areIndependent 66 = .ok (.aload_n 1, 1) := by decide +kernel
theorem dX2_areIndependent_67 : decode cX2_areIndependent 67 = .ok (.invokevirtual 46, 3) := by decide +kernel
theorem dX2_areIndependent_70 : decode cX2_areIndependent 70 = .ok (.iand, 1) := by decide +kernel
theorem dX2_areIndependent_71 : decode cX2_areIndependent 71 = .ok (.ifCond .eq 5, 3) := by decide +kernel
theorem dX2_areIndependent_74 : decode cX2_areIndependent 74 = .ok (.iconst 0, 1) := by decide +kernel
theorem dX2_areIndependent_75 : decode cX2_areIndependent 75 = .ok (.ireturn, 1) := by decide +kernel
theorem dX2_areIndependent_76 : decode cX2_areIndependent 76 = .ok (.aload_n 1, 1) := by decide +kernel
theorem dX2_areIndependent_77 : decode cX2_areIndependent 77 = .ok (.getfield 49, 3) := by decide +kernel
theorem dX2_areIndependent_80 : decode cX2_areIndependent 80 = .ok (.aload_n 2, 1) := by decide +kernel
theorem dX2_areIndependent_81 : decode cX2_areIndependent 81 = .ok (.getfield 52, 3) := by decide +kernel
theorem dX2_areIndependent_84 : decode cX2_areIndependent 84 = .ok (.iand, 1) := by decide +kernel
theorem dX2_areIndependent_85 : decode cX2_areIndependent 85 = .ok (.ifCond .ne 19, 3) := by decide +kernel
theorem dX2_areIndependent_88 : decode cX2_areIndependent 88 = .ok (.aload_n 1, 1) := by decide +kernel
theorem dX2_areIndependent_89 : decode cX2_areIndependent 89 = .ok (.getfield 52, 3) := by decide +kernel
theorem dX2_areIndependent_92 : decode cX2_areIndependent 92 = .ok (.aload_n 2, 1) := by decide +kernel
theorem dX2_areIndependent_93 : decode cX2_areIndependent 93 = .ok (.getfield 49, 3) := by decide +kernel
theorem dX2_areIndependent_96 : decode cX2_areIndependent 96 = .ok (.iand, 1) := by decide +kernel
theorem dX2_areIndependent_97 : decode cX2_areIndependent 97 = .ok (.ifCond .ne 7, 3) := by decide +kernel
theorem dX2_areIndependent_100 : decode cX2_areIndependent 100 = .ok (.iconst 1, 1) := by decide +kernel
theorem dX2_areIndependent_101 : decode cX2_areIndependent 101 = .ok (.goto 4, 3) := by decide +kernel
theorem dX2_areIndependent_104 : decode cX2_areIndependent 104 = .ok (.iconst 0, 1) := by decide +kernel
theorem dX2_areIndependent_105 : decode cX2_areIndependent 105 = .ok (.ireturn, 1) := by decide +kernel
set_option maxRecDepth 20000 in
theorem ggX2_areInConflict_X5_ruleOrNull : GoodIn wsX2_areInConflict wsX5_ruleOrNull := goodIn_r _ [6, 7, 8, 55, 56, 57] (by decide +kernel) (by decide +kernel)
set_option maxRecDepth 20000 in
theorem gX2_areInConflict_X5_ruleOrNull : GoodIn wsX2_areInConflict (wsV RX2 22 RX5 yX5_ruleOrNull wsX5_ruleOrNull) := goodIn_app (goodIn_of _ (by decide +kernel)) ggX2_areInConflict_X5_ruleOrNull
set_option maxRecDepth 20000 in
theorem ggX2_areInConflict_X4_isOver : GoodIn wsX2_areInConflict wsX4_isOver := goodIn_r _ [13, 14, 15, 58, 59, 60, 61, 62, 63, 64, 65, 66, 67, 68] (by decide +kernel) (by decide +kernel)
set_option maxRecDepth 20000 in
theorem gX2_areInConflict_X4_isOver : GoodIn wsX2_areInConflict (wsV RX2 55 RX4 yX4_isOver wsX4_isOver) := goodIn_app (goodIn_of _ (by decide +kernel)) ggX2_areInConflict_X4_isOver
set_option maxRecDepth 20000 in
theorem ggX2_areInConflict_X2_areIndependent : GoodIn wsX2_areInConflict wsX2_areIndependent := goodIn_r _ [20, 21, 1, 22, 23, 24, 25, 26, 27, 5, 28, 29, 30, 31, 32, 33, 12, 34, 35, 36, 37, 38, 39, 40, 41, 42, 43, 44, 45, 46, 47, 48, 49, 50, 51, 52, 58, 59, 60, 61, 62, 63, 64, 65, 66, 67, 68, 53, 54, 55, 56, 57] (by decide +kernel) (by decide +kernel)
set_option maxRecDepth 20000 in
theorem gX2_areInConflict_X2_areIndependent : GoodIn wsX2_areInConflict (wsV RX2 59 RX2 yX2_areIndependent wsX2_areIndependent) := goodIn_app (goodIn_of _ (by decide +kernel)) ggX2_areInConflict_X2_areIndependent
theorem dX2_areInConflict_0 : decode cX2_areInConflict 0 = .ok (.aload_n 0, 1) := by decide +kernel
theorem dX2_areInConflict_1 : decode cX2_areInConflict 1 = .ok (.getfield 15, 3) := by decide +kernel
theorem dX2_areInConflict_4 : decode cX2_areInConflict 4 = .ok (.iload_n 1, 1) := by decide +kernel
theorem dX2_areInConflict_5 : decode cX2_areInConflict 5 = .ok (.invokevirtual 22, 3) := by decide +kernel
theorem dX2_areInConflict_8 : decode cX2_areInConflict 8 = .ok (.astore_n 3, 1) := by decide +kernel
theorem dX2_areInConflict_9 : decode cX2_areInConflict 9 = .ok (.aload_n 0, 1) := by decide +kernel
theorem dX2_areInConflict_10 : decode cX2_areInConflict 10 = .ok (.getfield 15, 3) := by decide +kernel
theorem dX2_areInConflict_13 : decode cX2_areInConflict 13 = .ok (.iload_n 2, 1) := by decide +kernel
theorem dX2_areInConflict_14 : decode cX2_areInConflict 14 = .ok (.invokevirtual 22, 3) := by decide +kernel
theorem dX2_areInConflict_17 : decode cX2_areInConflict 17 = .ok (.astore 4, 2) := by decide +kernel
theorem dX2_areInConflict_19 : decode cX2_areInConflict 19 = .ok (.aload_n 3, 1) := by decide +kernel
theorem dX2_areInConflict_20 : decode cX2_areInConflict 20 = .ok (.ifnull 26, 3) := by decide +kernel
theorem dX2_areInConflict_23 : decode cX2_areInConflict 23 = .ok (.aload 4, 2) := by decide +kernel
theorem dX2_areInConflict_25 : decode cX2_areInConflict 25 = .ok (.ifnull 21, 3) := by decide +kernel
theorem dX2_areInConflict_28 : decode cX2_areInConflict 28 = .ok (.aload_n 3, 1) := by decide +kernel
theorem dX2_areInConflict_29 : decode cX2_areInConflict 29 = .ok (.aload 4, 2) := by decide +kernel
theorem dX2_areInConflict_31 : decode cX2_areInConflict 31 = .ok (.invokevirtual 55, 3) := by decide +kernel
theorem dX2_areInConflict_34 : decode cX2_areInConflict 34 = .ok (.ifCond .ne 12, 3) := by decide +kernel
theorem dX2_areInConflict_37 : decode cX2_areInConflict 37 = .ok (.aload 4, 2) := by decide +kernel
theorem dX2_areInConflict_39 : decode cX2_areInConflict 39 = .ok (.aload_n 3, 1) := by decide +kernel
theorem dX2_areInConflict_40 : decode cX2_areInConflict 40 = .ok (.invokevirtual 55, 3) := by decide +kernel
theorem dX2_areInConflict_43 : decode cX2_areInConflict 43 = .ok (.ifCond .eq 5, 3) := by decide +kernel
theorem dX2_areInConflict_46 : decode cX2_areInConflict 46 = .ok (.iconst 0, 1) := by decide +kernel
theorem dX2_areInConflict_47 : decode cX2_areInConflict 47 = .ok (.ireturn, 1) := by decide +kernel
theorem dX2_areInConflict_48 : decode cX2_areInConflict 48 = .ok (.aload_n 0, 1) := by decide +kernel
theorem dX2_areInConflict_49 : decode cX2_areInConflict 49 = .ok (.aload_n 3, 1) := by decide +kernel
theorem dX2_areInConflict_50 : decode cX2_areInConflict 50 = .ok (.aload 4, 2) := by decide +kernel
theorem dX2_areInConflict_52 : decode cX2_areInConflict 52 = .ok (.invokevirtual 59, 3) := by decide +kernel
theorem dX2_areInConflict_55 : decode cX2_areInConflict 55 = .ok (.ifCond .ne 7, 3) := by decide +kernel
theorem dX2_areInConflict_58 : decode cX2_areInConflict 58 = .ok (.iconst 1, 1) := by decide +kernel
theorem dX2_areInConflict_59 : decode cX2_areInConflict 59 = .ok (.goto 4, 3) := by decide +kernel
theorem dX2_areInConflict_62 : decode cX2_areInConflict 62 = .ok (.iconst 0, 1) := by decide +kernel
theorem dX2_areInConflict_63 : decode cX2_areInConflict 63 = .ok (.ireturn, 1) := by decide +kernel
set_option maxRecDepth 20000 in
theorem ggX2_countConflicts_X2_areInConflict : GoodIn wsX2_countConflicts wsX2_areInConflict := goodIn_r _ [5, 6, 7, 8, 9, 10, 11, 12, 13, 14, 15, 16, 17, 18, 19, 20, 21, 22, 23, 4, 24, 25, 26, 27, 28, 29, 30, 31, 32, 33, 34, 35, 36, 37, 38, 39, 40, 41, 42, 43, 44, 45, 46, 47, 48, 49, 50, 51, 52, 53, 54, 55, 56, 57, 58, 59, 60, 61, 62, 63, 64, 65, 66, 67, 68, 69, 70, 71, 72] (by decide +kernel) (by decide +kernel)
set_option maxRecDepth 20000 in
theorem gX2_countConflicts_X2_areInConflict : GoodIn wsX2_countConflicts (wsV RX2 63 RX2 yX2_areInConflict wsX2_areInConflict) := goodIn_app (goodIn_of _ (by decide +kernel)) ggX2_countConflicts_X2_areInConflict
theorem dX2_countConflicts_0 : decode cX2_countConflicts 0 = .ok (.iconst 0, 1) := by decide +kernel
theorem dX2_countConflicts_1 : decode cX2_countConflicts 1 = .ok (.istore_n 1, 1) := by decide +kernel
theorem dX2_countConflicts_2 : decode cX2_countConflicts 2 = .ok (.iconst 0, 1) := by decide +kernel
theorem dX2_countConflicts_3 : decode cX2_countConflicts 3 = .ok (.istore_n 2, 1) := by decide +kernel
theorem dX2_countConflicts_4 : decode cX2_countConflicts 4 = .ok (.iload_n 2, 1) := by decide +kernel
theorem dX2_countConflicts_5 : decode cX2_countConflicts 5 = .ok (.bipush 8, 2) := by decide +kernel
theorem dX2_countConflicts_7 : decode cX2_countConflicts 7 = .ok (.if_icmp .ge 37, 3) := by decide +kernel
theorem dX2_countConflicts_10 : decode cX2_countConflicts 10 = .ok (.iload_n 2, 1) := by decide +kernel
theorem dX2_countConflicts_11 : decode cX2_countConflicts 11 = .ok (.iconst 1, 1) := by decide +kernel
theorem dX2_countConflicts_12 : decode cX2_countConflicts 12 = .ok (.iadd, 1) := by decide +kernel
theorem dX2_countConflicts_13 : decode cX2_countConflicts 13 = .ok (.istore_n 3, 1) := by decide +kernel
theorem dX2_countConflicts_14 : decode cX2_countConflicts 14 = .ok (.iload_n 3, 1) := by decide +kernel
theorem dX2_countConflicts_15 : decode cX2_countConflicts 15 = .ok (.bipush 8, 2) := by decide +kernel
theorem dX2_countConflicts_17 : decode cX2_countConflicts 17 = .ok (.if_icmp .ge 21, 3) := by decide +kernel
theorem dX2_countConflicts_20 : decode cX2_countConflicts 20 = .ok (.aload_n 0, 1) := by decide +kernel
theorem dX2_countConflicts_21 : decode cX2_countConflicts 21 = .ok (.iload_n 2, 1) := by decide +kernel
theorem dX2_countConflicts_22 : decode cX2_countConflicts 22 = .ok (.iload_n 3, 1) := by decide +kernel
theorem dX2_countConflicts_23 : decode cX2_countConflicts 23 = .ok (.invokevirtual 63, 3) := by decide +kernel
theorem dX2_countConflicts_26 : decode cX2_countConflicts 26 = .ok (.ifCond .eq 6, 3) := by decide +kernel
theorem dX2_countConflicts_29 : decode cX2_countConflicts 29 = .ok (.iinc 1 1, 3) := by decide +kernel
theorem dX2_countConflicts_32 : decode cX2_countConflicts 32 = .ok (.iinc 3 1, 3) := by decide +kernel
theorem dX2_countConflicts_35 : decode cX2_countConflicts 35 = .ok (.goto (-21), 3) := by decide +kernel
theorem dX2_countConflicts_38 : decode cX2_countConflicts 38 = .ok (.iinc 2 1, 3) := by decide +kernel
theorem dX2_countConflicts_41 : decode cX2_countConflicts 41 = .ok (.goto (-37), 3) := by decide +kernel
theorem dX2_countConflicts_44 : decode cX2_countConflicts 44 = .ok (.iload_n 1, 1) := by decide +kernel
theorem dX2_countConflicts_45 : decode cX2_countConflicts 45 = .ok (.ireturn, 1) := by decide +kernel
set_option maxRecDepth 20000 in
theorem ggX2_conflictAt_X2_areInConflict : GoodIn wsX2_conflictAt wsX2_areInConflict := goodIn_r _ [5, 6, 7, 8, 9, 10, 11, 12, 13, 14, 15, 16, 17, 18, 19, 20, 21, 22, 23, 4, 24, 25, 26, 27, 28, 29, 30, 31, 32, 33, 34, 35, 36, 37, 38, 39, 40, 41, 42, 43, 44, 45, 46, 47, 48, 49, 50, 51, 52, 53, 54, 55, 56, 57, 58, 59, 60, 61, 62, 63, 64, 65, 66, 67, 68, 69, 70, 71, 72] (by decide +kernel) (by decide +kernel)
set_option maxRecDepth 20000 in
theorem gX2_conflictAt_X2_areInConflict : GoodIn wsX2_conflictAt (wsV RX2 63 RX2 yX2_areInConflict wsX2_areInConflict) := goodIn_app (goodIn_of _ (by decide +kernel)) ggX2_conflictAt_X2_areInConflict
theorem dX2_conflictAt_0 : decode cX2_conflictAt 0 = .ok (.iconst 0, 1) := by decide +kernel
theorem dX2_conflictAt_1 : decode cX2_conflictAt 1 = .ok (.istore_n 2, 1) := by decide +kernel
theorem dX2_conflictAt_2 : decode cX2_conflictAt 2 = .ok (.iconst 0, 1) := by decide +kernel
theorem dX2_conflictAt_3 : decode cX2_conflictAt 3 = .ok (.istore_n 3, 1) := by decide +kernel
theorem dX2_conflictAt_4 : decode cX2_conflictAt 4 = .ok (.iload_n 3, 1) := by decide +kernel
theorem dX2_conflictAt_5 : decode cX2_conflictAt 5 = .ok (.bipush 8, 2) := by decide +kernel
theorem dX2_conflictAt_7 : decode cX2_conflictAt 7 = .ok (.if_icmp .ge 53, 3) := by decide +kernel
theorem dX2_conflictAt_10 : decode cX2_conflictAt 10 = .ok (.iload_n 3, 1) := by decide +kernel
theorem dX2_conflictAt_11 : decode cX2_conflictAt 11 = .ok (.iconst 1, 1) := by decide +kernel
theorem dX2_conflictAt_12 : decode cX2_conflictAt 12 = .ok (.iadd, 1) := by decide +kernel
theorem dX2_conflictAt_13 : decode cX2_conflictAt 13 = .ok (.istore 4, 2) := by decide +kernel
theorem dX2_conflictAt_15 : decode cX2_conflictAt 15 = .ok (.iload 4, 2) := by decide +kernel
theorem dX2_conflictAt_17 : decode cX2_conflictAt 17 = .ok (.bipush 8, 2) := by decide +kernel
theorem dX2_conflictAt_19 : decode cX2_conflictAt 19 = .ok (.if_icmp .ge 35, 3) := by decide +kernel
theorem dX2_conflictAt_22 : decode cX2_conflictAt 22 = .ok (.aload_n 0, 1) := by decide +kernel
theorem dX2_conflictAt_23 : decode cX2_conflictAt 23 = .ok (.iload_n 3, 1) := by decide +kernel
theorem dX2_conflictAt_24 : decode cX2_conflictAt 24 = .ok (.iload 4, 2) := by decide +kernel
theorem dX2_conflictAt_26 : decode cX2_conflictAt 26 = .ok (.invokevirtual 63, 3) := by decide +kernel
theorem dX2_conflictAt_29 : decode cX2_conflictAt 29 = .ok (.ifCond .eq 19, 3) := by decide +kernel
theorem dX2_conflictAt_32 : decode cX2_conflictAt 32 = .ok (.iload_n 2, 1) := by decide +kernel
theorem dX2_conflictAt_33 : decode cX2_conflictAt 33 = .ok (.iload_n 1, 1) := by decide +kernel
theorem dX2_conflictAt_34 : decode cX2_conflictAt 34 = .ok (.if_icmp .ne 11, 3) := by decide +kernel
theorem dX2_conflictAt_37 : decode cX2_conflictAt 37 = .ok (.bipush 10, 2) := by decide +kernel
theorem dX2_conflictAt_39 : decode cX2_conflictAt 39 = .ok (.iload_n 3, 1) := by decide +kernel
theorem dX2_conflictAt_40 : decode cX2_conflictAt 40 = .ok (.imul, 1) := by decide +kernel
theorem dX2_conflictAt_41 : decode cX2_conflictAt 41 = .ok (.iload 4, 2) := by decide +kernel
theorem dX2_conflictAt_43 : decode cX2_conflictAt 43 = .ok (.iadd, 1) := by decide +kernel
theorem dX2_conflictAt_44 : decode cX2_conflictAt 44 = .ok (.ireturn, 1) := by decide +kernel
theorem dX2_conflictAt_45 : decode cX2_conflictAt 45 = .ok (.iinc 2 1, 3) := by decide +kernel
theorem dX2_conflictAt_48 : decode cX2_conflictAt 48 = .ok (.iinc 4 1, 3) := by decide +kernel
theorem dX2_conflictAt_51 : decode cX2_conflictAt 51 = .ok (.goto (-36), 3) := by decide +kernel
theorem dX2_conflictAt_54 : decode cX2_conflictAt 54 = .ok (.iinc 3 1, 3) := by decide +kernel
theorem dX2_conflictAt_57 : decode cX2_conflictAt 57 = .ok (.goto (-53), 3) := by decide +kernel
theorem dX2_conflictAt_60 : decode cX2_conflictAt 60 = .ok (.iconst (-1), 1) := by decide +kernel
theorem dX2_conflictAt_61 : decode cX2_conflictAt 61 = .ok (.ireturn, 1) := by decide +kernel
theorem dX3_init_0 : decode cX3_init 0 = .ok (.aload_n 0, 1) := by decide +kernel
theorem dX3_init_1 : decode cX3_init 1 = .ok (.invokespecial 3, 3) := by decide +kernel
theorem dX3_init_4 : decode cX3_init 4 = .ok (.aload_n 0, 1) := by decide +kernel
theorem dX3_init_5 : decode cX3_init 5 = .ok (.sipush 1000, 3) := by decide +kernel
theorem dX3_init_8 : decode cX3_init 8 = .ok (.newarray .int, 2) := by decide +kernel
theorem dX3_init_10 : decode cX3_init 10 = .ok (.putfield 9, 3) := by decide +kernel
theorem dX3_init_13 : decode cX3_init 13 = .ok (.aload_n 0, 1) := by decide +kernel
theorem dX3_init_14 : decode cX3_init 14 = .ok (.sipush 1000, 3) := by decide +kernel
theorem dX3_init_17 : decode cX3_init 17 = .ok (.newarray .int, 2) := by decide +kernel
theorem dX3_init_19 : decode cX3_init 19 = .ok (.putfield 15, 3) := by decide +kernel
theorem dX3_init_22 : decode cX3_init 22 = .ok (.aload_n 0, 1) := by decide +kernel
theorem dX3_init_23 : decode cX3_init 23 = .ok (.sipush 1000, 3) := by decide +kernel
theorem dX3_init_26 : decode cX3_init 26 = .ok (.newarray .long, 2) := by decide +kernel
theorem dX3_init_28 : decode cX3_init 28 = .ok (.putfield 18, 3) := by decide +kernel
theorem dX3_init_31 : decode cX3_init 31 = .ok (.aload_n 0, 1) := by decide +kernel
theorem dX3_init_32 : decode cX3_init 32 = .ok (.sipush 1000, 3) := by decide +kernel
theorem dX3_init_35 : decode cX3_init 35 = .ok (.newarray .int, 2) := by decide +kernel
theorem dX3_init_37 : decode cX3_init 37 = .ok (.putfield 22, 3) := by decide +kernel
theorem dX3_init_40 : decode cX3_init 40 = .ok (.return_, 1) := by decide +kernel
theorem dX3_isFinite_0 : decode cX3_isFinite 0 = .ok (.aload_n 0, 1) := by decide +kernel
theorem dX3_isFinite_1 : decode cX3_isFinite 1 = .ok (.getfield 25, 3) := by decide +kernel
theorem dX3_isFinite_4 : decode cX3_isFinite 4 = .ok (.ireturn, 1) := by decide +kernel
theorem dX3_mostPlays_0 : decode cX3_mostPlays 0 = .ok (.aload_n 0, 1) := by decide +kernel
theorem dX3_mostPlays_1 : decode cX3_mostPlays 1 = .ok (.getfield 25, 3) := by decide +kernel
theorem dX3_mostPlays_4 : decode cX3_mostPlays 4 = .ok (.ifCond .eq 10, 3) := by decide +kernel
theorem dX3_mostPlays_7 : decode cX3_mostPlays 7 = .ok (.aload_n 0, 1) := by decide +kernel
theorem dX3_mostPlays_8 : decode cX3_mostPlays 8 = .ok (.getfield 29, 3) := by decide +kernel
theorem dX3_mostPlays_11 : decode cX3_mostPlays 11 = .ok (.goto 4, 3) := by decide +kernel
theorem dX3_mostPlays_14 : decode cX3_mostPlays 14 = .ok (.iconst (-1), 1) := by decide +kernel
theorem dX3_mostPlays_15 : decode cX3_mostPlays 15 = .ok (.ireturn, 1) := by decide +kernel
theorem dX3_wayCount_0 : decode cX3_wayCount 0 = .ok (.aload_n 0, 1) := by decide +kernel
theorem dX3_wayCount_1 : decode cX3_wayCount 1 = .ok (.getfield 25, 3) := by decide +kernel
theorem dX3_wayCount_4 : decode cX3_wayCount 4 = .ok (.ifCond .eq 10, 3) := by decide +kernel
theorem dX3_wayCount_7 : decode cX3_wayCount 7 = .ok (.aload_n 0, 1) := by decide +kernel
theorem dX3_wayCount_8 : decode cX3_wayCount 8 = .ok (.getfield 33, 3) := by decide +kernel
theorem dX3_wayCount_11 : decode cX3_wayCount 11 = .ok (.goto 6, 3) := by decide +kernel
theorem dX3_wayCount_14 : decode cX3_wayCount 14 = .ok (.ldc2_w 37, 3) := by decide +kernel
theorem dX3_wayCount_17 : decode cX3_wayCount 17 = .ok (.lreturn, 1) := by decide +kernel
set_option maxRecDepth 20000 in
theorem ggX3_study_X3_countIncoming : GoodIn wsX3_study wsX3_countIncoming := goodIn_r _ [8, 9, 10, 11, 12, 13, 14, 15, 16, 17, 18, 19, 20, 21, 22, 45, 46, 47, 48, 49, 50, 51, 52, 53, 54, 55, 56, 57, 58, 59, 60, 61, 62, 63, 64] (by decide +kernel) (by decide +kernel)
set_option maxRecDepth 20000 in
theorem gX3_study_X3_countIncoming : GoodIn wsX3_study (wsV RX3 39 RX3 yX3_countIncoming wsX3_countIncoming) := goodIn_app (goodIn_of _ (by decide +kernel)) ggX3_study_X3_countIncoming
set_option maxRecDepth 20000 in
theorem ggX3_study_X3_startAtFirst : GoodIn wsX3_study wsX3_startAtFirst := goodIn_r _ [26, 1, 27, 28, 11, 9, 29, 30, 31, 7, 32, 2, 45, 46, 47, 48, 49, 50, 51, 52] (by decide +kernel) (by decide +kernel)
set_option maxRecDepth 20000 in
theorem gX3_study_X3_startAtFirst : GoodIn wsX3_study (wsV RX3 43 RX3 yX3_startAtFirst wsX3_startAtFirst) := goodIn_app (goodIn_of _ (by decide +kernel)) ggX3_study_X3_startAtFirst
set_option maxRecDepth 20000 in
theorem ggX3_study_X3_take : GoodIn wsX3_study wsX3_take := goodIn_r _ [36, 10, 11, 27, 37, 38, 39, 40, 28, 18, 19, 20, 15, 21, 17, 22, 41, 42, 43, 7, 44, 9, 29, 30, 31, 32, 1, 2, 45, 46, 47, 48, 49, 50, 51, 52, 53, 54, 55, 56, 57, 58, 59, 60, 61, 62, 63, 64] (by decide +kernel) (by decide +kernel)
set_option maxRecDepth 20000 in
theorem gX3_study_X3_take : GoodIn wsX3_study (wsV RX3 49 RX3 yX3_take wsX3_take) := goodIn_app (goodIn_of _ (by decide +kernel)) ggX3_study_X3_take
set_option maxRecDepth 20000 in
theorem ggX3_study_X1_size : GoodIn wsX3_study wsX1_size := goodIn_r _ [16, 17, 53, 54, 55, 56, 57, 58, 59, 60, 61, 62, 63, 64] (by decide +kernel) (by decide +kernel)
set_option maxRecDepth 20000 in
theorem gX3_study_X1_size : GoodIn wsX3_study (wsV RX3 53 RX1 yX1_size wsX1_size) := goodIn_app (goodIn_of _ (by decide +kernel)) ggX3_study_X1_size
theorem dX3_study_0 : decode cX3_study 0 = .ok (.aload_n 0, 1) := by decide +kernel
theorem dX3_study_1 : decode cX3_study 1 = .ok (.aload_n 1, 1) := by decide +kernel
theorem dX3_study_2 : decode cX3_study 2 = .ok (.invokevirtual 39, 3) := by decide +kernel
theorem dX3_study_5 : decode cX3_study 5 = .ok (.aload_n 0, 1) := by decide +kernel
theorem dX3_study_6 : decode cX3_study 6 = .ok (.invokevirtual 43, 3) := by decide +kernel
theorem dX3_study_9 : decode cX3_study 9 = .ok (.iconst 0, 1) := by decide +kernel
theorem dX3_study_10 : decode cX3_study 10 = .ok (.istore_n 2, 1) := by decide +kernel
theorem dX3_study_11 : decode cX3_study 11 = .ok (.iload_n 2, 1) := by decide +kernel
theorem dX3_study_12 : decode cX3_study 12 = .ok (.aload_n 0, 1) := by decide +kernel
theorem dX3_study_13 : decode cX3_study 13 = .ok (.getfield 46, 3) := by decide +kernel
theorem dX3_study_16 : decode cX3_study 16 = .ok (.if_icmp .ge 27, 3) := by decide +kernel
theorem dX3_study_19 : decode cX3_study 19 = .ok (.iload_n 2, 1) := by decide +kernel
theorem dX3_study_20 : decode cX3_study 20 = .ok (.sipush 1000, 3) := by decide +kernel
theorem dX3_study_23 : decode cX3_study 23 = .ok (.if_icmp .ge 20, 3) := by decide +kernel
theorem dX3_study_26 : decode cX3_study 26 = .ok (.aload_n 0, 1) := by decide +kernel
theorem dX3_study_27 : decode cX3_study 27 = .ok (.aload_n 1, 1) := by decide +kernel
theorem dX3_study_28 : decode cX3_study 28 = .ok (.aload_n 0, 1) := by decide +kernel
theorem dX3_study_29 : decode cX3_study 29 = .ok (.getfield 22, 3) := by decide +kernel
theorem dX3_study_32 : decode cX3_study 32 = .ok (.iload_n 2, 1) := by decide +kernel
theorem dX3_study_33 : decode cX3_study 33 = .ok (.iaload, 1) := by decide +kernel
theorem dX3_study_34 : decode cX3_study 34 = .ok (.invokevirtual 49, 3) := by decide +kernel
theorem dX3_study_37 : decode cX3_study 37 = .ok (.iinc 2 1, 3) := by decide +kernel
theorem dX3_study_40 : decode cX3_study 40 = .ok (.goto (-29), 3) := by decide +kernel
theorem dX3_study_43 : decode cX3_study 43 = .ok (.aload_n 0, 1) := by decide +kernel
theorem dX3_study_44 : decode cX3_study 44 = .ok (.iload_n 2, 1) := by decide +kernel
theorem dX3_study_45 : decode cX3_study 45 = .ok (.aload_n 1, 1) := by decide +kernel
theorem dX3_study_46 : decode cX3_study 46 = .ok (.invokevirtual 53, 3) := by decide +kernel
theorem dX3_study_49 : decode cX3_study 49 = .ok (.if_icmp .ne 7, 3) := by decide +kernel
theorem dX3_study_52 : decode cX3_study 52 = .ok (.iconst 1, 1) := by decide +kernel
theorem dX3_study_53 : decode cX3_study 53 = .ok (.goto 4, 3) := by decide +kernel
theorem dX3_study_56 : decode cX3_study 56 = .ok (.iconst 0, 1) := by decide +kernel
theorem dX3_study_57 : decode cX3_study 57 = .ok (.putfield 25, 3) := by decide +kernel
theorem dX3_study_60 : decode cX3_study 60 = .ok (.return_, 1) := by decide +kernel
set_option maxRecDepth 20000 in
theorem ggX3_countIncoming_X1_size : GoodIn wsX3_countIncoming wsX1_size := goodIn_r _ [8, 9, 23, 24, 25, 26, 27, 28, 29, 30, 31, 32, 33, 34] (by decide +kernel) (by decide +kernel)
set_option maxRecDepth 20000 in
theorem gX3_countIncoming_X1_size : GoodIn wsX3_countIncoming (wsV RX3 53 RX1 yX1_size wsX1_size) := goodIn_app (goodIn_of _ (by decide +kernel)) ggX3_countIncoming_X1_size
set_option maxRecDepth 20000 in
theorem ggX3_countIncoming_X1_nextOf : GoodIn wsX3_countIncoming wsX1_nextOf := goodIn_r _ [13, 9, 14, 23, 24, 25, 26, 27, 28, 29, 30, 31, 32, 33, 34] (by decide +kernel) (by decide +kernel)
set_option maxRecDepth 20000 in
theorem gX3_countIncoming_X1_nextOf : GoodIn wsX3_countIncoming (wsV RX3 59 RX1 yX1_nextOf wsX1_nextOf) := goodIn_app (goodIn_of _ (by decide +kernel)) ggX3_countIncoming_X1_nextOf
theorem dX3_countIncoming_0 : decode cX3_countIncoming 0 = .ok (.iconst 0, 1) := by decide +kernel
theorem dX3_countIncoming_1 : decode cX3_countIncoming 1 = .ok (.istore_n 2, 1) := by decide +kernel
theorem dX3_countIncoming_2 : decode cX3_countIncoming 2 = .ok (.iload_n 2, 1) := by decide +kernel
theorem dX3_countIncoming_3 : decode cX3_countIncoming 3 = .ok (.aload_n 1, 1) := by decide +kernel
theorem dX3_countIncoming_4 : decode cX3_countIncoming 4 = .ok (.invokevirtual 53, 3) := by decide +kernel
theorem dX3_countIncoming_7 : decode cX3_countIncoming 7 = .ok (.if_icmp .ge 37, 3) := by decide +kernel
theorem dX3_countIncoming_10 : decode cX3_countIncoming 10 = .ok (.iload_n 2, 1) := by decide +kernel
theorem dX3_countIncoming_11 : decode cX3_countIncoming 11 = .ok (.sipush 1000, 3) := by decide +kernel
theorem dX3_countIncoming_14 : decode cX3_countIncoming 14 = .ok (.if_icmp .ge 30, 3) := by decide +kernel
theorem dX3_countIncoming_17 : decode cX3_countIncoming 17 = .ok (.aload_n 0, 1) := by decide +kernel
theorem dX3_countIncoming_18 : decode cX3_countIncoming 18 = .ok (.getfield 9, 3) := by decide +kernel
theorem dX3_countIncoming_21 : decode cX3_countIncoming 21 = .ok (.iload_n 2, 1) := by decide +kernel
theorem dX3_countIncoming_22 : decode cX3_countIncoming 22 = .ok (.iconst 0, 1) := by decide +kernel
theorem dX3_countIncoming_23 : decode cX3_countIncoming 23 = .ok (.iastore, 1) := by decide +kernel
theorem dX3_countIncoming_24 : decode cX3_countIncoming 24 = .ok (.aload_n 0, 1) := by decide +kernel
theorem dX3_countIncoming_25 : decode cX3_countIncoming 25 = .ok (.getfield 15, 3) := by decide +kernel
theorem dX3_countIncoming_28 : decode cX3_countIncoming 28 = .ok (.iload_n 2, 1) := by decide +kernel
theorem dX3_countIncoming_29 : decode cX3_countIncoming 29 = .ok (.iconst 0, 1) := by decide +kernel
theorem dX3_countIncoming_30 : decode cX3_countIncoming 30 = .ok (.iastore, 1) := by decide +kernel
theorem dX3_countIncoming_31 : decode cX3_countIncoming 31 = .ok (.aload_n 0, 1) := by decide +kernel
theorem dX3_countIncoming_32 : decode cX3_countIncoming 32 = .ok (.getfield 18, 3) := by decide +kernel
theorem dX3_countIncoming_35 : decode cX3_countIncoming 35 = .ok (.iload_n 2, 1) := by decide +kernel
theorem dX3_countIncoming_36 : decode cX3_countIncoming 36 = .ok (.lconst 0, 1) := by decide +kernel
theorem dX3_countIncoming_37 : decode cX3_countIncoming 37 = .ok (.lastore, 1) := by decide +kernel
theorem dX3_countIncoming_38 : decode cX3_countIncoming 38 = .ok (.iinc 2 1, 3) := by decide +kernel
theorem dX3_countIncoming_41 : decode cX3_countIncoming 41 = .ok (.goto (-39), 3) := by decide +kernel
theorem dX3_countIncoming_44 : decode cX3_countIncoming 44 = .ok (.iconst 0, 1) := by decide +kernel
theorem dX3_countIncoming_45 : decode cX3_countIncoming 45 = .ok (.istore_n 2, 1) := by decide +kernel
theorem dX3_countIncoming_46 : decode cX3_countIncoming 46 = .ok (.iload_n 2, 1) := by decide +kernel
theorem dX3_countIncoming_47 : decode cX3_countIncoming 47 = .ok (.aload_n 1, 1) := by decide +kernel
theorem dX3_countIncoming_48 : decode cX3_countIncoming 48 = .ok (.invokevirtual 53, 3) := by decide +kernel
theorem dX3_countIncoming_51 : decode cX3_countIncoming 51 = .ok (.if_icmp .ge 55, 3) := by decide +kernel
theorem dX3_countIncoming_54 : decode cX3_countIncoming 54 = .ok (.iconst 0, 1) := by decide +kernel
theorem dX3_countIncoming_55 : decode cX3_countIncoming 55 = .ok (.istore_n 3, 1) := by decide +kernel
theorem dX3_countIncoming_56 : decode cX3_countIncoming 56 = .ok (.iload_n 3, 1) := by decide +kernel
theorem dX3_countIncoming_57 : decode cX3_countIncoming 57 = .ok (.bipush 8, 2) := by decide +kernel
theorem dX3_countIncoming_59 : decode cX3_countIncoming 59 = .ok (.if_icmp .ge 41, 3) := by decide +kernel
theorem dX3_countIncoming_62 : decode cX3_countIncoming 62 = .ok (.aload_n 1, 1) := by decide +kernel
theorem dX3_countIncoming_63 : decode cX3_countIncoming 63 = .ok (.iload_n 2, 1) := by decide +kernel
theorem dX3_countIncoming_64 : decode cX3_countIncoming 64 = .ok (.iload_n 3, 1) := by decide +kernel
theorem dX3_countIncoming_65 : decode cX3_countIncoming 65 = .ok (.invokevirtual 59, 3) := by decide +kernel
theorem dX3_countIncoming_68 : decode cX3_countIncoming 68 = .ok (.istore 4, 2) := by decide +kernel
theorem dX3_countIncoming_70 : decode cX3_countIncoming 70 = .ok (.iload 4, 2) := by decide +kernel
theorem dX3_countIncoming_72 : decode cX3_countIncoming 72 = .ok (.ifCond .lt 22, 3) := by decide +kernel
theorem dX3_countIncoming_75 : decode cX3_countIncoming 75 = .ok (.iload 4, 2) := by decide +kernel
theorem dX3_countIncoming_77 : decode cX3_countIncoming 77 = .ok (.sipush 1000, 3) := by decide +kernel
theorem dX3_countIncoming_80 : decode cX3_countIncoming 80 = .ok (.if_icmp .ge 14, 3) := by decide +kernel
theorem dX3_countIncoming_83 : decode cX3_countIncoming 83 = .ok (.aload_n 0, 1) := by decide +kernel
theorem dX3_countIncoming_84 : decode cX3_countIncoming 84 = .ok (.getfield 9, 3) := by decide +kernel
theorem dX3_countIncoming_87 : decode cX3_countIncoming 87 = .ok (.iload 4, 2) := by decide +kernel
theorem dX3_countIncoming_89 : decode cX3_countIncoming 89 = .ok (.dup2, 1) := by decide +kernel
theorem dX3_countIncoming_90 : decode cX3_countIncoming 90 = .ok (.iaload, 1) := by decide +kernel
theorem dX3_countIncoming_91 : decode cX3_countIncoming 91 = .ok (.iconst 1, 1) := by decide +kernel
theorem dX3_countIncoming_92 : decode cX3_countIncoming 92 = .ok (.iadd, 1) := by decide +kernel
theorem dX3_countIncoming_93 : decode cX3_countIncoming 93 = .ok (.iastore, 1) := by decide +kernel
theorem dX3_countIncoming_94 : decode cX3_countIncoming 94 = .ok (.iinc 3 1, 3) := by decide +kernel
theorem dX3_countIncoming_97 : decode cX3_countIncoming 97 = .ok (.goto (-41), 3) := by decide +kernel
theorem dX3_countIncoming_100 : decode cX3_countIncoming 100 = .ok (.iinc 2 1, 3) := by decide +kernel
theorem dX3_countIncoming_103 : decode cX3_countIncoming 103 = .ok (.goto (-57), 3) := by decide +kernel
theorem dX3_countIncoming_106 : decode cX3_countIncoming 106 = .ok (.return_, 1) := by decide +kernel
set_option maxRecDepth 20000 in
theorem ggX3_startAtFirst_X3_enqueue : GoodIn wsX3_startAtFirst wsX3_enqueue := goodIn_r _ [10, 1, 11, 12, 13, 14, 15, 16, 17, 18, 19] (by decide +kernel) (by decide +kernel)
set_option maxRecDepth 20000 in
theorem gX3_startAtFirst_X3_enqueue : GoodIn wsX3_startAtFirst (wsV RX3 63 RX3 yX3_enqueue wsX3_enqueue) := goodIn_app (goodIn_of _ (by decide +kernel)) ggX3_startAtFirst_X3_enqueue
theorem dX3_startAtFirst_0 : decode cX3_startAtFirst 0 = .ok (.aload_n 0, 1) := by decide +kernel
theorem dX3_startAtFirst_1 : decode cX3_startAtFirst 1 = .ok (.iconst 0, 1) := by decide +kernel
theorem dX3_startAtFirst_2 : decode cX3_startAtFirst 2 = .ok (.putfield 46, 3) := by decide +kernel
theorem dX3_startAtFirst_5 : decode cX3_startAtFirst 5 = .ok (.aload_n 0, 1) := by decide +kernel
theorem dX3_startAtFirst_6 : decode cX3_startAtFirst 6 = .ok (.iconst 0, 1) := by decide +kernel
theorem dX3_startAtFirst_7 : decode cX3_startAtFirst 7 = .ok (.putfield 29, 3) := by decide +kernel
theorem dX3_startAtFirst_10 : decode cX3_startAtFirst 10 = .ok (.aload_n 0, 1) := by decide +kernel
theorem dX3_startAtFirst_11 : decode cX3_startAtFirst 11 = .ok (.lconst 0, 1) := by decide +kernel
theorem dX3_startAtFirst_12 : decode cX3_startAtFirst 12 = .ok (.putfield 33, 3) := by decide +kernel
theorem dX3_startAtFirst_15 : decode cX3_startAtFirst 15 = .ok (.aload_n 0, 1) := by decide +kernel
theorem dX3_startAtFirst_16 : decode cX3_startAtFirst 16 = .ok (.getfield 18, 3) := by decide +kernel
theorem dX3_startAtFirst_19 : decode cX3_startAtFirst 19 = .ok (.iconst 0, 1) := by decide +kernel
theorem dX3_startAtFirst_20 : decode cX3_startAtFirst 20 = .ok (.lconst 1, 1) := by decide +kernel
theorem dX3_startAtFirst_21 : decode cX3_startAtFirst 21 = .ok (.lastore, 1) := by decide +kernel
theorem dX3_startAtFirst_22 : decode cX3_startAtFirst 22 = .ok (.aload_n 0, 1) := by decide +kernel
theorem dX3_startAtFirst_23 : decode cX3_startAtFirst 23 = .ok (.getfield 9, 3) := by decide +kernel
theorem dX3_startAtFirst_26 : decode cX3_startAtFirst 26 = .ok (.iconst 0, 1) := by decide +kernel
theorem dX3_startAtFirst_27 : decode cX3_startAtFirst 27 = .ok (.iaload, 1) := by decide +kernel
theorem dX3_startAtFirst_28 : decode cX3_startAtFirst 28 = .ok (.ifCond .ne 8, 3) := by decide +kernel
theorem dX3_startAtFirst_31 : decode cX3_startAtFirst 31 = .ok (.aload_n 0, 1) := by decide +kernel
theorem dX3_startAtFirst_32 : decode cX3_startAtFirst 32 = .ok (.iconst 0, 1) := by decide +kernel
theorem dX3_startAtFirst_33 : decode cX3_startAtFirst 33 = .ok (.invokevirtual 63, 3) := by decide +kernel
theorem dX3_startAtFirst_36 : decode cX3_startAtFirst 36 = .ok (.return_, 1) := by decide +kernel
theorem dX3_enqueue_0 : decode cX3_enqueue 0 = .ok (.aload_n 0, 1) := by decide +kernel
theorem dX3_enqueue_1 : decode cX3_enqueue 1 = .ok (.getfield 46, 3) := by decide +kernel
theorem dX3_enqueue_4 : decode cX3_enqueue 4 = .ok (.ifCond .lt 33, 3) := by decide +kernel
theorem dX3_enqueue_7 : decode cX3_enqueue 7 = .ok (.aload_n 0, 1) := by decide +kernel
theorem dX3_enqueue_8 : decode cX3_enqueue 8 = .ok (.getfield 46, 3) := by decide +kernel
theorem dX3_enqueue_11 : decode cX3_enqueue 11 = .ok (.sipush 1000, 3) := by decide +kernel
theorem dX3_enqueue_14 : decode cX3_enqueue 14 = .ok (.if_icmp .ge 23, 3) := by decide +kernel
theorem dX3_enqueue_17 : decode cX3_enqueue 17 = .ok (.aload_n 0, 1) := by decide +kernel
theorem dX3_enqueue_18 : decode cX3_enqueue 18 = .ok (.getfield 22, 3) := by decide +kernel
theorem dX3_enqueue_21 : decode cX3_enqueue 21 = .ok (.aload_n 0, 1) := by decide +kernel
theorem dX3_enqueue_22 : decode cX3_enqueue 22 = .ok (.getfield 46, 3) := by decide +kernel
theorem dX3_enqueue_25 : decode cX3_enqueue 25 = .ok (.iload_n 1, 1) := by decide +kernel
theorem dX3_enqueue_26 : decode cX3_enqueue 26 = .ok (.iastore, 1) := by decide +kernel
theorem dX3_enqueue_27 : decode cX3_enqueue 27 = .ok (.aload_n 0, 1) := by decide +kernel
theorem dX3_enqueue_28 : decode cX3_enqueue 28 = .ok (.dup, 1) := by decide +kernel
theorem dX3_enqueue_29 : decode cX3_enqueue 29 = .ok (.getfield 46, 3) := by decide +kernel
theorem dX3_enqueue_32 : decode cX3_enqueue 32 = .ok (.iconst 1, 1) := by decide +kernel
theorem dX3_enqueue_33 : decode cX3_enqueue 33 = .ok (.iadd, 1) := by decide +kernel
theorem dX3_enqueue_34 : decode cX3_enqueue 34 = .ok (.putfield 46, 3) := by decide +kernel
theorem dX3_enqueue_37 : decode cX3_enqueue 37 = .ok (.return_, 1) := by decide +kernel
set_option maxRecDepth 20000 in
theorem ggX3_take_X1_nextOf : GoodIn wsX3_take wsX1_nextOf := goodIn_r _ [13, 14, 15, 36, 37, 38, 39, 40, 41, 42, 43, 44, 45, 46, 47] (by decide +kernel) (by decide +kernel)
set_option maxRecDepth 20000 in
theorem gX3_take_X1_nextOf : GoodIn wsX3_take (wsV RX3 59 RX1 yX1_nextOf wsX1_nextOf) := goodIn_app (goodIn_of _ (by decide +kernel)) ggX3_take_X1_nextOf
set_option maxRecDepth 20000 in
theorem ggX3_take_X3_lead : GoodIn wsX3_take wsX3_lead := goodIn_r _ [20, 1, 4, 5, 6, 7, 2, 21, 22, 23, 24, 19, 25, 26, 27, 28, 29, 30, 31, 32, 33, 34, 35] (by decide +kernel) (by decide +kernel)
set_option maxRecDepth 20000 in
theorem gX3_take_X3_lead : GoodIn wsX3_take (wsV RX3 67 RX3 yX3_lead wsX3_lead) := goodIn_app (goodIn_of _ (by decide +kernel)) ggX3_take_X3_lead
theorem dX3_take_0 : decode cX3_take 0 = .ok (.iload_n 2, 1) := by decide +kernel
theorem dX3_take_1 : decode cX3_take 1 = .ok (.ifCond .lt 10, 3) := by decide +kernel
theorem dX3_take_4 : decode cX3_take 4 = .ok (.iload_n 2, 1) := by decide +kernel
theorem dX3_take_5 : decode cX3_take 5 = .ok (.sipush 1000, 3) := by decide +kernel
theorem dX3_take_8 : decode cX3_take 8 = .ok (.if_icmp .lt 4, 3) := by decide +kernel
theorem dX3_take_11 : decode cX3_take 11 = .ok (.return_, 1) := by decide +kernel
theorem dX3_take_12 : decode cX3_take 12 = .ok (.iconst 1, 1) := by decide +kernel
theorem dX3_take_13 : decode cX3_take 13 = .ok (.istore_n 3, 1) := by decide +kernel
theorem dX3_take_14 : decode cX3_take 14 = .ok (.iconst 0, 1) := by decide +kernel
theorem dX3_take_15 : decode cX3_take 15 = .ok (.istore 4, 2) := by decide +kernel
theorem dX3_take_17 : decode cX3_take 17 = .ok (.iload 4, 2) := by decide +kernel
theorem dX3_take_19 : decode cX3_take 19 = .ok (.bipush 8, 2) := by decide +kernel
theorem dX3_take_21 : decode cX3_take 21 = .ok (.if_icmp .ge 46, 3) := by decide +kernel
theorem dX3_take_24 : decode cX3_take 24 = .ok (.aload_n 1, 1) := by decide +kernel
theorem dX3_take_25 : decode cX3_take 25 = .ok (.iload_n 2, 1) := by decide +kernel
theorem dX3_take_26 : decode cX3_take 26 = .ok (.iload 4, 2) := by decide +kernel
theorem dX3_take_28 : decode cX3_take 28 = .ok (.invokevirtual 59, 3) := by decide +kernel
theorem dX3_take_31 : decode cX3_take 31 = .ok (.istore 5, 2) := by decide +kernel
theorem dX3_take_33 : decode cX3_take 33 = .ok (.iload 5, 2) := by decide +kernel
theorem dX3_take_35 : decode cX3_take 35 = .ok (.iconst (-1), 1) := by decide +kernel
theorem dX3_take_36 : decode cX3_take 36 = .ok (.if_icmp .eq 25, 3) := by decide +kernel
theorem dX3_take_39 : decode cX3_take 39 = .ok (.iconst 0, 1) := by decide +kernel
theorem dX3_take_40 : decode cX3_take 40 = .ok (.istore_n 3, 1) := by decide +kernel
theorem dX3_take_41 : decode cX3_take 41 = .ok (.aload_n 0, 1) := by decide +kernel
theorem dX3_take_42 : decode cX3_take 42 = .ok (.iload 5, 2) := by decide +kernel
theorem dX3_take_44 : decode cX3_take 44 = .ok (.aload_n 0, 1) := by decide +kernel
theorem dX3_take_45 : decode cX3_take 45 = .ok (.getfield 15, 3) := by decide +kernel
theorem dX3_take_48 : decode cX3_take 48 = .ok (.iload_n 2, 1) := by decide +kernel
theorem dX3_take_49 : decode cX3_take 49 = .ok (.iaload, 1) := by decide +kernel
theorem dX3_take_50 : decode cX3_take 50 = .ok (.iconst 1, 1) := by decide +kernel
theorem dX3_take_51 : decode cX3_take 51 = .ok (.iadd, 1) := by decide +kernel
theorem dX3_take_52 : decode cX3_take 52 = .ok (.aload_n 0, 1) := by decide +kernel
theorem dX3_take_53 : decode cX3_take 53 = .ok (.getfield 18, 3) := by decide +kernel
theorem dX3_take_56 : decode cX3_take 56 = .ok (.iload_n 2, 1) := by decide +kernel
theorem dX3_take_57 : decode cX3_take 57 = .ok (.laload, 1) := by decide +kernel
theorem dX3_take_58 : decode cX3_take 58 = .ok (.invokevirtual 67, 3) := by decide +kernel
theorem dX3_take_61 : decode cX3_take 61 = .ok (.iinc 4 1, 3) := by decide +kernel
theorem dX3_take_64 : decode cX3_take 64 = .ok (.goto (-47), 3) := by decide +kernel
theorem dX3_take_67 : decode cX3_take 67 = .ok (.iload_n 3, 1) := by decide +kernel
theorem dX3_take_68 : decode cX3_take 68 = .ok (.ifCond .eq 35, 3) := by decide +kernel
theorem dX3_take_71 : decode cX3_take 71 = .ok (.aload_n 0, 1) := by decide +kernel
theorem dX3_take_72 : decode cX3_take 72 = .ok (.aload_n 0, 1) := by decide +kernel
theorem dX3_take_73 : decode cX3_take 73 = .ok (.getfield 29, 3) := by decide +kernel
theorem dX3_take_76 : decode cX3_take 76 = .ok (.aload_n 0, 1) := by decide +kernel
theorem dX3_take_77 : decode cX3_take 77 = .ok (.getfield 15, 3) := by decide +kernel
theorem dX3_take_80 : decode cX3_take 80 = .ok (.iload_n 2, 1) := by decide +kernel
theorem dX3_take_81 : decode cX3_take 81 = .ok (.iaload, 1) := by decide +kernel
theorem dX3_take_82 : decode cX3_take 82 = .ok (.invokestatic 71, 3) := by decide +kernel
theorem dX3_take_85 : decode cX3_take 85 = .ok (.putfield 29, 3) := by decide +kernel
theorem dX3_take_88 : decode cX3_take 88 = .ok (.aload_n 0, 1) := by decide +kernel
theorem dX3_take_89 : decode cX3_take 89 = .ok (.dup, 1) := by decide +kernel
theorem dX3_take_90 : decode cX3_take 90 = .ok (.getfield 33, 3) := by decide +kernel
theorem dX3_take_93 : decode cX3_take 93 = .ok (.aload_n 0, 1) := by decide +kernel
theorem dX3_take_94 : decode cX3_take 94 = .ok (.getfield 18, 3) := by decide +kernel
theorem dX3_take_97 : decode cX3_take 97 = .ok (.iload_n 2, 1) := by decide +kernel
theorem dX3_take_98 : decode cX3_take 98 = .ok (.laload, 1) := by decide +kernel
theorem dX3_take_99 : decode cX3_take 99 = .ok (.ladd, 1) := by decide +kernel
theorem dX3_take_100 : decode cX3_take 100 = .ok (.putfield 33, 3) := by decide +kernel
theorem dX3_take_103 : decode cX3_take 103 = .ok (.return_, 1) := by decide +kernel
set_option maxRecDepth 20000 in
theorem ggX3_lead_X3_enqueue : GoodIn wsX3_lead wsX3_enqueue := goodIn_r _ [12, 13, 14, 15, 16, 17, 18, 19, 20, 21, 22] (by decide +kernel) (by decide +kernel)
set_option maxRecDepth 20000 in
theorem gX3_lead_X3_enqueue : GoodIn wsX3_lead (wsV RX3 63 RX3 yX3_enqueue wsX3_enqueue) := goodIn_app (goodIn_of _ (by decide +kernel)) ggX3_lead_X3_enqueue
theorem dX3_lead_0 : decode cX3_lead 0 = .ok (.iload_n 1, 1) := by decide +kernel
theorem dX3_lead_1 : decode cX3_lead 1 = .ok (.ifCond .lt 10, 3) := by decide +kernel
theorem dX3_lead_4 : decode cX3_lead 4 = .ok (.iload_n 1, 1) := by decide +kernel
theorem dX3_lead_5 : decode cX3_lead 5 = .ok (.sipush 1000, 3) := by decide +kernel
theorem dX3_lead_8 : decode cX3_lead 8 = .ok (.if_icmp .lt 4, 3) := by decide +kernel
theorem dX3_lead_11 : decode cX3_lead 11 = .ok (.return_, 1) := by decide +kernel
theorem dX3_lead_12 : decode cX3_lead 12 = .ok (.aload_n 0, 1) := by decide +kernel
theorem dX3_lead_13 : decode cX3_lead 13 = .ok (.getfield 15, 3) := by decide +kernel
theorem dX3_lead_16 : decode cX3_lead 16 = .ok (.iload_n 1, 1) := by decide +kernel
theorem dX3_lead_17 : decode cX3_lead 17 = .ok (.aload_n 0, 1) := by decide +kernel
theorem dX3_lead_18 : decode cX3_lead 18 = .ok (.getfield 15, 3) := by decide +kernel
theorem dX3_lead_21 : decode cX3_lead 21 = .ok (.iload_n 1, 1) := by decide +kernel
theorem dX3_lead_22 : decode cX3_lead 22 = .ok (.iaload, 1) := by decide +kernel
theorem dX3_lead_23 : decode cX3_lead 23 = .ok (.iload_n 2, 1) := by decide +kernel
theorem dX3_lead_24 : decode cX3_lead 24 = .ok (.invokestatic 71, 3) := by decide +kernel
theorem dX3_lead_27 : decode cX3_lead 27 = .ok (.iastore, 1) := by decide +kernel
theorem dX3_lead_28 : decode cX3_lead 28 = .ok (.aload_n 0, 1) := by decide +kernel
theorem dX3_lead_29 : decode cX3_lead 29 = .ok (.getfield 18, 3) := by decide +kernel
theorem dX3_lead_32 : decode cX3_lead 32 = .ok (.iload_n 1, 1) := by decide +kernel
theorem dX3_lead_33 : decode cX3_lead 33 = .ok (.dup2, 1) := by decide +kernel
theorem dX3_lead_34 : decode cX3_lead 34 = .ok (.laload, 1) := by decide +kernel
theorem dX3_lead_35 : decode cX3_lead 35 = .ok (.lload_n 3, 1) := by decide +kernel
theorem dX3_lead_36 : decode cX3_lead 36 = .ok (.ladd, 1) := by decide +kernel
theorem dX3_lead_37 : decode cX3_lead 37 = .ok (.lastore, 1) := by decide +kernel
theorem dX3_lead_38 : decode cX3_lead 38 = .ok (.aload_n 0, 1) := by decide +kernel
theorem dX3_lead_39 : decode cX3_lead 39 = .ok (.getfield 9, 3) := by decide +kernel
theorem dX3_lead_42 : decode cX3_lead 42 = .ok (.iload_n 1, 1) := by decide +kernel
theorem dX3_lead_43 : decode cX3_lead 43 = .ok (.dup2, 1) := by decide +kernel
theorem dX3_lead_44 : decode cX3_lead 44 = .ok (.iaload, 1) := by decide +kernel
theorem dX3_lead_45 : decode cX3_lead 45 = .ok (.iconst 1, 1) := by decide +kernel
theorem dX3_lead_46 : decode cX3_lead 46 = .ok (.isub, 1) := by decide +kernel
theorem dX3_lead_47 : decode cX3_lead 47 = .ok (.iastore, 1) := by decide +kernel
theorem dX3_lead_48 : decode cX3_lead 48 = .ok (.aload_n 0, 1) := by decide +kernel
theorem dX3_lead_49 : decode cX3_lead 49 = .ok (.getfield 9, 3) := by decide +kernel
theorem dX3_lead_52 : decode cX3_lead 52 = .ok (.iload_n 1, 1) := by decide +kernel
theorem dX3_lead_53 : decode cX3_lead 53 = .ok (.iaload, 1) := by decide +kernel
theorem dX3_lead_54 : decode cX3_lead 54 = .ok (.ifCond .ne 8, 3) := by decide +kernel
theorem dX3_lead_57 : decode cX3_lead 57 = .ok (.aload_n 0, 1) := by decide +kernel
theorem dX3_lead_58 : decode cX3_lead 58 = .ok (.iload_n 1, 1) := by decide +kernel
theorem dX3_lead_59 : decode cX3_lead 59 = .ok (.invokevirtual 63, 3) := by decide +kernel
theorem dX3_lead_62 : decode cX3_lead 62 = .ok (.return_, 1) := by decide +kernel
theorem dX4_init_0 : decode cX4_init 0 = .ok (.aload_n 0, 1) := by decide +kernel
theorem dX4_init_1 : decode cX4_init 1 = .ok (.invokespecial 3, 3) := by decide +kernel
theorem dX4_init_4 : decode cX4_init 4 = .ok (.aload_n 0, 1) := by decide +kernel
theorem dX4_init_5 : decode cX4_init 5 = .ok (.iconst 4, 1) := by decide +kernel
theorem dX4_init_6 : decode cX4_init 6 = .ok (.newarray .int, 2) := by decide +kernel
theorem dX4_init_8 : decode cX4_init 8 = .ok (.putfield 9, 3) := by decide +kernel
theorem dX4_init_11 : decode cX4_init 11 = .ok (.aload_n 0, 1) := by decide +kernel
theorem dX4_init_12 : decode cX4_init 12 = .ok (.iload_n 1, 1) := by decide +kernel
theorem dX4_init_13 : decode cX4_init 13 = .ok (.putfield 15, 3) := by decide +kernel
theorem dX4_init_16 : decode cX4_init 16 = .ok (.return_, 1) := by decide +kernel
theorem dX4_isFull_0 : decode cX4_isFull 0 = .ok (.aload_n 0, 1) := by decide +kernel
theorem dX4_isFull_1 : decode cX4_isFull 1 = .ok (.getfield 19, 3) := by decide +kernel
theorem dX4_isFull_4 : decode cX4_isFull 4 = .ok (.aload_n 0, 1) := by decide +kernel
theorem dX4_isFull_5 : decode cX4_isFull 5 = .ok (.getfield 9, 3) := by decide +kernel
theorem dX4_isFull_8 : decode cX4_isFull 8 = .ok (.arraylength, 1) := by decide +kernel
theorem dX4_isFull_9 : decode cX4_isFull 9 = .ok (.if_icmp .lt 7, 3) := by decide +kernel
theorem dX4_isFull_12 : decode cX4_isFull 12 = .ok (.iconst 1, 1) := by decide +kernel
theorem dX4_isFull_13 : decode cX4_isFull 13 = .ok (.goto 4, 3) := by decide +kernel
theorem dX4_isFull_16 : decode cX4_isFull 16 = .ok (.iconst 0, 1) := by decide +kernel
theorem dX4_isFull_17 : decode cX4_isFull 17 = .ok (.ireturn, 1) := by decide +kernel
theorem dX4_append_0 : decode cX4_append 0 = .ok (.aload_n 0, 1) := by decide +kernel
theorem dX4_append_1 : decode cX4_append 1 = .ok (.getfield 19, 3) := by decide +kernel
theorem dX4_append_4 : decode cX4_append 4 = .ok (.ifCond .lt 15, 3) := by decide +kernel
end
section
theorem dX4_append_7 : decode cX4_append 7 = .ok (.aload_n 0, 1) := by decide +kernel
theorem dX4_append_8 : decode cX4_append 8 = .ok (.getfield 19, 3) := by decide +kernel
theorem dX4_append_11 : decode cX4_append 11 = .ok (.aload_n 0, 1) := by decide +kernel
theorem dX4_append_12 : decode cX4_append 12 = .ok (.getfield 9, 3) := by decide +kernel
theorem dX4_append_15 : decode cX4_append 15 = .ok (.arraylength, 1) := by decide +kernel
theorem dX4_append_16 : decode cX4_append 16 = .ok (.if_icmp .lt 4, 3) := by decide +kernel
theorem dX4_append_19 : decode cX4_append 19 = .ok (.return_, 1) := by decide +kernel
theorem dX4_append_20 : decode cX4_append 20 = .ok (.aload_n 0, 1) := by decide +kernel
theorem dX4_append_21 : decode cX4_append 21 = .ok (.getfield 9, 3) := by decide +kernel
theorem dX4_append_24 : decode cX4_append 24 = .ok (.aload_n 0, 1) := by decide +kernel
theorem dX4_append_25 : decode cX4_append 25 = .ok (.getfield 19, 3) := by decide +kernel
theorem dX4_append_28 : decode cX4_append 28 = .ok (.iload_n 1, 1) := by decide +kernel
theorem dX4_append_29 : decode cX4_append 29 = .ok (.iastore, 1) := by decide +kernel
theorem dX4_append_30 : decode cX4_append 30 = .ok (.aload_n 0, 1) := by decide +kernel
theorem dX4_append_31 : decode cX4_append 31 = .ok (.dup, 1) := by decide +kernel
theorem dX4_append_32 : decode cX4_append 32 = .ok (.getfield 19, 3) := by decide +kernel
theorem dX4_append_35 : decode cX4_append 35 = .ok (.iconst 1, 1) := by decide +kernel
theorem dX4_append_36 : decode cX4_append 36 = .ok (.iadd, 1) := by decide +kernel
theorem dX4_append_37 : decode cX4_append 37 = .ok (.putfield 19, 3) := by decide +kernel
theorem dX4_append_40 : decode cX4_append 40 = .ok (.iconst 1, 1) := by decide +kernel
theorem dX4_append_41 : decode cX4_append 41 = .ok (.iload_n 1, 1) := by decide +kernel
theorem dX4_append_42 : decode cX4_append 42 = .ok (.iconst 1, 1) := by decide +kernel
theorem dX4_append_43 : decode cX4_append 43 = .ok (.ishr, 1) := by decide +kernel
theorem dX4_append_44 : decode cX4_append 44 = .ok (.ishl, 1) := by decide +kernel
theorem dX4_append_45 : decode cX4_append 45 = .ok (.istore_n 2, 1) := by decide +kernel
theorem dX4_append_46 : decode cX4_append 46 = .ok (.iload_n 1, 1) := by decide +kernel
theorem dX4_append_47 : decode cX4_append 47 = .ok (.iconst 1, 1) := by decide +kernel
theorem dX4_append_48 : decode cX4_append 48 = .ok (.iand, 1) := by decide +kernel
theorem dX4_append_49 : decode cX4_append 49 = .ok (.iconst 1, 1) := by decide +kernel
theorem dX4_append_50 : decode cX4_append 50 = .ok (.if_icmp .ne 16, 3) := by decide +kernel
theorem dX4_append_53 : decode cX4_append 53 = .ok (.aload_n 0, 1) := by decide +kernel
theorem dX4_append_54 : decode cX4_append 54 = .ok (.dup, 1) := by decide +kernel
theorem dX4_append_55 : decode cX4_append 55 = .ok (.getfield 22, 3) := by decide +kernel
theorem dX4_append_58 : decode cX4_append 58 = .ok (.iload_n 2, 1) := by decide +kernel
theorem dX4_append_59 : decode cX4_append 59 = .ok (.ior, 1) := by decide +kernel
theorem dX4_append_60 : decode cX4_append 60 = .ok (.putfield 22, 3) := by decide +kernel
theorem dX4_append_63 : decode cX4_append 63 = .ok (.goto 13, 3) := by decide +kernel
theorem dX4_append_66 : decode cX4_append 66 = .ok (.aload_n 0, 1) := by decide +kernel
theorem dX4_append_67 : decode cX4_append 67 = .ok (.dup, 1) := by decide +kernel
theorem dX4_append_68 : decode cX4_append 68 = .ok (.getfield 25, 3) := by decide +kernel
theorem dX4_append_71 : decode cX4_append 71 = .ok (.iload_n 2, 1) := by decide +kernel
theorem dX4_append_72 : decode cX4_append 72 = .ok (.ior, 1) := by decide +kernel
theorem dX4_append_73 : decode cX4_append 73 = .ok (.putfield 25, 3) := by decide +kernel
theorem dX4_append_76 : decode cX4_append 76 = .ok (.return_, 1) := by decide +kernel
theorem dX4_actionAt_0 : decode cX4_actionAt 0 = .ok (.iload_n 1, 1) := by decide +kernel
theorem dX4_actionAt_1 : decode cX4_actionAt 1 = .ok (.ifCond .lt 21, 3) := by decide +kernel
theorem dX4_actionAt_4 : decode cX4_actionAt 4 = .ok (.iload_n 1, 1) := by decide +kernel
theorem dX4_actionAt_5 : decode cX4_actionAt 5 = .ok (.aload_n 0, 1) := by decide +kernel
theorem dX4_actionAt_6 : decode cX4_actionAt 6 = .ok (.getfield 9, 3) := by decide +kernel
theorem dX4_actionAt_9 : decode cX4_actionAt 9 = .ok (.arraylength, 1) := by decide +kernel
theorem dX4_actionAt_10 : decode cX4_actionAt 10 = .ok (.if_icmp .ge 12, 3) := by decide +kernel
theorem dX4_actionAt_13 : decode cX4_actionAt 13 = .ok (.aload_n 0, 1) := by decide +kernel
theorem dX4_actionAt_14 : decode cX4_actionAt 14 = .ok (.getfield 9, 3) := by decide +kernel
theorem dX4_actionAt_17 : decode cX4_actionAt 17 = .ok (.iload_n 1, 1) := by decide +kernel
theorem dX4_actionAt_18 : decode cX4_actionAt 18 = .ok (.iaload, 1) := by decide +kernel
theorem dX4_actionAt_19 : decode cX4_actionAt 19 = .ok (.goto 4, 3) := by decide +kernel
theorem dX4_actionAt_22 : decode cX4_actionAt 22 = .ok (.iconst 0, 1) := by decide +kernel
theorem dX4_actionAt_23 : decode cX4_actionAt 23 = .ok (.ireturn, 1) := by decide +kernel
theorem dX4_isOver_0 : decode cX4_isOver 0 = .ok (.aload_n 0, 1) := by decide +kernel
theorem dX4_isOver_1 : decode cX4_isOver 1 = .ok (.getfield 28, 3) := by decide +kernel
theorem dX4_isOver_4 : decode cX4_isOver 4 = .ok (.aload_n 1, 1) := by decide +kernel
theorem dX4_isOver_5 : decode cX4_isOver 5 = .ok (.getfield 15, 3) := by decide +kernel
theorem dX4_isOver_8 : decode cX4_isOver 8 = .ok (.iand, 1) := by decide +kernel
theorem dX4_isOver_9 : decode cX4_isOver 9 = .ok (.ifCond .eq 7, 3) := by decide +kernel
theorem dX4_isOver_12 : decode cX4_isOver 12 = .ok (.iconst 1, 1) := by decide +kernel
theorem dX4_isOver_13 : decode cX4_isOver 13 = .ok (.goto 4, 3) := by decide +kernel
theorem dX4_isOver_16 : decode cX4_isOver 16 = .ok (.iconst 0, 1) := by decide +kernel
theorem dX4_isOver_17 : decode cX4_isOver 17 = .ok (.ireturn, 1) := by decide +kernel
set_option maxRecDepth 20000 in
theorem ggX4_isReadyIn_X6_triggeredIn : GoodIn wsX4_isReadyIn wsX6_triggeredIn := goodIn_r _ [5] (by decide +kernel) (by decide +kernel)
set_option maxRecDepth 20000 in
theorem gX4_isReadyIn_X6_triggeredIn_n31 : GoodIn wsX4_isReadyIn (wsX6_triggeredIn) := ggX4_isReadyIn_X6_triggeredIn
theorem dX4_isReadyIn_0 : decode cX4_isReadyIn 0 = .ok (.iload_n 1, 1) := by decide +kernel
theorem dX4_isReadyIn_1 : decode cX4_isReadyIn 1 = .ok (.invokestatic 31, 3) := by decide +kernel
theorem dX4_isReadyIn_4 : decode cX4_isReadyIn 4 = .ok (.istore_n 2, 1) := by decide +kernel
theorem dX4_isReadyIn_5 : decode cX4_isReadyIn 5 = .ok (.iload_n 2, 1) := by decide +kernel
theorem dX4_isReadyIn_6 : decode cX4_isReadyIn 6 = .ok (.aload_n 0, 1) := by decide +kernel
theorem dX4_isReadyIn_7 : decode cX4_isReadyIn 7 = .ok (.getfield 15, 3) := by decide +kernel
theorem dX4_isReadyIn_10 : decode cX4_isReadyIn 10 = .ok (.iand, 1) := by decide +kernel
theorem dX4_isReadyIn_11 : decode cX4_isReadyIn 11 = .ok (.ifCond .eq 16, 3) := by decide +kernel
theorem dX4_isReadyIn_14 : decode cX4_isReadyIn 14 = .ok (.iload_n 2, 1) := by decide +kernel
theorem dX4_isReadyIn_15 : decode cX4_isReadyIn 15 = .ok (.aload_n 0, 1) := by decide +kernel
theorem dX4_isReadyIn_16 : decode cX4_isReadyIn 16 = .ok (.getfield 35, 3) := by decide +kernel
theorem dX4_isReadyIn_19 : decode cX4_isReadyIn 19 = .ok (.iand, 1) := by decide +kernel
theorem dX4_isReadyIn_20 : decode cX4_isReadyIn 20 = .ok (.ifCond .ne 7, 3) := by decide +kernel
theorem dX4_isReadyIn_23 : decode cX4_isReadyIn 23 = .ok (.iconst 1, 1) := by decide +kernel
theorem dX4_isReadyIn_24 : decode cX4_isReadyIn 24 = .ok (.goto 4, 3) := by decide +kernel
theorem dX4_isReadyIn_27 : decode cX4_isReadyIn 27 = .ok (.iconst 0, 1) := by decide +kernel
theorem dX4_isReadyIn_28 : decode cX4_isReadyIn 28 = .ok (.ireturn, 1) := by decide +kernel
set_option maxRecDepth 20000 in
theorem ggX4_holdsIn_X6_factsIn : GoodIn wsX4_holdsIn wsX6_factsIn := goodIn_r _ [5] (by decide +kernel) (by decide +kernel)
set_option maxRecDepth 20000 in
theorem gX4_holdsIn_X6_factsIn_n38 : GoodIn wsX4_holdsIn (wsX6_factsIn) := ggX4_holdsIn_X6_factsIn
theorem dX4_holdsIn_0 : decode cX4_holdsIn 0 = .ok (.iload_n 1, 1) := by decide +kernel
theorem dX4_holdsIn_1 : decode cX4_holdsIn 1 = .ok (.invokestatic 38, 3) := by decide +kernel
theorem dX4_holdsIn_4 : decode cX4_holdsIn 4 = .ok (.istore_n 2, 1) := by decide +kernel
theorem dX4_holdsIn_5 : decode cX4_holdsIn 5 = .ok (.iload_n 2, 1) := by decide +kernel
theorem dX4_holdsIn_6 : decode cX4_holdsIn 6 = .ok (.aload_n 0, 1) := by decide +kernel
theorem dX4_holdsIn_7 : decode cX4_holdsIn 7 = .ok (.getfield 41, 3) := by decide +kernel
theorem dX4_holdsIn_10 : decode cX4_holdsIn 10 = .ok (.iand, 1) := by decide +kernel
theorem dX4_holdsIn_11 : decode cX4_holdsIn 11 = .ok (.aload_n 0, 1) := by decide +kernel
theorem dX4_holdsIn_12 : decode cX4_holdsIn 12 = .ok (.getfield 41, 3) := by decide +kernel
theorem dX4_holdsIn_15 : decode cX4_holdsIn 15 = .ok (.if_icmp .ne 16, 3) := by decide +kernel
theorem dX4_holdsIn_18 : decode cX4_holdsIn 18 = .ok (.iload_n 2, 1) := by decide +kernel
theorem dX4_holdsIn_19 : decode cX4_holdsIn 19 = .ok (.aload_n 0, 1) := by decide +kernel
theorem dX4_holdsIn_20 : decode cX4_holdsIn 20 = .ok (.getfield 44, 3) := by decide +kernel
theorem dX4_holdsIn_23 : decode cX4_holdsIn 23 = .ok (.iand, 1) := by decide +kernel
theorem dX4_holdsIn_24 : decode cX4_holdsIn 24 = .ok (.ifCond .ne 7, 3) := by decide +kernel
theorem dX4_holdsIn_27 : decode cX4_holdsIn 27 = .ok (.iconst 1, 1) := by decide +kernel
theorem dX4_holdsIn_28 : decode cX4_holdsIn 28 = .ok (.goto 4, 3) := by decide +kernel
theorem dX4_holdsIn_31 : decode cX4_holdsIn 31 = .ok (.iconst 0, 1) := by decide +kernel
theorem dX4_holdsIn_32 : decode cX4_holdsIn 32 = .ok (.ireturn, 1) := by decide +kernel
theorem dX4_changedFacts_0 : decode cX4_changedFacts 0 = .ok (.aload_n 0, 1) := by decide +kernel
theorem dX4_changedFacts_1 : decode cX4_changedFacts 1 = .ok (.getfield 22, 3) := by decide +kernel
theorem dX4_changedFacts_4 : decode cX4_changedFacts 4 = .ok (.aload_n 0, 1) := by decide +kernel
theorem dX4_changedFacts_5 : decode cX4_changedFacts 5 = .ok (.getfield 25, 3) := by decide +kernel
theorem dX4_changedFacts_8 : decode cX4_changedFacts 8 = .ok (.ior, 1) := by decide +kernel
theorem dX4_changedFacts_9 : decode cX4_changedFacts 9 = .ok (.ireturn, 1) := by decide +kernel
theorem dX4_conditionFacts_0 : decode cX4_conditionFacts 0 = .ok (.aload_n 0, 1) := by decide +kernel
theorem dX4_conditionFacts_1 : decode cX4_conditionFacts 1 = .ok (.getfield 41, 3) := by decide +kernel
theorem dX4_conditionFacts_4 : decode cX4_conditionFacts 4 = .ok (.aload_n 0, 1) := by decide +kernel
theorem dX4_conditionFacts_5 : decode cX4_conditionFacts 5 = .ok (.getfield 44, 3) := by decide +kernel
theorem dX4_conditionFacts_8 : decode cX4_conditionFacts 8 = .ok (.ior, 1) := by decide +kernel
theorem dX4_conditionFacts_9 : decode cX4_conditionFacts 9 = .ok (.ireturn, 1) := by decide +kernel
set_option maxRecDepth 20000 in
theorem ggX4_addedTo_X4_actionAt : GoodIn wsX4_addedTo wsX4_actionAt := goodIn_r _ [12, 13, 14, 15, 16, 17, 18, 19, 20, 21, 22, 23, 24] (by decide +kernel) (by decide +kernel)
set_option maxRecDepth 20000 in
theorem gX4_addedTo_X4_actionAt : GoodIn wsX4_addedTo (wsV RX4 52 RX4 yX4_actionAt wsX4_actionAt) := goodIn_app (goodIn_of _ (by decide +kernel)) ggX4_addedTo_X4_actionAt
theorem dX4_addedTo_0 : decode cX4_addedTo 0 = .ok (.lload_n 1, 1) := by decide +kernel
theorem dX4_addedTo_1 : decode cX4_addedTo 1 = .ok (.ldc2_w 47, 3) := by decide +kernel
theorem dX4_addedTo_4 : decode cX4_addedTo 4 = .ok (.lmul, 1) := by decide +kernel
theorem dX4_addedTo_5 : decode cX4_addedTo 5 = .ok (.aload_n 0, 1) := by decide +kernel
theorem dX4_addedTo_6 : decode cX4_addedTo 6 = .ok (.getfield 49, 3) := by decide +kernel
theorem dX4_addedTo_9 : decode cX4_addedTo 9 = .ok (.i2l, 1) := by decide +kernel
theorem dX4_addedTo_10 : decode cX4_addedTo 10 = .ok (.ladd, 1) := by decide +kernel
theorem dX4_addedTo_11 : decode cX4_addedTo 11 = .ok (.lstore_n 3, 1) := by decide +kernel
theorem dX4_addedTo_12 : decode cX4_addedTo 12 = .ok (.lload_n 3, 1) := by decide +kernel
theorem dX4_addedTo_13 : decode cX4_addedTo 13 = .ok (.ldc2_w 47, 3) := by decide +kernel
theorem dX4_addedTo_16 : decode cX4_addedTo 16 = .ok (.lmul, 1) := by decide +kernel
theorem dX4_addedTo_17 : decode cX4_addedTo 17 = .ok (.aload_n 0, 1) := by decide +kernel
theorem dX4_addedTo_18 : decode cX4_addedTo 18 = .ok (.getfield 41, 3) := by decide +kernel
theorem dX4_addedTo_21 : decode cX4_addedTo 21 = .ok (.i2l, 1) := by decide +kernel
theorem dX4_addedTo_22 : decode cX4_addedTo 22 = .ok (.ladd, 1) := by decide +kernel
theorem dX4_addedTo_23 : decode cX4_addedTo 23 = .ok (.lstore_n 3, 1) := by decide +kernel
theorem dX4_addedTo_24 : decode cX4_addedTo 24 = .ok (.lload_n 3, 1) := by decide +kernel
theorem dX4_addedTo_25 : decode cX4_addedTo 25 = .ok (.ldc2_w 47, 3) := by decide +kernel
theorem dX4_addedTo_28 : decode cX4_addedTo 28 = .ok (.lmul, 1) := by decide +kernel
theorem dX4_addedTo_29 : decode cX4_addedTo 29 = .ok (.aload_n 0, 1) := by decide +kernel
theorem dX4_addedTo_30 : decode cX4_addedTo 30 = .ok (.getfield 44, 3) := by decide +kernel
theorem dX4_addedTo_33 : decode cX4_addedTo 33 = .ok (.i2l, 1) := by decide +kernel
theorem dX4_addedTo_34 : decode cX4_addedTo 34 = .ok (.ladd, 1) := by decide +kernel
theorem dX4_addedTo_35 : decode cX4_addedTo 35 = .ok (.lstore_n 3, 1) := by decide +kernel
theorem dX4_addedTo_36 : decode cX4_addedTo 36 = .ok (.lload_n 3, 1) := by decide +kernel
theorem dX4_addedTo_37 : decode cX4_addedTo 37 = .ok (.ldc2_w 47, 3) := by decide +kernel
theorem dX4_addedTo_40 : decode cX4_addedTo 40 = .ok (.lmul, 1) := by decide +kernel
theorem dX4_addedTo_41 : decode cX4_addedTo 41 = .ok (.aload_n 0, 1) := by decide +kernel
theorem dX4_addedTo_42 : decode cX4_addedTo 42 = .ok (.getfield 19, 3) := by decide +kernel
theorem dX4_addedTo_45 : decode cX4_addedTo 45 = .ok (.i2l, 1) := by decide +kernel
theorem dX4_addedTo_46 : decode cX4_addedTo 46 = .ok (.ladd, 1) := by decide +kernel
theorem dX4_addedTo_47 : decode cX4_addedTo 47 = .ok (.lstore_n 3, 1) := by decide +kernel
theorem dX4_addedTo_48 : decode cX4_addedTo 48 = .ok (.iconst 0, 1) := by decide +kernel
theorem dX4_addedTo_49 : decode cX4_addedTo 49 = .ok (.istore 5, 2) := by decide +kernel
theorem dX4_addedTo_51 : decode cX4_addedTo 51 = .ok (.iload 5, 2) := by decide +kernel
theorem dX4_addedTo_53 : decode cX4_addedTo 53 = .ok (.aload_n 0, 1) := by decide +kernel
theorem dX4_addedTo_54 : decode cX4_addedTo 54 = .ok (.getfield 19, 3) := by decide +kernel
theorem dX4_addedTo_57 : decode cX4_addedTo 57 = .ok (.if_icmp .ge 23, 3) := by decide +kernel
theorem dX4_addedTo_60 : decode cX4_addedTo 60 = .ok (.lload_n 3, 1) := by decide +kernel
theorem dX4_addedTo_61 : decode cX4_addedTo 61 = .ok (.ldc2_w 47, 3) := by decide +kernel
theorem dX4_addedTo_64 : decode cX4_addedTo 64 = .ok (.lmul, 1) := by decide +kernel
theorem dX4_addedTo_65 : decode cX4_addedTo 65 = .ok (.aload_n 0, 1) := by decide +kernel
theorem dX4_addedTo_66 : decode cX4_addedTo 66 = .ok (.iload 5, 2) := by decide +kernel
theorem dX4_addedTo_68 : decode cX4_addedTo 68 = .ok (.invokevirtual 52, 3) := by decide +kernel
theorem dX4_addedTo_71 : decode cX4_addedTo 71 = .ok (.i2l, 1) := by decide +kernel
theorem dX4_addedTo_72 : decode cX4_addedTo 72 = .ok (.ladd, 1) := by decide +kernel
theorem dX4_addedTo_73 : decode cX4_addedTo 73 = .ok (.lstore_n 3, 1) := by decide +kernel
theorem dX4_addedTo_74 : decode cX4_addedTo 74 = .ok (.iinc 5 1, 3) := by decide +kernel
theorem dX4_addedTo_77 : decode cX4_addedTo 77 = .ok (.goto (-26), 3) := by decide +kernel
theorem dX4_addedTo_80 : decode cX4_addedTo 80 = .ok (.lload_n 3, 1) := by decide +kernel
theorem dX4_addedTo_81 : decode cX4_addedTo 81 = .ok (.ldc2_w 47, 3) := by decide +kernel
theorem dX4_addedTo_84 : decode cX4_addedTo 84 = .ok (.lmul, 1) := by decide +kernel
theorem dX4_addedTo_85 : decode cX4_addedTo 85 = .ok (.aload_n 0, 1) := by decide +kernel
theorem dX4_addedTo_86 : decode cX4_addedTo 86 = .ok (.getfield 55, 3) := by decide +kernel
theorem dX4_addedTo_89 : decode cX4_addedTo 89 = .ok (.ifCond .eq 7, 3) := by decide +kernel
theorem dX4_addedTo_92 : decode cX4_addedTo 92 = .ok (.iconst 1, 1) := by decide +kernel
theorem dX4_addedTo_93 : decode cX4_addedTo 93 = .ok (.goto 4, 3) := by decide +kernel
theorem dX4_addedTo_96 : decode cX4_addedTo 96 = .ok (.iconst 0, 1) := by decide +kernel
theorem dX4_addedTo_97 : decode cX4_addedTo 97 = .ok (.i2l, 1) := by decide +kernel
theorem dX4_addedTo_98 : decode cX4_addedTo 98 = .ok (.ladd, 1) := by decide +kernel
theorem dX4_addedTo_99 : decode cX4_addedTo 99 = .ok (.lstore_n 3, 1) := by decide +kernel
theorem dX4_addedTo_100 : decode cX4_addedTo 100 = .ok (.lload_n 3, 1) := by decide +kernel
theorem dX4_addedTo_101 : decode cX4_addedTo 101 = .ok (.ldc2_w 47, 3) := by decide +kernel
theorem dX4_addedTo_104 : decode cX4_addedTo 104 = .ok (.lmul, 1) := by decide +kernel
theorem dX4_addedTo_105 : decode cX4_addedTo 105 = .ok (.aload_n 0, 1) := by decide +kernel
theorem dX4_addedTo_106 : decode cX4_addedTo 106 = .ok (.getfield 28, 3) := by decide +kernel
theorem dX4_addedTo_109 : decode cX4_addedTo 109 = .ok (.i2l, 1) := by decide +kernel
theorem dX4_addedTo_110 : decode cX4_addedTo 110 = .ok (.ladd, 1) := by decide +kernel
theorem dX4_addedTo_111 : decode cX4_addedTo 111 = .ok (.lreturn, 1) := by decide +kernel
set_option maxRecDepth 20000 in
theorem ggX5_init_X4_init : GoodIn wsX5_init wsX4_init := goodIn_r _ [12, 13, 2, 3, 6, 14, 15, 19, 20, 21, 22, 23, 24, 25, 26, 27, 28, 29] (by decide +kernel) (by decide +kernel)
set_option maxRecDepth 20000 in
theorem gX5_init_X4_init : GoodIn wsX5_init (wsX4_init) := ggX5_init_X4_init
theorem dX5_init_0 : decode cX5_init 0 = .ok (.aload_n 0, 1) := by decide +kernel
theorem dX5_init_1 : decode cX5_init 1 = .ok (.invokespecial 3, 3) := by decide +kernel
theorem dX5_init_4 : decode cX5_init 4 = .ok (.aload_n 0, 1) := by decide +kernel
theorem dX5_init_5 : decode cX5_init 5 = .ok (.bipush 8, 2) := by decide +kernel
theorem dX5_init_7 : decode cX5_init 7 = .ok (.anewarray 9, 3) := by decide +kernel
theorem dX5_init_10 : decode cX5_init 10 = .ok (.putfield 11, 3) := by decide +kernel
theorem dX5_init_13 : decode cX5_init 13 = .ok (.aload_n 0, 1) := by decide +kernel
theorem dX5_init_14 : decode cX5_init 14 = .ok (.bipush 12, 2) := by decide +kernel
theorem dX5_init_16 : decode cX5_init 16 = .ok (.newarray .int, 2) := by decide +kernel
theorem dX5_init_18 : decode cX5_init 18 = .ok (.putfield 17, 3) := by decide +kernel
theorem dX5_init_21 : decode cX5_init 21 = .ok (.iconst 0, 1) := by decide +kernel
theorem dX5_init_22 : decode cX5_init 22 = .ok (.istore_n 1, 1) := by decide +kernel
theorem dX5_init_23 : decode cX5_init 23 = .ok (.iload_n 1, 1) := by decide +kernel
theorem dX5_init_24 : decode cX5_init 24 = .ok (.aload_n 0, 1) := by decide +kernel
theorem dX5_init_25 : decode cX5_init 25 = .ok (.getfield 11, 3) := by decide +kernel
theorem dX5_init_28 : decode cX5_init 28 = .ok (.arraylength, 1) := by decide +kernel
theorem dX5_init_29 : decode cX5_init 29 = .ok (.if_icmp .ge 25, 3) := by decide +kernel
theorem dX5_init_32 : decode cX5_init 32 = .ok (.aload_n 0, 1) := by decide +kernel
theorem dX5_init_33 : decode cX5_init 33 = .ok (.getfield 11, 3) := by decide +kernel
theorem dX5_init_36 : decode cX5_init 36 = .ok (.iload_n 1, 1) := by decide +kernel
theorem dX5_init_37 : decode cX5_init 37 = .ok (.new 9, 3) := by decide +kernel
theorem dX5_init_40 : decode cX5_init 40 = .ok (.dup, 1) := by decide +kernel
theorem dX5_init_41 : decode cX5_init 41 = .ok (.iconst 1, 1) := by decide +kernel
theorem dX5_init_42 : decode cX5_init 42 = .ok (.iload_n 1, 1) := by decide +kernel
theorem dX5_init_43 : decode cX5_init 43 = .ok (.ishl, 1) := by decide +kernel
theorem dX5_init_44 : decode cX5_init 44 = .ok (.invokespecial 21, 3) := by decide +kernel
theorem dX5_init_47 : decode cX5_init 47 = .ok (.aastore, 1) := by decide +kernel
theorem dX5_init_48 : decode cX5_init 48 = .ok (.iinc 1 1, 3) := by decide +kernel
theorem dX5_init_51 : decode cX5_init 51 = .ok (.goto (-28), 3) := by decide +kernel
theorem dX5_init_54 : decode cX5_init 54 = .ok (.return_, 1) := by decide +kernel
theorem dX5_size_0 : decode cX5_size 0 = .ok (.aload_n 0, 1) := by decide +kernel
theorem dX5_size_1 : decode cX5_size 1 = .ok (.getfield 24, 3) := by decide +kernel
theorem dX5_size_4 : decode cX5_size 4 = .ok (.ireturn, 1) := by decide +kernel
theorem dX5_isFull_0 : decode cX5_isFull 0 = .ok (.aload_n 0, 1) := by decide +kernel
theorem dX5_isFull_1 : decode cX5_isFull 1 = .ok (.getfield 24, 3) := by decide +kernel
theorem dX5_isFull_4 : decode cX5_isFull 4 = .ok (.aload_n 0, 1) := by decide +kernel
theorem dX5_isFull_5 : decode cX5_isFull 5 = .ok (.getfield 11, 3) := by decide +kernel
theorem dX5_isFull_8 : decode cX5_isFull 8 = .ok (.arraylength, 1) := by decide +kernel
theorem dX5_isFull_9 : decode cX5_isFull 9 = .ok (.if_icmp .lt 7, 3) := by decide +kernel
theorem dX5_isFull_12 : decode cX5_isFull 12 = .ok (.iconst 1, 1) := by decide +kernel
theorem dX5_isFull_13 : decode cX5_isFull 13 = .ok (.goto 4, 3) := by decide +kernel
theorem dX5_isFull_16 : decode cX5_isFull 16 = .ok (.iconst 0, 1) := by decide +kernel
theorem dX5_isFull_17 : decode cX5_isFull 17 = .ok (.ireturn, 1) := by decide +kernel
theorem dX5_ruleOrNull_0 : decode cX5_ruleOrNull 0 = .ok (.iload_n 1, 1) := by decide +kernel
theorem dX5_ruleOrNull_1 : decode cX5_ruleOrNull 1 = .ok (.ifCond .lt 29, 3) := by decide +kernel
theorem dX5_ruleOrNull_4 : decode cX5_ruleOrNull 4 = .ok (.iload_n 1, 1) := by decide +kernel
theorem dX5_ruleOrNull_5 : decode cX5_ruleOrNull 5 = .ok (.aload_n 0, 1) := by decide +kernel
theorem dX5_ruleOrNull_6 : decode cX5_ruleOrNull 6 = .ok (.getfield 24, 3) := by decide +kernel
theorem dX5_ruleOrNull_9 : decode cX5_ruleOrNull 9 = .ok (.if_icmp .ge 21, 3) := by decide +kernel
theorem dX5_ruleOrNull_12 : decode cX5_ruleOrNull 12 = .ok (.iload_n 1, 1) := by decide +kernel
theorem dX5_ruleOrNull_13 : decode cX5_ruleOrNull 13 = .ok (.aload_n 0, 1) := by decide +kernel
theorem dX5_ruleOrNull_14 : decode cX5_ruleOrNull 14 = .ok (.getfield 11, 3) := by decide +kernel
theorem dX5_ruleOrNull_17 : decode cX5_ruleOrNull 17 = .ok (.arraylength, 1) := by decide +kernel
theorem dX5_ruleOrNull_18 : decode cX5_ruleOrNull 18 = .ok (.if_icmp .ge 12, 3) := by decide +kernel
theorem dX5_ruleOrNull_21 : decode cX5_ruleOrNull 21 = .ok (.aload_n 0, 1) := by decide +kernel
theorem dX5_ruleOrNull_22 : decode cX5_ruleOrNull 22 = .ok (.getfield 11, 3) := by decide +kernel
theorem dX5_ruleOrNull_25 : decode cX5_ruleOrNull 25 = .ok (.iload_n 1, 1) := by decide +kernel
theorem dX5_ruleOrNull_26 : decode cX5_ruleOrNull 26 = .ok (.aaload, 1) := by decide +kernel
theorem dX5_ruleOrNull_27 : decode cX5_ruleOrNull 27 = .ok (.goto 4, 3) := by decide +kernel
theorem dX5_ruleOrNull_30 : decode cX5_ruleOrNull 30 = .ok (.aconst_null, 1) := by decide +kernel
theorem dX5_ruleOrNull_31 : decode cX5_ruleOrNull 31 = .ok (.areturn, 1) := by decide +kernel
set_option maxRecDepth 20000 in
theorem ggX5_append_X5_switchRule : GoodIn wsX5_append wsX5_switchRule := goodIn_r _ [10, 11, 3, 12, 13, 17, 18, 19, 20, 21, 22, 23, 24, 25, 26, 27, 14, 15, 16] (by decide +kernel) (by decide +kernel)
set_option maxRecDepth 20000 in
theorem gX5_append_X5_switchRule : GoodIn wsX5_append (wsV RX5 37 RX5 yX5_switchRule wsX5_switchRule) := goodIn_app (goodIn_of _ (by decide +kernel)) ggX5_append_X5_switchRule
theorem dX5_append_0 : decode cX5_append 0 = .ok (.aload_n 0, 1) := by decide +kernel
theorem dX5_append_1 : decode cX5_append 1 = .ok (.getfield 24, 3) := by decide +kernel
theorem dX5_append_4 : decode cX5_append 4 = .ok (.istore 4, 2) := by decide +kernel
theorem dX5_append_6 : decode cX5_append 6 = .ok (.iload 4, 2) := by decide +kernel
theorem dX5_append_8 : decode cX5_append 8 = .ok (.ifCond .lt 13, 3) := by decide +kernel
theorem dX5_append_11 : decode cX5_append 11 = .ok (.iload 4, 2) := by decide +kernel
theorem dX5_append_13 : decode cX5_append 13 = .ok (.aload_n 0, 1) := by decide +kernel
theorem dX5_append_14 : decode cX5_append 14 = .ok (.getfield 11, 3) := by decide +kernel
theorem dX5_append_17 : decode cX5_append 17 = .ok (.arraylength, 1) := by decide +kernel
theorem dX5_append_18 : decode cX5_append 18 = .ok (.if_icmp .lt 5, 3) := by decide +kernel
theorem dX5_append_21 : decode cX5_append 21 = .ok (.iconst (-1), 1) := by decide +kernel
theorem dX5_append_22 : decode cX5_append 22 = .ok (.ireturn, 1) := by decide +kernel
theorem dX5_append_23 : decode cX5_append 23 = .ok (.aload_n 0, 1) := by decide +kernel
theorem dX5_append_24 : decode cX5_append 24 = .ok (.dup, 1) := by decide +kernel
theorem dX5_append_25 : decode cX5_append 25 = .ok (.getfield 24, 3) := by decide +kernel
theorem dX5_append_28 : decode cX5_append 28 = .ok (.iconst 1, 1) := by decide +kernel
theorem dX5_append_29 : decode cX5_append 29 = .ok (.iadd, 1) := by decide +kernel
theorem dX5_append_30 : decode cX5_append 30 = .ok (.putfield 24, 3) := by decide +kernel
theorem dX5_append_33 : decode cX5_append 33 = .ok (.aload_n 0, 1) := by decide +kernel
theorem dX5_append_34 : decode cX5_append 34 = .ok (.getfield 11, 3) := by decide +kernel
theorem dX5_append_37 : decode cX5_append 37 = .ok (.iload 4, 2) := by decide +kernel
theorem dX5_append_39 : decode cX5_append 39 = .ok (.aaload, 1) := by decide +kernel
theorem dX5_append_40 : decode cX5_append 40 = .ok (.astore 5, 2) := by decide +kernel
theorem dX5_append_42 : decode cX5_append 42 = .ok (.aload 5, 2) := by decide +kernel
theorem dX5_append_44 : decode cX5_append 44 = .ok (.iload_n 1, 1) := by decide +kernel
theorem dX5_append_45 : decode cX5_append 45 = .ok (.putfield 28, 3) := by decide +kernel
theorem dX5_append_48 : decode cX5_append 48 = .ok (.aload 5, 2) := by decide +kernel
theorem dX5_append_50 : decode cX5_append 50 = .ok (.iload_n 2, 1) := by decide +kernel
theorem dX5_append_51 : decode cX5_append 51 = .ok (.putfield 31, 3) := by decide +kernel
theorem dX5_append_54 : decode cX5_append 54 = .ok (.aload 5, 2) := by decide +kernel
theorem dX5_append_56 : decode cX5_append 56 = .ok (.iload_n 3, 1) := by decide +kernel
theorem dX5_append_57 : decode cX5_append 57 = .ok (.putfield 34, 3) := by decide +kernel
theorem dX5_append_60 : decode cX5_append 60 = .ok (.aload_n 0, 1) := by decide +kernel
theorem dX5_append_61 : decode cX5_append 61 = .ok (.aload 5, 2) := by decide +kernel
theorem dX5_append_63 : decode cX5_append 63 = .ok (.iconst 1, 1) := by decide +kernel
theorem dX5_append_64 : decode cX5_append 64 = .ok (.invokevirtual 37, 3) := by decide +kernel
theorem dX5_append_67 : decode cX5_append 67 = .ok (.iload 4, 2) := by decide +kernel
theorem dX5_append_69 : decode cX5_append 69 = .ok (.ireturn, 1) := by decide +kernel
theorem dX5_switchRule_0 : decode cX5_switchRule 0 = .ok (.aload_n 1, 1) := by decide +kernel
theorem dX5_switchRule_1 : decode cX5_switchRule 1 = .ok (.iload_n 2, 1) := by decide +kernel
theorem dX5_switchRule_2 : decode cX5_switchRule 2 = .ok (.putfield 41, 3) := by decide +kernel
theorem dX5_switchRule_5 : decode cX5_switchRule 5 = .ok (.aload_n 1, 1) := by decide +kernel
theorem dX5_switchRule_6 : decode cX5_switchRule 6 = .ok (.getfield 28, 3) := by decide +kernel
theorem dX5_switchRule_9 : decode cX5_switchRule 9 = .ok (.istore_n 3, 1) := by decide +kernel
theorem dX5_switchRule_10 : decode cX5_switchRule 10 = .ok (.iload_n 3, 1) := by decide +kernel
theorem dX5_switchRule_11 : decode cX5_switchRule 11 = .ok (.ifCond .lt 12, 3) := by decide +kernel
theorem dX5_switchRule_14 : decode cX5_switchRule 14 = .ok (.iload_n 3, 1) := by decide +kernel
theorem dX5_switchRule_15 : decode cX5_switchRule 15 = .ok (.aload_n 0, 1) := by decide +kernel
theorem dX5_switchRule_16 : decode cX5_switchRule 16 = .ok (.getfield 17, 3) := by decide +kernel
theorem dX5_switchRule_19 : decode cX5_switchRule 19 = .ok (.arraylength, 1) := by decide +kernel
theorem dX5_switchRule_20 : decode cX5_switchRule 20 = .ok (.if_icmp .lt 4, 3) := by decide +kernel
theorem dX5_switchRule_23 : decode cX5_switchRule 23 = .ok (.return_, 1) := by decide +kernel
theorem dX5_switchRule_24 : decode cX5_switchRule 24 = .ok (.iload_n 2, 1) := by decide +kernel
theorem dX5_switchRule_25 : decode cX5_switchRule 25 = .ok (.ifCond .eq 19, 3) := by decide +kernel
theorem dX5_switchRule_28 : decode cX5_switchRule 28 = .ok (.aload_n 0, 1) := by decide +kernel
theorem dX5_switchRule_29 : decode cX5_switchRule 29 = .ok (.getfield 17, 3) := by decide +kernel
theorem dX5_switchRule_32 : decode cX5_switchRule 32 = .ok (.iload_n 3, 1) := by decide +kernel
theorem dX5_switchRule_33 : decode cX5_switchRule 33 = .ok (.dup2, 1) := by decide +kernel
theorem dX5_switchRule_34 : decode cX5_switchRule 34 = .ok (.iaload, 1) := by decide +kernel
theorem dX5_switchRule_35 : decode cX5_switchRule 35 = .ok (.aload_n 1, 1) := by decide +kernel
theorem dX5_switchRule_36 : decode cX5_switchRule 36 = .ok (.getfield 45, 3) := by decide +kernel
theorem dX5_switchRule_39 : decode cX5_switchRule 39 = .ok (.ior, 1) := by decide +kernel
theorem dX5_switchRule_40 : decode cX5_switchRule 40 = .ok (.iastore, 1) := by decide +kernel
theorem dX5_switchRule_41 : decode cX5_switchRule 41 = .ok (.goto 18, 3) := by decide +kernel
theorem dX5_switchRule_44 : decode cX5_switchRule 44 = .ok (.aload_n 0, 1) := by decide +kernel
theorem dX5_switchRule_45 : decode cX5_switchRule 45 = .ok (.getfield 17, 3) := by decide +kernel
theorem dX5_switchRule_48 : decode cX5_switchRule 48 = .ok (.iload_n 3, 1) := by decide +kernel
theorem dX5_switchRule_49 : decode cX5_switchRule 49 = .ok (.dup2, 1) := by decide +kernel
theorem dX5_switchRule_50 : decode cX5_switchRule 50 = .ok (.iaload, 1) := by decide +kernel
theorem dX5_switchRule_51 : decode cX5_switchRule 51 = .ok (.aload_n 1, 1) := by decide +kernel
theorem dX5_switchRule_52 : decode cX5_switchRule 52 = .ok (.getfield 45, 3) := by decide +kernel
theorem dX5_switchRule_55 : decode cX5_switchRule 55 = .ok (.iconst (-1), 1) := by decide +kernel
theorem dX5_switchRule_56 : decode cX5_switchRule 56 = .ok (.ixor, 1) := by decide +kernel
theorem dX5_switchRule_57 : decode cX5_switchRule 57 = .ok (.iand, 1) := by decide +kernel
theorem dX5_switchRule_58 : decode cX5_switchRule 58 = .ok (.iastore, 1) := by decide +kernel
theorem dX5_switchRule_59 : decode cX5_switchRule 59 = .ok (.return_, 1) := by decide +kernel
theorem dX5_listenersTo_0 : decode cX5_listenersTo 0 = .ok (.iload_n 1, 1) := by decide +kernel
theorem dX5_listenersTo_1 : decode cX5_listenersTo 1 = .ok (.ifCond .lt 21, 3) := by decide +kernel
theorem dX5_listenersTo_4 : decode cX5_listenersTo 4 = .ok (.iload_n 1, 1) := by decide +kernel
theorem dX5_listenersTo_5 : decode cX5_listenersTo 5 = .ok (.aload_n 0, 1) := by decide +kernel
theorem dX5_listenersTo_6 : decode cX5_listenersTo 6 = .ok (.getfield 17, 3) := by decide +kernel
theorem dX5_listenersTo_9 : decode cX5_listenersTo 9 = .ok (.arraylength, 1) := by decide +kernel
theorem dX5_listenersTo_10 : decode cX5_listenersTo 10 = .ok (.if_icmp .ge 12, 3) := by decide +kernel
theorem dX5_listenersTo_13 : decode cX5_listenersTo 13 = .ok (.aload_n 0, 1) := by decide +kernel
theorem dX5_listenersTo_14 : decode cX5_listenersTo 14 = .ok (.getfield 17, 3) := by decide +kernel
theorem dX5_listenersTo_17 : decode cX5_listenersTo 17 = .ok (.iload_n 1, 1) := by decide +kernel
theorem dX5_listenersTo_18 : decode cX5_listenersTo 18 = .ok (.iaload, 1) := by decide +kernel
theorem dX5_listenersTo_19 : decode cX5_listenersTo 19 = .ok (.goto 4, 3) := by decide +kernel
theorem dX5_listenersTo_22 : decode cX5_listenersTo 22 = .ok (.iconst 0, 1) := by decide +kernel
theorem dX5_listenersTo_23 : decode cX5_listenersTo 23 = .ok (.ireturn, 1) := by decide +kernel
theorem dX5_order_0 : decode cX5_order 0 = .ok (.aload_n 1, 1) := by decide +kernel
theorem dX5_order_1 : decode cX5_order 1 = .ok (.getfield 48, 3) := by decide +kernel
theorem dX5_order_4 : decode cX5_order 4 = .ok (.aload_n 1, 1) := by decide +kernel
theorem dX5_order_5 : decode cX5_order 5 = .ok (.getfield 45, 3) := by decide +kernel
theorem dX5_order_8 : decode cX5_order 8 = .ok (.ior, 1) := by decide +kernel
theorem dX5_order_9 : decode cX5_order 9 = .ok (.istore_n 3, 1) := by decide +kernel
theorem dX5_order_10 : decode cX5_order 10 = .ok (.aload_n 2, 1) := by decide +kernel
theorem dX5_order_11 : decode cX5_order 11 = .ok (.getfield 51, 3) := by decide +kernel
theorem dX5_order_14 : decode cX5_order 14 = .ok (.aload_n 2, 1) := by decide +kernel
theorem dX5_order_15 : decode cX5_order 15 = .ok (.getfield 45, 3) := by decide +kernel
theorem dX5_order_18 : decode cX5_order 18 = .ok (.ior, 1) := by decide +kernel
theorem dX5_order_19 : decode cX5_order 19 = .ok (.istore 4, 2) := by decide +kernel
theorem dX5_order_21 : decode cX5_order 21 = .ok (.iconst 0, 1) := by decide +kernel
theorem dX5_order_22 : decode cX5_order 22 = .ok (.istore 5, 2) := by decide +kernel
theorem dX5_order_24 : decode cX5_order 24 = .ok (.iload 5, 2) := by decide +kernel
theorem dX5_order_26 : decode cX5_order 26 = .ok (.aload_n 0, 1) := by decide +kernel
theorem dX5_order_27 : decode cX5_order 27 = .ok (.getfield 11, 3) := by decide +kernel
theorem dX5_order_30 : decode cX5_order 30 = .ok (.arraylength, 1) := by decide +kernel
theorem dX5_order_31 : decode cX5_order 31 = .ok (.if_icmp .ge 62, 3) := by decide +kernel
theorem dX5_order_34 : decode cX5_order 34 = .ok (.aload_n 0, 1) := by decide +kernel
theorem dX5_order_35 : decode cX5_order 35 = .ok (.getfield 11, 3) := by decide +kernel
theorem dX5_order_38 : decode cX5_order 38 = .ok (.iload 5, 2) := by decide +kernel
theorem dX5_order_40 : decode cX5_order 40 = .ok (.aaload, 1) := by decide +kernel
theorem dX5_order_41 : decode cX5_order 41 = .ok (.astore 6, 2) := by decide +kernel
theorem dX5_order_43 : decode cX5_order 43 = .ok (.iload_n 3, 1) := by decide +kernel
theorem dX5_order_44 : decode cX5_order 44 = .ok (.aload 6, 2) := by decide +kernel
theorem dX5_order_46 : decode cX5_order 46 = .ok (.getfield 45, 3) := by decide +kernel
theorem dX5_order_49 : decode cX5_order 49 = .ok (.iand, 1) := by decide +kernel
theorem dX5_order_50 : decode cX5_order 50 = .ok (.ifCond .eq 15, 3) := by decide +kernel
theorem dX5_order_53 : decode cX5_order 53 = .ok (.aload 6, 2) := by decide +kernel
theorem dX5_order_55 : decode cX5_order 55 = .ok (.dup, 1) := by decide +kernel
theorem dX5_order_56 : decode cX5_order 56 = .ok (.getfield 51, 3) := by decide +kernel
theorem dX5_order_59 : decode cX5_order 59 = .ok (.iload 4, 2) := by decide +kernel
theorem dX5_order_61 : decode cX5_order 61 = .ok (.ior, 1) := by decide +kernel
theorem dX5_order_62 : decode cX5_order 62 = .ok (.putfield 51, 3) := by decide +kernel
theorem dX5_order_65 : decode cX5_order 65 = .ok (.iload 4, 2) := by decide +kernel
theorem dX5_order_67 : decode cX5_order 67 = .ok (.aload 6, 2) := by decide +kernel
theorem dX5_order_69 : decode cX5_order 69 = .ok (.getfield 45, 3) := by decide +kernel
theorem dX5_order_72 : decode cX5_order 72 = .ok (.iand, 1) := by decide +kernel
theorem dX5_order_73 : decode cX5_order 73 = .ok (.ifCond .eq 14, 3) := by decide +kernel
theorem dX5_order_76 : decode cX5_order 76 = .ok (.aload 6, 2) := by decide +kernel
theorem dX5_order_78 : decode cX5_order 78 = .ok (.dup, 1) := by decide +kernel
theorem dX5_order_79 : decode cX5_order 79 = .ok (.getfield 48, 3) := by decide +kernel
theorem dX5_order_82 : decode cX5_order 82 = .ok (.iload_n 3, 1) := by decide +kernel
theorem dX5_order_83 : decode cX5_order 83 = .ok (.ior, 1) := by decide +kernel
theorem dX5_order_84 : decode cX5_order 84 = .ok (.putfield 48, 3) := by decide +kernel
theorem dX5_order_87 : decode cX5_order 87 = .ok (.iinc 5 1, 3) := by decide +kernel
theorem dX5_order_90 : decode cX5_order 90 = .ok (.goto (-66), 3) := by decide +kernel
theorem dX5_order_93 : decode cX5_order 93 = .ok (.return_, 1) := by decide +kernel
set_option maxRecDepth 20000 in
theorem ggX5_changed_X6_triggeredIn : GoodIn wsX5_changed wsX6_triggeredIn := goodIn_r _ [3] (by decide +kernel) (by decide +kernel)
set_option maxRecDepth 20000 in
theorem gX5_changed_X6_triggeredIn_n54 : GoodIn wsX5_changed (wsX6_triggeredIn) := ggX5_changed_X6_triggeredIn
set_option maxRecDepth 20000 in
theorem ggX5_changed_X5_listenersTo : GoodIn wsX5_changed wsX5_listenersTo := goodIn_r _ [8, 9, 14, 15, 16] (by decide +kernel) (by decide +kernel)
set_option maxRecDepth 20000 in
theorem gX5_changed_X5_listenersTo : GoodIn wsX5_changed (wsV RX5 58 RX5 yX5_listenersTo wsX5_listenersTo) := goodIn_app (goodIn_of _ (by decide +kernel)) ggX5_changed_X5_listenersTo
set_option maxRecDepth 20000 in
theorem ggX5_changed_X6_factsIn : GoodIn wsX5_changed wsX6_factsIn := goodIn_r _ [11] (by decide +kernel) (by decide +kernel)
set_option maxRecDepth 20000 in
theorem gX5_changed_X6_factsIn_n61 : GoodIn wsX5_changed (wsX6_factsIn) := ggX5_changed_X6_factsIn
set_option maxRecDepth 20000 in
theorem ggX5_changed_X6_situationOf : GoodIn wsX5_changed wsX6_situationOf := goodIn_r _ [13] (by decide +kernel) (by decide +kernel)
set_option maxRecDepth 20000 in
theorem gX5_changed_X6_situationOf_n64 : GoodIn wsX5_changed (wsX6_situationOf) := ggX5_changed_X6_situationOf
theorem dX5_changed_0 : decode cX5_changed 0 = .ok (.iconst 1, 1) := by decide +kernel
theorem dX5_changed_1 : decode cX5_changed 1 = .ok (.iload_n 2, 1) := by decide +kernel
theorem dX5_changed_2 : decode cX5_changed 2 = .ok (.iconst 1, 1) := by decide +kernel
theorem dX5_changed_3 : decode cX5_changed 3 = .ok (.ishr, 1) := by decide +kernel
theorem dX5_changed_4 : decode cX5_changed 4 = .ok (.ishl, 1) := by decide +kernel
theorem dX5_changed_5 : decode cX5_changed 5 = .ok (.istore_n 3, 1) := by decide +kernel
theorem dX5_changed_6 : decode cX5_changed 6 = .ok (.iload_n 2, 1) := by decide +kernel
theorem dX5_changed_7 : decode cX5_changed 7 = .ok (.iconst 1, 1) := by decide +kernel
theorem dX5_changed_8 : decode cX5_changed 8 = .ok (.iand, 1) := by decide +kernel
theorem dX5_changed_9 : decode cX5_changed 9 = .ok (.iconst 1, 1) := by decide +kernel
theorem dX5_changed_10 : decode cX5_changed 10 = .ok (.if_icmp .ne 7, 3) := by decide +kernel
theorem dX5_changed_13 : decode cX5_changed 13 = .ok (.iconst 1, 1) := by decide +kernel
theorem dX5_changed_14 : decode cX5_changed 14 = .ok (.goto 4, 3) := by decide +kernel
theorem dX5_changed_17 : decode cX5_changed 17 = .ok (.iconst 0, 1) := by decide +kernel
theorem dX5_changed_18 : decode cX5_changed 18 = .ok (.istore 4, 2) := by decide +kernel
theorem dX5_changed_20 : decode cX5_changed 20 = .ok (.iload_n 1, 1) := by decide +kernel
theorem dX5_changed_21 : decode cX5_changed 21 = .ok (.iload_n 3, 1) := by decide +kernel
theorem dX5_changed_22 : decode cX5_changed 22 = .ok (.iand, 1) := by decide +kernel
theorem dX5_changed_23 : decode cX5_changed 23 = .ok (.ifCond .eq 7, 3) := by decide +kernel
theorem dX5_changed_26 : decode cX5_changed 26 = .ok (.iconst 1, 1) := by decide +kernel
theorem dX5_changed_27 : decode cX5_changed 27 = .ok (.goto 4, 3) := by decide +kernel
theorem dX5_changed_30 : decode cX5_changed 30 = .ok (.iconst 0, 1) := by decide +kernel
theorem dX5_changed_31 : decode cX5_changed 31 = .ok (.istore 5, 2) := by decide +kernel
theorem dX5_changed_33 : decode cX5_changed 33 = .ok (.iload 4, 2) := by decide +kernel
theorem dX5_changed_35 : decode cX5_changed 35 = .ok (.iload 5, 2) := by decide +kernel
theorem dX5_changed_37 : decode cX5_changed 37 = .ok (.if_icmp .ne 5, 3) := by decide +kernel
theorem dX5_changed_40 : decode cX5_changed 40 = .ok (.iload_n 1, 1) := by decide +kernel
theorem dX5_changed_41 : decode cX5_changed 41 = .ok (.ireturn, 1) := by decide +kernel
theorem dX5_changed_42 : decode cX5_changed 42 = .ok (.iload_n 1, 1) := by decide +kernel
theorem dX5_changed_43 : decode cX5_changed 43 = .ok (.invokestatic 54, 3) := by decide +kernel
theorem dX5_changed_46 : decode cX5_changed 46 = .ok (.aload_n 0, 1) := by decide +kernel
theorem dX5_changed_47 : decode cX5_changed 47 = .ok (.iload_n 2, 1) := by decide +kernel
theorem dX5_changed_48 : decode cX5_changed 48 = .ok (.invokevirtual 58, 3) := by decide +kernel
theorem dX5_changed_51 : decode cX5_changed 51 = .ok (.ior, 1) := by decide +kernel
theorem dX5_changed_52 : decode cX5_changed 52 = .ok (.istore 6, 2) := by decide +kernel
theorem dX5_changed_54 : decode cX5_changed 54 = .ok (.iload_n 1, 1) := by decide +kernel
theorem dX5_changed_55 : decode cX5_changed 55 = .ok (.invokestatic 61, 3) := by decide +kernel
theorem dX5_changed_58 : decode cX5_changed 58 = .ok (.iload_n 3, 1) := by decide +kernel
theorem dX5_changed_59 : decode cX5_changed 59 = .ok (.ixor, 1) := by decide +kernel
theorem dX5_changed_60 : decode cX5_changed 60 = .ok (.iload 6, 2) := by decide +kernel
theorem dX5_changed_62 : decode cX5_changed 62 = .ok (.invokestatic 64, 3) := by decide +kernel
theorem dX5_changed_65 : decode cX5_changed 65 = .ok (.ireturn, 1) := by decide +kernel
set_option maxRecDepth 20000 in
theorem ggX5_readyIn_X4_isReadyIn : GoodIn wsX5_readyIn wsX4_isReadyIn := goodIn_r _ [7, 8, 9, 10, 11, 12, 16, 17, 18, 19, 20, 21, 22, 23, 24, 25, 26] (by decide +kernel) (by decide +kernel)
set_option maxRecDepth 20000 in
theorem gX5_readyIn_X4_isReadyIn : GoodIn wsX5_readyIn (wsV RX5 68 RX4 yX4_isReadyIn wsX4_isReadyIn) := goodIn_app (goodIn_of _ (by decide +kernel)) ggX5_readyIn_X4_isReadyIn
theorem dX5_readyIn_0 : decode cX5_readyIn 0 = .ok (.iconst 0, 1) := by decide +kernel
theorem dX5_readyIn_1 : decode cX5_readyIn 1 = .ok (.istore_n 2, 1) := by decide +kernel
theorem dX5_readyIn_2 : decode cX5_readyIn 2 = .ok (.iconst 0, 1) := by decide +kernel
theorem dX5_readyIn_3 : decode cX5_readyIn 3 = .ok (.istore_n 3, 1) := by decide +kernel
theorem dX5_readyIn_4 : decode cX5_readyIn 4 = .ok (.iload_n 3, 1) := by decide +kernel
theorem dX5_readyIn_5 : decode cX5_readyIn 5 = .ok (.aload_n 0, 1) := by decide +kernel
theorem dX5_readyIn_6 : decode cX5_readyIn 6 = .ok (.getfield 11, 3) := by decide +kernel
theorem dX5_readyIn_9 : decode cX5_readyIn 9 = .ok (.arraylength, 1) := by decide +kernel
theorem dX5_readyIn_10 : decode cX5_readyIn 10 = .ok (.if_icmp .ge 34, 3) := by decide +kernel
theorem dX5_readyIn_13 : decode cX5_readyIn 13 = .ok (.aload_n 0, 1) := by decide +kernel
theorem dX5_readyIn_14 : decode cX5_readyIn 14 = .ok (.getfield 11, 3) := by decide +kernel
theorem dX5_readyIn_17 : decode cX5_readyIn 17 = .ok (.iload_n 3, 1) := by decide +kernel
theorem dX5_readyIn_18 : decode cX5_readyIn 18 = .ok (.aaload, 1) := by decide +kernel
theorem dX5_readyIn_19 : decode cX5_readyIn 19 = .ok (.iload_n 1, 1) := by decide +kernel
theorem dX5_readyIn_20 : decode cX5_readyIn 20 = .ok (.invokevirtual 68, 3) := by decide +kernel
theorem dX5_readyIn_23 : decode cX5_readyIn 23 = .ok (.ifCond .eq 15, 3) := by decide +kernel
theorem dX5_readyIn_26 : decode cX5_readyIn 26 = .ok (.iload_n 2, 1) := by decide +kernel
theorem dX5_readyIn_27 : decode cX5_readyIn 27 = .ok (.aload_n 0, 1) := by decide +kernel
theorem dX5_readyIn_28 : decode cX5_readyIn 28 = .ok (.getfield 11, 3) := by decide +kernel
theorem dX5_readyIn_31 : decode cX5_readyIn 31 = .ok (.iload_n 3, 1) := by decide +kernel
theorem dX5_readyIn_32 : decode cX5_readyIn 32 = .ok (.aaload, 1) := by decide +kernel
theorem dX5_readyIn_33 : decode cX5_readyIn 33 = .ok (.getfield 45, 3) := by decide +kernel
theorem dX5_readyIn_36 : decode cX5_readyIn 36 = .ok (.ior, 1) := by decide +kernel
theorem dX5_readyIn_37 : decode cX5_readyIn 37 = .ok (.istore_n 2, 1) := by decide +kernel
theorem dX5_readyIn_38 : decode cX5_readyIn 38 = .ok (.iinc 3 1, 3) := by decide +kernel
theorem dX5_readyIn_41 : decode cX5_readyIn 41 = .ok (.goto (-37), 3) := by decide +kernel
theorem dX5_readyIn_44 : decode cX5_readyIn 44 = .ok (.iload_n 2, 1) := by decide +kernel
theorem dX5_readyIn_45 : decode cX5_readyIn 45 = .ok (.ireturn, 1) := by decide +kernel
set_option maxRecDepth 20000 in
theorem ggX5_firstReadyIn_X4_isReadyIn : GoodIn wsX5_firstReadyIn wsX4_isReadyIn := goodIn_r _ [6, 7, 8, 9, 10, 11, 15, 16, 17, 18, 19, 20, 21, 22, 23, 24, 25] (by decide +kernel) (by decide +kernel)
set_option maxRecDepth 20000 in
theorem gX5_firstReadyIn_X4_isReadyIn : GoodIn wsX5_firstReadyIn (wsV RX5 68 RX4 yX4_isReadyIn wsX4_isReadyIn) := goodIn_app (goodIn_of _ (by decide +kernel)) ggX5_firstReadyIn_X4_isReadyIn
theorem dX5_firstReadyIn_0 : decode cX5_firstReadyIn 0 = .ok (.iconst 0, 1) := by decide +kernel
theorem dX5_firstReadyIn_1 : decode cX5_firstReadyIn 1 = .ok (.istore_n 2, 1) := by decide +kernel
theorem dX5_firstReadyIn_2 : decode cX5_firstReadyIn 2 = .ok (.iload_n 2, 1) := by decide +kernel
theorem dX5_firstReadyIn_3 : decode cX5_firstReadyIn 3 = .ok (.aload_n 0, 1) := by decide +kernel
theorem dX5_firstReadyIn_4 : decode cX5_firstReadyIn 4 = .ok (.getfield 11, 3) := by decide +kernel
theorem dX5_firstReadyIn_7 : decode cX5_firstReadyIn 7 = .ok (.arraylength, 1) := by decide +kernel
theorem dX5_firstReadyIn_8 : decode cX5_firstReadyIn 8 = .ok (.if_icmp .ge 29, 3) := by decide +kernel
theorem dX5_firstReadyIn_11 : decode cX5_firstReadyIn 11 = .ok (.aload_n 0, 1) := by decide +kernel
theorem dX5_firstReadyIn_12 : decode cX5_firstReadyIn 12 = .ok (.getfield 11, 3) := by decide +kernel
theorem dX5_firstReadyIn_15 : decode cX5_firstReadyIn 15 = .ok (.iload_n 2, 1) := by decide +kernel
theorem dX5_firstReadyIn_16 : decode cX5_firstReadyIn 16 = .ok (.aaload, 1) := by decide +kernel
theorem dX5_firstReadyIn_17 : decode cX5_firstReadyIn 17 = .ok (.iload_n 1, 1) := by decide +kernel
theorem dX5_firstReadyIn_18 : decode cX5_firstReadyIn 18 = .ok (.invokevirtual 68, 3) := by decide +kernel
theorem dX5_firstReadyIn_21 : decode cX5_firstReadyIn 21 = .ok (.ifCond .eq 10, 3) := by decide +kernel
theorem dX5_firstReadyIn_24 : decode cX5_firstReadyIn 24 = .ok (.aload_n 0, 1) := by decide +kernel
theorem dX5_firstReadyIn_25 : decode cX5_firstReadyIn 25 = .ok (.getfield 11, 3) := by decide +kernel
theorem dX5_firstReadyIn_28 : decode cX5_firstReadyIn 28 = .ok (.iload_n 2, 1) := by decide +kernel
theorem dX5_firstReadyIn_29 : decode cX5_firstReadyIn 29 = .ok (.aaload, 1) := by decide +kernel
theorem dX5_firstReadyIn_30 : decode cX5_firstReadyIn 30 = .ok (.areturn, 1) := by decide +kernel
theorem dX5_firstReadyIn_31 : decode cX5_firstReadyIn 31 = .ok (.iinc 2 1, 3) := by decide +kernel
theorem dX5_firstReadyIn_34 : decode cX5_firstReadyIn 34 = .ok (.goto (-32), 3) := by decide +kernel
theorem dX5_firstReadyIn_37 : decode cX5_firstReadyIn 37 = .ok (.aconst_null, 1) := by decide +kernel
theorem dX5_firstReadyIn_38 : decode cX5_firstReadyIn 38 = .ok (.areturn, 1) := by decide +kernel
set_option maxRecDepth 20000 in
theorem ggX5_played_X6_factsIn : GoodIn wsX5_played wsX6_factsIn := goodIn_r _ [5] (by decide +kernel) (by decide +kernel)
set_option maxRecDepth 20000 in
theorem gX5_played_X6_factsIn_n61 : GoodIn wsX5_played (wsX6_factsIn) := ggX5_played_X6_factsIn
set_option maxRecDepth 20000 in
theorem ggX5_played_X6_triggeredIn : GoodIn wsX5_played wsX6_triggeredIn := goodIn_r _ [7] (by decide +kernel) (by decide +kernel)
set_option maxRecDepth 20000 in
theorem gX5_played_X6_triggeredIn_n54 : GoodIn wsX5_played (wsX6_triggeredIn) := ggX5_played_X6_triggeredIn
set_option maxRecDepth 20000 in
theorem ggX5_played_X6_situationOf : GoodIn wsX5_played wsX6_situationOf := goodIn_r _ [9] (by decide +kernel) (by decide +kernel)
set_option maxRecDepth 20000 in
theorem gX5_played_X6_situationOf_n64 : GoodIn wsX5_played (wsX6_situationOf) := ggX5_played_X6_situationOf
set_option maxRecDepth 20000 in
theorem ggX5_played_X4_holdsIn : GoodIn wsX5_played wsX4_holdsIn := goodIn_r _ [14, 15, 16, 3, 4, 5, 32, 33, 34, 35, 36, 37, 38, 39, 40, 41, 42] (by decide +kernel) (by decide +kernel)
set_option maxRecDepth 20000 in
theorem gX5_played_X4_holdsIn : GoodIn wsX5_played (wsV RX5 72 RX4 yX4_holdsIn wsX4_holdsIn) := goodIn_app (goodIn_of _ (by decide +kernel)) ggX5_played_X4_holdsIn
set_option maxRecDepth 20000 in
theorem ggX5_played_X4_actionAt : GoodIn wsX5_played wsX4_actionAt := goodIn_r _ [20, 21, 32, 33, 34, 35, 36, 37, 38, 39, 40, 41, 42] (by decide +kernel) (by decide +kernel)
set_option maxRecDepth 20000 in
theorem gX5_played_X4_actionAt : GoodIn wsX5_played (wsV RX5 78 RX4 yX4_actionAt wsX4_actionAt) := goodIn_app (goodIn_of _ (by decide +kernel)) ggX5_played_X4_actionAt
set_option maxRecDepth 20000 in
theorem ggX5_played_X5_changed : GoodIn wsX5_played wsX5_changed := goodIn_r _ [26, 6, 4, 7, 27, 28, 29, 25, 30, 31, 3, 5, 8, 9, 43, 44, 45] (by decide +kernel) (by decide +kernel)
set_option maxRecDepth 20000 in
theorem gX5_played_X5_changed : GoodIn wsX5_played (wsV RX5 81 RX5 yX5_changed wsX5_changed) := goodIn_app (goodIn_of _ (by decide +kernel)) ggX5_played_X5_changed
theorem dX5_played_0 : decode cX5_played 0 = .ok (.iload_n 1, 1) := by decide +kernel
theorem dX5_played_1 : decode cX5_played 1 = .ok (.invokestatic 61, 3) := by decide +kernel
theorem dX5_played_4 : decode cX5_played 4 = .ok (.iload_n 1, 1) := by decide +kernel
theorem dX5_played_5 : decode cX5_played 5 = .ok (.invokestatic 54, 3) := by decide +kernel
theorem dX5_played_8 : decode cX5_played 8 = .ok (.aload_n 2, 1) := by decide +kernel
theorem dX5_played_9 : decode cX5_played 9 = .ok (.getfield 45, 3) := by decide +kernel
theorem dX5_played_12 : decode cX5_played 12 = .ok (.iconst (-1), 1) := by decide +kernel
theorem dX5_played_13 : decode cX5_played 13 = .ok (.ixor, 1) := by decide +kernel
theorem dX5_played_14 : decode cX5_played 14 = .ok (.iand, 1) := by decide +kernel
theorem dX5_played_15 : decode cX5_played 15 = .ok (.invokestatic 64, 3) := by decide +kernel
theorem dX5_played_18 : decode cX5_played 18 = .ok (.istore_n 3, 1) := by decide +kernel
theorem dX5_played_19 : decode cX5_played 19 = .ok (.aload_n 2, 1) := by decide +kernel
theorem dX5_played_20 : decode cX5_played 20 = .ok (.iload_n 3, 1) := by decide +kernel
theorem dX5_played_21 : decode cX5_played 21 = .ok (.invokevirtual 72, 3) := by decide +kernel
theorem dX5_played_24 : decode cX5_played 24 = .ok (.ifCond .ne 5, 3) := by decide +kernel
theorem dX5_played_27 : decode cX5_played 27 = .ok (.iload_n 3, 1) := by decide +kernel
theorem dX5_played_28 : decode cX5_played 28 = .ok (.ireturn, 1) := by decide +kernel
theorem dX5_played_29 : decode cX5_played 29 = .ok (.iconst 0, 1) := by decide +kernel
theorem dX5_played_30 : decode cX5_played 30 = .ok (.istore 4, 2) := by decide +kernel
theorem dX5_played_32 : decode cX5_played 32 = .ok (.iload 4, 2) := by decide +kernel
theorem dX5_played_34 : decode cX5_played 34 = .ok (.aload_n 2, 1) := by decide +kernel
theorem dX5_played_35 : decode cX5_played 35 = .ok (.getfield 75, 3) := by decide +kernel
theorem dX5_played_38 : decode cX5_played 38 = .ok (.if_icmp .ge 21, 3) := by decide +kernel
theorem dX5_played_41 : decode cX5_played 41 = .ok (.aload_n 0, 1) := by decide +kernel
theorem dX5_played_42 : decode cX5_played 42 = .ok (.iload_n 3, 1) := by decide +kernel
theorem dX5_played_43 : decode cX5_played 43 = .ok (.aload_n 2, 1) := by decide +kernel
theorem dX5_played_44 : decode cX5_played 44 = .ok (.iload 4, 2) := by decide +kernel
theorem dX5_played_46 : decode cX5_played 46 = .ok (.invokevirtual 78, 3) := by decide +kernel
theorem dX5_played_49 : decode cX5_played 49 = .ok (.invokevirtual 81, 3) := by decide +kernel
theorem dX5_played_52 : decode cX5_played 52 = .ok (.istore_n 3, 1) := by decide +kernel
theorem dX5_played_53 : decode cX5_played 53 = .ok (.iinc 4 1, 3) := by decide +kernel
theorem dX5_played_56 : decode cX5_played 56 = .ok (.goto (-24), 3) := by decide +kernel
theorem dX5_played_59 : decode cX5_played 59 = .ok (.iload_n 3, 1) := by decide +kernel
theorem dX5_played_60 : decode cX5_played 60 = .ok (.ireturn, 1) := by decide +kernel
set_option maxRecDepth 20000 in
theorem ggX5_triggerableBy_X4_actionAt : GoodIn wsX5_triggerableBy wsX4_actionAt := goodIn_r _ [7, 8, 15, 16, 17, 18, 19, 20, 21, 22, 23, 24, 25] (by decide +kernel) (by decide +kernel)
set_option maxRecDepth 20000 in
theorem gX5_triggerableBy_X4_actionAt : GoodIn wsX5_triggerableBy (wsV RX5 78 RX4 yX4_actionAt wsX4_actionAt) := goodIn_app (goodIn_of _ (by decide +kernel)) ggX5_triggerableBy_X4_actionAt
set_option maxRecDepth 20000 in
theorem ggX5_triggerableBy_X5_listenersTo : GoodIn wsX5_triggerableBy wsX5_listenersTo := goodIn_r _ [13, 14, 26, 27, 28] (by decide +kernel) (by decide +kernel)
set_option maxRecDepth 20000 in
theorem gX5_triggerableBy_X5_listenersTo : GoodIn wsX5_triggerableBy (wsV RX5 58 RX5 yX5_listenersTo wsX5_listenersTo) := goodIn_app (goodIn_of _ (by decide +kernel)) ggX5_triggerableBy_X5_listenersTo
theorem dX5_triggerableBy_0 : decode cX5_triggerableBy 0 = .ok (.iconst 0, 1) := by decide +kernel
theorem dX5_triggerableBy_1 : decode cX5_triggerableBy 1 = .ok (.istore_n 2, 1) := by decide +kernel
theorem dX5_triggerableBy_2 : decode cX5_triggerableBy 2 = .ok (.aload_n 1, 1) := by decide +kernel
theorem dX5_triggerableBy_3 : decode cX5_triggerableBy 3 = .ok (.getfield 41, 3) := by decide +kernel
theorem dX5_triggerableBy_6 : decode cX5_triggerableBy 6 = .ok (.ifCond .eq 31, 3) := by decide +kernel
theorem dX5_triggerableBy_9 : decode cX5_triggerableBy 9 = .ok (.iconst 0, 1) := by decide +kernel
theorem dX5_triggerableBy_10 : decode cX5_triggerableBy 10 = .ok (.istore_n 3, 1) := by decide +kernel
theorem dX5_triggerableBy_11 : decode cX5_triggerableBy 11 = .ok (.iload_n 3, 1) := by decide +kernel
theorem dX5_triggerableBy_12 : decode cX5_triggerableBy 12 = .ok (.aload_n 1, 1) := by decide +kernel
theorem dX5_triggerableBy_13 : decode cX5_triggerableBy 13 = .ok (.getfield 75, 3) := by decide +kernel
theorem dX5_triggerableBy_16 : decode cX5_triggerableBy 16 = .ok (.if_icmp .ge 21, 3) := by decide +kernel
theorem dX5_triggerableBy_19 : decode cX5_triggerableBy 19 = .ok (.iload_n 2, 1) := by decide +kernel
theorem dX5_triggerableBy_20 : decode cX5_triggerableBy 20 = .ok (.aload_n 0, 1) := by decide +kernel
theorem dX5_triggerableBy_21 : decode cX5_triggerableBy 21 = .ok (.aload_n 1, 1) := by decide +kernel
theorem dX5_triggerableBy_22 : decode cX5_triggerableBy 22 = .ok (.iload_n 3, 1) := by decide +kernel
theorem dX5_triggerableBy_23 : decode cX5_triggerableBy 23 = .ok (.invokevirtual 78, 3) := by decide +kernel
theorem dX5_triggerableBy_26 : decode cX5_triggerableBy 26 = .ok (.invokevirtual 58, 3) := by decide +kernel
theorem dX5_triggerableBy_29 : decode cX5_triggerableBy 29 = .ok (.ior, 1) := by decide +kernel
theorem dX5_triggerableBy_30 : decode cX5_triggerableBy 30 = .ok (.istore_n 2, 1) := by decide +kernel
theorem dX5_triggerableBy_31 : decode cX5_triggerableBy 31 = .ok (.iinc 3 1, 3) := by decide +kernel
theorem dX5_triggerableBy_34 : decode cX5_triggerableBy 34 = .ok (.goto (-23), 3) := by decide +kernel
theorem dX5_triggerableBy_37 : decode cX5_triggerableBy 37 = .ok (.iload_n 2, 1) := by decide +kernel
theorem dX5_triggerableBy_38 : decode cX5_triggerableBy 38 = .ok (.ireturn, 1) := by decide +kernel
set_option maxRecDepth 20000 in
theorem ggX5_addedTo_X4_addedTo : GoodIn wsX5_addedTo wsX4_addedTo := goodIn_r _ [8, 9, 10, 11, 12, 13, 14, 15, 16, 17, 18, 7, 19, 20, 24, 25, 26, 27, 28, 29, 30, 31, 32, 33, 34] (by decide +kernel) (by decide +kernel)
set_option maxRecDepth 20000 in
theorem gX5_addedTo_X4_addedTo : GoodIn wsX5_addedTo (wsV RX5 86 RX4 yX4_addedTo wsX4_addedTo) := goodIn_app (goodIn_of _ (by decide +kernel)) ggX5_addedTo_X4_addedTo
theorem dX5_addedTo_0 : decode cX5_addedTo 0 = .ok (.lload_n 1, 1) := by decide +kernel
theorem dX5_addedTo_1 : decode cX5_addedTo 1 = .ok (.ldc2_w 84, 3) := by decide +kernel
theorem dX5_addedTo_4 : decode cX5_addedTo 4 = .ok (.lmul, 1) := by decide +kernel
theorem dX5_addedTo_5 : decode cX5_addedTo 5 = .ok (.aload_n 0, 1) := by decide +kernel
theorem dX5_addedTo_6 : decode cX5_addedTo 6 = .ok (.getfield 24, 3) := by decide +kernel
theorem dX5_addedTo_9 : decode cX5_addedTo 9 = .ok (.i2l, 1) := by decide +kernel
theorem dX5_addedTo_10 : decode cX5_addedTo 10 = .ok (.ladd, 1) := by decide +kernel
theorem dX5_addedTo_11 : decode cX5_addedTo 11 = .ok (.lstore_n 3, 1) := by decide +kernel
theorem dX5_addedTo_12 : decode cX5_addedTo 12 = .ok (.iconst 0, 1) := by decide +kernel
theorem dX5_addedTo_13 : decode cX5_addedTo 13 = .ok (.istore 5, 2) := by decide +kernel
theorem dX5_addedTo_15 : decode cX5_addedTo 15 = .ok (.iload 5, 2) := by decide +kernel
theorem dX5_addedTo_17 : decode cX5_addedTo 17 = .ok (.aload_n 0, 1) := by decide +kernel
theorem dX5_addedTo_18 : decode cX5_addedTo 18 = .ok (.getfield 24, 3) := by decide +kernel
theorem dX5_addedTo_21 : decode cX5_addedTo 21 = .ok (.if_icmp .ge 31, 3) := by decide +kernel
theorem dX5_addedTo_24 : decode cX5_addedTo 24 = .ok (.iload 5, 2) := by decide +kernel
theorem dX5_addedTo_26 : decode cX5_addedTo 26 = .ok (.aload_n 0, 1) := by decide +kernel
theorem dX5_addedTo_27 : decode cX5_addedTo 27 = .ok (.getfield 11, 3) := by decide +kernel
theorem dX5_addedTo_30 : decode cX5_addedTo 30 = .ok (.arraylength, 1) := by decide +kernel
theorem dX5_addedTo_31 : decode cX5_addedTo 31 = .ok (.if_icmp .ge 21, 3) := by decide +kernel
theorem dX5_addedTo_34 : decode cX5_addedTo 34 = .ok (.aload_n 0, 1) := by decide +kernel
theorem dX5_addedTo_35 : decode cX5_addedTo 35 = .ok (.getfield 11, 3) := by decide +kernel
theorem dX5_addedTo_38 : decode cX5_addedTo 38 = .ok (.iload 5, 2) := by decide +kernel
theorem dX5_addedTo_40 : decode cX5_addedTo 40 = .ok (.aaload, 1) := by decide +kernel
theorem dX5_addedTo_41 : decode cX5_addedTo 41 = .ok (.lload_n 3, 1) := by decide +kernel
theorem dX5_addedTo_42 : decode cX5_addedTo 42 = .ok (.invokevirtual 86, 3) := by decide +kernel
theorem dX5_addedTo_45 : decode cX5_addedTo 45 = .ok (.lstore_n 3, 1) := by decide +kernel
theorem dX5_addedTo_46 : decode cX5_addedTo 46 = .ok (.iinc 5 1, 3) := by decide +kernel
theorem dX5_addedTo_49 : decode cX5_addedTo 49 = .ok (.goto (-34), 3) := by decide +kernel
theorem dX5_addedTo_52 : decode cX5_addedTo 52 = .ok (.lload_n 3, 1) := by decide +kernel
theorem dX5_addedTo_53 : decode cX5_addedTo 53 = .ok (.lreturn, 1) := by decide +kernel
set_option maxRecDepth 20000 in
theorem ggX6_init_X5_init : GoodIn wsX6_init wsX5_init := goodIn_r _ [18, 19, 2, 3, 20, 21, 22, 23, 24, 25, 26, 27, 28, 29, 30, 31, 70, 71, 72, 91, 92, 93, 94, 95, 96, 97, 98, 99, 100, 101] (by decide +kernel) (by decide +kernel)
set_option maxRecDepth 20000 in
theorem gX6_init_X5_init : GoodIn wsX6_init (wsX5_init) := ggX6_init_X5_init
set_option maxRecDepth 20000 in
theorem ggX6_init_X2_init : GoodIn wsX6_init wsX2_init := goodIn_r _ [34, 35, 2, 3, 22, 36, 37, 77, 78] (by decide +kernel) (by decide +kernel)
set_option maxRecDepth 20000 in
theorem gX6_init_X2_init : GoodIn wsX6_init (wsX2_init) := ggX6_init_X2_init
set_option maxRecDepth 20000 in
theorem ggX6_init_X1_init : GoodIn wsX6_init wsX1_init := goodIn_r _ [40, 41, 2, 3, 22, 42, 43, 44, 45, 46, 47, 48, 49, 50, 51, 52, 53, 54, 55, 56, 57, 58, 59, 60, 61, 62, 63, 64, 65, 66, 67, 68, 69, 79, 80, 81, 82, 83, 84, 85, 86, 87, 88, 89, 90, 102, 103, 104, 105, 106, 107, 108, 109, 110, 111, 112] (by decide +kernel) (by decide +kernel)
set_option maxRecDepth 20000 in
theorem gX6_init_X1_init : GoodIn wsX6_init (wsX1_init) := ggX6_init_X1_init
theorem dX6_init_0 : decode cX6_init 0 = .ok (.aload_n 0, 1) := by decide +kernel
theorem dX6_init_1 : decode cX6_init 1 = .ok (.invokespecial 1, 3) := by decide +kernel
theorem dX6_init_4 : decode cX6_init 4 = .ok (.aload_n 0, 1) := by decide +kernel
theorem dX6_init_5 : decode cX6_init 5 = .ok (.new 7, 3) := by decide +kernel
theorem dX6_init_8 : decode cX6_init 8 = .ok (.dup, 1) := by decide +kernel
theorem dX6_init_9 : decode cX6_init 9 = .ok (.invokespecial 9, 3) := by decide +kernel
theorem dX6_init_12 : decode cX6_init 12 = .ok (.putfield 10, 3) := by decide +kernel
theorem dX6_init_15 : decode cX6_init 15 = .ok (.aload_n 0, 1) := by decide +kernel
theorem dX6_init_16 : decode cX6_init 16 = .ok (.new 16, 3) := by decide +kernel
theorem dX6_init_19 : decode cX6_init 19 = .ok (.dup, 1) := by decide +kernel
theorem dX6_init_20 : decode cX6_init 20 = .ok (.aload_n 0, 1) := by decide +kernel
theorem dX6_init_21 : decode cX6_init 21 = .ok (.getfield 10, 3) := by decide +kernel
theorem dX6_init_24 : decode cX6_init 24 = .ok (.invokespecial 18, 3) := by decide +kernel
theorem dX6_init_27 : decode cX6_init 27 = .ok (.putfield 21, 3) := by decide +kernel
theorem dX6_init_30 : decode cX6_init 30 = .ok (.aload_n 0, 1) := by decide +kernel
theorem dX6_init_31 : decode cX6_init 31 = .ok (.new 25, 3) := by decide +kernel
theorem dX6_init_34 : decode cX6_init 34 = .ok (.dup, 1) := by decide +kernel
theorem dX6_init_35 : decode cX6_init 35 = .ok (.aload_n 0, 1) := by decide +kernel
theorem dX6_init_36 : decode cX6_init 36 = .ok (.getfield 10, 3) := by decide +kernel
theorem dX6_init_39 : decode cX6_init 39 = .ok (.invokespecial 27, 3) := by decide +kernel
theorem dX6_init_42 : decode cX6_init 42 = .ok (.putfield 28, 3) := by decide +kernel
theorem dX6_init_45 : decode cX6_init 45 = .ok (.return_, 1) := by decide +kernel
set_option maxRecDepth 20000 in
theorem ggX6_addRule_X6_needFact : GoodIn wsX6_addRule wsX6_needFact := goodIn_ca (goodIn_r _ [8, 9, 10] (by decide +kernel) (by decide +kernel)) (goodIn_sub (fun _ h => List.mem_cons_of_mem _ (List.mem_append_left _ (List.mem_append_right _ h))) (by decide +kernel))
set_option maxRecDepth 20000 in
theorem gX6_addRule_X6_needFact : GoodIn wsX6_addRule (va_wsS RX6 32 yX6_needFact wsX6_needFact) := goodIn_app (goodIn_of _ (by decide +kernel)) ggX6_addRule_X6_needFact
set_option maxRecDepth 20000 in
theorem ggX6_addRule_X6_needFactSet : GoodIn wsX6_addRule wsX6_needFactSet := goodIn_ca (goodIn_r _ [13, 14, 15] (by decide +kernel) (by decide +kernel)) (goodIn_sub (fun _ h => List.mem_cons_of_mem _ (List.mem_append_right _ h)) (by decide +kernel))
set_option maxRecDepth 20000 in
theorem gX6_addRule_X6_needFactSet : GoodIn wsX6_addRule (va_wsS RX6 36 yX6_needFactSet wsX6_needFactSet) := goodIn_app (goodIn_of _ (by decide +kernel)) ggX6_addRule_X6_needFactSet
set_option maxRecDepth 20000 in
theorem ggX6_addRule_X5_isFull : GoodIn wsX6_addRule wsX5_isFull := goodIn_r _ [20, 21, 22, 50, 51, 52] (by decide +kernel) (by decide +kernel)
set_option maxRecDepth 20000 in
theorem gX6_addRule_X5_isFull : GoodIn wsX6_addRule (wsV RX6 39 RX5 yX5_isFull wsX5_isFull) := goodIn_app (goodIn_of _ (by decide +kernel)) ggX6_addRule_X5_isFull
set_option maxRecDepth 20000 in
theorem ggX6_addRule_X1_forget : GoodIn wsX6_addRule wsX1_forget := goodIn_r _ [27, 28, 53, 54, 55, 56, 57, 58, 59, 60, 61, 62, 63, 64] (by decide +kernel) (by decide +kernel)
set_option maxRecDepth 20000 in
theorem gX6_addRule_X1_forget : GoodIn wsX6_addRule (wsV RX6 50 RX1 yX1_forget wsX1_forget) := goodIn_app (goodIn_of _ (by decide +kernel)) ggX6_addRule_X1_forget
set_option maxRecDepth 20000 in
theorem ggX6_addRule_X6_changeCode : GoodIn wsX6_addRule wsX6_changeCode := goodIn_r _ [31] (by decide +kernel) (by decide +kernel)
set_option maxRecDepth 20000 in
theorem gX6_addRule_X6_changeCode : GoodIn wsX6_addRule (va_wsS RX6 53 yX6_changeCode wsX6_changeCode) := goodIn_app (goodIn_of _ (by decide +kernel)) ggX6_addRule_X6_changeCode
set_option maxRecDepth 20000 in
theorem ggX6_addRule_X5_append : GoodIn wsX6_addRule wsX5_append := goodIn_r _ [35, 21, 22, 36, 37, 38, 39, 40, 41, 19, 42, 43, 44, 45, 50, 51, 52, 65, 66, 67, 68, 69, 70, 71, 72, 73, 74, 75] (by decide +kernel) (by decide +kernel)
set_option maxRecDepth 20000 in
theorem gX6_addRule_X5_append : GoodIn wsX6_addRule (wsV RX6 57 RX5 yX5_append wsX5_append) := goodIn_app (goodIn_of _ (by decide +kernel)) ggX6_addRule_X5_append
theorem dX6_addRule_0 : decode cX6_addRule 0 = .ok (.iload_n 1, 1) := by decide +kernel
theorem dX6_addRule_1 : decode cX6_addRule 1 = .ok (.invokestatic 32, 3) := by decide +kernel
theorem dX6_addRule_4 : decode cX6_addRule 4 = .ok (.iload_n 3, 1) := by decide +kernel
theorem dX6_addRule_5 : decode cX6_addRule 5 = .ok (.invokestatic 36, 3) := by decide +kernel
theorem dX6_addRule_8 : decode cX6_addRule 8 = .ok (.iload 4, 2) := by decide +kernel
theorem dX6_addRule_10 : decode cX6_addRule 10 = .ok (.invokestatic 36, 3) := by decide +kernel
theorem dX6_addRule_13 : decode cX6_addRule 13 = .ok (.aload_n 0, 1) := by decide +kernel
theorem dX6_addRule_14 : decode cX6_addRule 14 = .ok (.getfield 10, 3) := by decide +kernel
theorem dX6_addRule_17 : decode cX6_addRule 17 = .ok (.invokevirtual 39, 3) := by decide +kernel
theorem dX6_addRule_20 : decode cX6_addRule 20 = .ok (.ifCond .eq 13, 3) := by decide +kernel
theorem dX6_addRule_23 : decode cX6_addRule 23 = .ok (.new 43, 3) := by decide +kernel
theorem dX6_addRule_26 : decode cX6_addRule 26 = .ok (.dup, 1) := by decide +kernel
theorem dX6_addRule_27 : decode cX6_addRule 27 = .ok (.ldc 45, 2) := by decide +kernel
theorem dX6_addRule_29 : decode cX6_addRule 29 = .ok (.invokespecial 47, 3) := by decide +kernel
theorem dX6_addRule_32 : decode cX6_addRule 32 = .ok (.athrow, 1) := by decide +kernel
theorem dX6_addRule_33 : decode cX6_addRule 33 = .ok (.aload_n 0, 1) := by decide +kernel
theorem dX6_addRule_34 : decode cX6_addRule 34 = .ok (.getfield 28, 3) := by decide +kernel
theorem dX6_addRule_37 : decode cX6_addRule 37 = .ok (.invokevirtual 50, 3) := by decide +kernel
theorem dX6_addRule_40 : decode cX6_addRule 40 = .ok (.aload_n 0, 1) := by decide +kernel
theorem dX6_addRule_41 : decode cX6_addRule 41 = .ok (.getfield 10, 3) := by decide +kernel
theorem dX6_addRule_44 : decode cX6_addRule 44 = .ok (.iload_n 1, 1) := by decide +kernel
theorem dX6_addRule_45 : decode cX6_addRule 45 = .ok (.iload_n 2, 1) := by decide +kernel
theorem dX6_addRule_46 : decode cX6_addRule 46 = .ok (.invokestatic 53, 3) := by decide +kernel
theorem dX6_addRule_49 : decode cX6_addRule 49 = .ok (.iload_n 3, 1) := by decide +kernel
theorem dX6_addRule_50 : decode cX6_addRule 50 = .ok (.iload 4, 2) := by decide +kernel
theorem dX6_addRule_52 : decode cX6_addRule 52 = .ok (.invokevirtual 57, 3) := by decide +kernel
theorem dX6_addRule_55 : decode cX6_addRule 55 = .ok (.ireturn, 1) := by decide +kernel
set_option maxRecDepth 20000 in
theorem ggX6_addAction_X6_ruleAt : GoodIn wsX6_addAction wsX6_ruleAt := goodIn_ca (goodIn_r _ [9, 10, 11, 12, 13, 14, 15, 16, 17, 18, 19, 45, 46, 47, 48, 60, 61, 62] (by decide +kernel) (by decide +kernel)) (goodIn_sub (fun _ h => List.mem_cons_of_mem _ (List.mem_append_right _ h)) (by decide +kernel))
set_option maxRecDepth 20000 in
theorem gX6_addAction_X6_ruleAt : GoodIn wsX6_addAction (wsV RX6 61 RX6 yX6_ruleAt wsX6_ruleAt) := goodIn_app (goodIn_of _ (by decide +kernel)) ggX6_addAction_X6_ruleAt
set_option maxRecDepth 20000 in
theorem ggX6_addAction_X6_needFact : GoodIn wsX6_addAction wsX6_needFact := goodIn_ca (goodIn_r _ [22, 10, 11] (by decide +kernel) (by decide +kernel)) (goodIn_sub (fun _ h => List.mem_cons_of_mem _ (List.mem_append_right _ h)) (by decide +kernel))
set_option maxRecDepth 20000 in
theorem gX6_addAction_X6_needFact : GoodIn wsX6_addAction (va_wsS RX6 32 yX6_needFact wsX6_needFact) := goodIn_app (goodIn_of _ (by decide +kernel)) ggX6_addAction_X6_needFact
set_option maxRecDepth 20000 in
theorem ggX6_addAction_X4_isFull : GoodIn wsX6_addAction wsX4_isFull := goodIn_r _ [27, 28, 29, 49, 50, 51, 52, 53, 54, 55, 56, 57, 58, 59] (by decide +kernel) (by decide +kernel)
set_option maxRecDepth 20000 in
theorem gX6_addAction_X4_isFull : GoodIn wsX6_addAction (wsV RX6 65 RX4 yX4_isFull wsX4_isFull) := goodIn_app (goodIn_of _ (by decide +kernel)) ggX6_addAction_X4_isFull
set_option maxRecDepth 20000 in
theorem ggX6_addAction_X1_forget : GoodIn wsX6_addAction wsX1_forget := goodIn_r _ [34, 35, 63, 64, 65, 66, 67, 68, 69, 70, 71, 72, 73, 74] (by decide +kernel) (by decide +kernel)
set_option maxRecDepth 20000 in
theorem gX6_addAction_X1_forget : GoodIn wsX6_addAction (wsV RX6 50 RX1 yX1_forget wsX1_forget) := goodIn_app (goodIn_of _ (by decide +kernel)) ggX6_addAction_X1_forget
set_option maxRecDepth 20000 in
theorem ggX6_addAction_X6_changeCode : GoodIn wsX6_addAction wsX6_changeCode := goodIn_r _ [38] (by decide +kernel) (by decide +kernel)
set_option maxRecDepth 20000 in
theorem gX6_addAction_X6_changeCode : GoodIn wsX6_addAction (va_wsS RX6 53 yX6_changeCode wsX6_changeCode) := goodIn_app (goodIn_of _ (by decide +kernel)) ggX6_addAction_X6_changeCode
set_option maxRecDepth 20000 in
theorem ggX6_addAction_X4_append : GoodIn wsX6_addAction wsX4_append := goodIn_r _ [42, 28, 29, 43, 44, 49, 50, 51, 52, 53, 54, 55, 56, 57, 58, 59] (by decide +kernel) (by decide +kernel)
set_option maxRecDepth 20000 in
theorem gX6_addAction_X4_append : GoodIn wsX6_addAction (wsV RX6 70 RX4 yX4_append wsX4_append) := goodIn_app (goodIn_of _ (by decide +kernel)) ggX6_addAction_X4_append
theorem dX6_addAction_0 : decode cX6_addAction 0 = .ok (.aload_n 0, 1) := by decide +kernel
theorem dX6_addAction_1 : decode cX6_addAction 1 = .ok (.iload_n 1, 1) := by decide +kernel
theorem dX6_addAction_2 : decode cX6_addAction 2 = .ok (.invokevirtual 61, 3) := by decide +kernel
theorem dX6_addAction_5 : decode cX6_addAction 5 = .ok (.astore 4, 2) := by decide +kernel
theorem dX6_addAction_7 : decode cX6_addAction 7 = .ok (.iload_n 2, 1) := by decide +kernel
theorem dX6_addAction_8 : decode cX6_addAction 8 = .ok (.invokestatic 32, 3) := by decide +kernel
theorem dX6_addAction_11 : decode cX6_addAction 11 = .ok (.aload 4, 2) := by decide +kernel
theorem dX6_addAction_13 : decode cX6_addAction 13 = .ok (.invokevirtual 65, 3) := by decide +kernel
theorem dX6_addAction_16 : decode cX6_addAction 16 = .ok (.ifCond .eq 13, 3) := by decide +kernel
theorem dX6_addAction_19 : decode cX6_addAction 19 = .ok (.new 43, 3) := by decide +kernel
theorem dX6_addAction_22 : decode cX6_addAction 22 = .ok (.dup, 1) := by decide +kernel
theorem dX6_addAction_23 : decode cX6_addAction 23 = .ok (.ldc 68, 2) := by decide +kernel
theorem dX6_addAction_25 : decode cX6_addAction 25 = .ok (.invokespecial 47, 3) := by decide +kernel
theorem dX6_addAction_28 : decode cX6_addAction 28 = .ok (.athrow, 1) := by decide +kernel
theorem dX6_addAction_29 : decode cX6_addAction 29 = .ok (.aload_n 0, 1) := by decide +kernel
theorem dX6_addAction_30 : decode cX6_addAction 30 = .ok (.getfield 28, 3) := by decide +kernel
theorem dX6_addAction_33 : decode cX6_addAction 33 = .ok (.invokevirtual 50, 3) := by decide +kernel
theorem dX6_addAction_36 : decode cX6_addAction 36 = .ok (.aload 4, 2) := by decide +kernel
theorem dX6_addAction_38 : decode cX6_addAction 38 = .ok (.iload_n 2, 1) := by decide +kernel
theorem dX6_addAction_39 : decode cX6_addAction 39 = .ok (.iload_n 3, 1) := by decide +kernel
theorem dX6_addAction_40 : decode cX6_addAction 40 = .ok (.invokestatic 53, 3) := by decide +kernel
theorem dX6_addAction_43 : decode cX6_addAction 43 = .ok (.invokevirtual 70, 3) := by decide +kernel
theorem dX6_addAction_46 : decode cX6_addAction 46 = .ok (.aload 4, 2) := by decide +kernel
theorem dX6_addAction_48 : decode cX6_addAction 48 = .ok (.getfield 72, 3) := by decide +kernel
theorem dX6_addAction_51 : decode cX6_addAction 51 = .ok (.ireturn, 1) := by decide +kernel
set_option maxRecDepth 20000 in
theorem ggX6_turn_X6_ruleAt : GoodIn wsX6_turn wsX6_ruleAt := goodIn_ca (goodIn_r _ [10, 11, 12, 3, 13, 14, 15, 16, 17, 18, 19, 54, 55, 56, 57, 58, 59, 60] (by decide +kernel) (by decide +kernel)) (goodIn_sub (fun _ h => List.mem_cons_of_mem _ (List.mem_append_right _ h)) (by decide +kernel))
set_option maxRecDepth 20000 in
theorem gX6_turn_X6_ruleAt : GoodIn wsX6_turn (wsV RX6 61 RX6 yX6_ruleAt wsX6_ruleAt) := goodIn_app (goodIn_of _ (by decide +kernel)) ggX6_turn_X6_ruleAt
set_option maxRecDepth 20000 in
theorem ggX6_turn_X1_forget : GoodIn wsX6_turn wsX1_forget := goodIn_r _ [24, 25, 61, 62, 63, 64, 65, 66, 67, 68, 69, 70, 71, 72] (by decide +kernel) (by decide +kernel)
set_option maxRecDepth 20000 in
theorem gX6_turn_X1_forget : GoodIn wsX6_turn (wsV RX6 50 RX1 yX1_forget wsX1_forget) := goodIn_app (goodIn_of _ (by decide +kernel)) ggX6_turn_X1_forget
set_option maxRecDepth 20000 in
theorem ggX6_turn_X5_switchRule : GoodIn wsX6_turn wsX5_switchRule := goodIn_r _ [29, 30, 31, 32, 33, 43, 44, 45, 46, 47, 48, 49, 50, 51, 52, 53, 58, 59, 60] (by decide +kernel) (by decide +kernel)
set_option maxRecDepth 20000 in
theorem gX6_turn_X5_switchRule : GoodIn wsX6_turn (wsV RX6 80 RX5 yX5_switchRule wsX5_switchRule) := goodIn_app (goodIn_of _ (by decide +kernel)) ggX6_turn_X5_switchRule
set_option maxRecDepth 20000 in
theorem ggX6_turn_X6_factsIn : GoodIn wsX6_turn wsX6_factsIn := goodIn_r _ [36] (by decide +kernel) (by decide +kernel)
set_option maxRecDepth 20000 in
theorem gX6_turn_X6_factsIn : GoodIn wsX6_turn (va_wsS RX6 87 yX6_factsIn wsX6_factsIn) := goodIn_app (goodIn_of _ (by decide +kernel)) ggX6_turn_X6_factsIn
set_option maxRecDepth 20000 in
theorem ggX6_turn_X6_triggeredIn : GoodIn wsX6_turn wsX6_triggeredIn := goodIn_r _ [39] (by decide +kernel) (by decide +kernel)
set_option maxRecDepth 20000 in
theorem gX6_turn_X6_triggeredIn : GoodIn wsX6_turn (va_wsS RX6 91 yX6_triggeredIn wsX6_triggeredIn) := goodIn_app (goodIn_of _ (by decide +kernel)) ggX6_turn_X6_triggeredIn
set_option maxRecDepth 20000 in
theorem ggX6_turn_X6_situationOf : GoodIn wsX6_turn wsX6_situationOf := goodIn_r _ [42] (by decide +kernel) (by decide +kernel)
set_option maxRecDepth 20000 in
theorem gX6_turn_X6_situationOf : GoodIn wsX6_turn (va_wsS RX6 97 yX6_situationOf wsX6_situationOf) := goodIn_app (goodIn_of _ (by decide +kernel)) ggX6_turn_X6_situationOf
theorem dX6_turn_0 : decode cX6_turn 0 = .ok (.aload_n 0, 1) := by decide +kernel
theorem dX6_turn_1 : decode cX6_turn 1 = .ok (.iload_n 1, 1) := by decide +kernel
theorem dX6_turn_2 : decode cX6_turn 2 = .ok (.invokevirtual 61, 3) := by decide +kernel
theorem dX6_turn_5 : decode cX6_turn 5 = .ok (.astore_n 3, 1) := by decide +kernel
theorem dX6_turn_6 : decode cX6_turn 6 = .ok (.aload_n 3, 1) := by decide +kernel
theorem dX6_turn_7 : decode cX6_turn 7 = .ok (.getfield 76, 3) := by decide +kernel
theorem dX6_turn_10 : decode cX6_turn 10 = .ok (.istore 4, 2) := by decide +kernel
theorem dX6_turn_12 : decode cX6_turn 12 = .ok (.aload_n 0, 1) := by decide +kernel
theorem dX6_turn_13 : decode cX6_turn 13 = .ok (.getfield 28, 3) := by decide +kernel
theorem dX6_turn_16 : decode cX6_turn 16 = .ok (.invokevirtual 50, 3) := by decide +kernel
theorem dX6_turn_19 : decode cX6_turn 19 = .ok (.aload_n 0, 1) := by decide +kernel
theorem dX6_turn_20 : decode cX6_turn 20 = .ok (.getfield 10, 3) := by decide +kernel
theorem dX6_turn_23 : decode cX6_turn 23 = .ok (.aload_n 3, 1) := by decide +kernel
theorem dX6_turn_24 : decode cX6_turn 24 = .ok (.iload_n 2, 1) := by decide +kernel
theorem dX6_turn_25 : decode cX6_turn 25 = .ok (.invokevirtual 80, 3) := by decide +kernel
theorem dX6_turn_28 : decode cX6_turn 28 = .ok (.iload_n 2, 1) := by decide +kernel
theorem dX6_turn_29 : decode cX6_turn 29 = .ok (.ifCond .ne 31, 3) := by decide +kernel
theorem dX6_turn_32 : decode cX6_turn 32 = .ok (.aload_n 0, 1) := by decide +kernel
theorem dX6_turn_33 : decode cX6_turn 33 = .ok (.aload_n 0, 1) := by decide +kernel
theorem dX6_turn_34 : decode cX6_turn 34 = .ok (.getfield 84, 3) := by decide +kernel
theorem dX6_turn_37 : decode cX6_turn 37 = .ok (.invokestatic 87, 3) := by decide +kernel
theorem dX6_turn_40 : decode cX6_turn 40 = .ok (.aload_n 0, 1) := by decide +kernel
theorem dX6_turn_41 : decode cX6_turn 41 = .ok (.getfield 84, 3) := by decide +kernel
theorem dX6_turn_44 : decode cX6_turn 44 = .ok (.invokestatic 91, 3) := by decide +kernel
theorem dX6_turn_47 : decode cX6_turn 47 = .ok (.aload_n 3, 1) := by decide +kernel
theorem dX6_turn_48 : decode cX6_turn 48 = .ok (.getfield 94, 3) := by decide +kernel
theorem dX6_turn_51 : decode cX6_turn 51 = .ok (.iconst (-1), 1) := by decide +kernel
theorem dX6_turn_52 : decode cX6_turn 52 = .ok (.ixor, 1) := by decide +kernel
theorem dX6_turn_53 : decode cX6_turn 53 = .ok (.iand, 1) := by decide +kernel
theorem dX6_turn_54 : decode cX6_turn 54 = .ok (.invokestatic 97, 3) := by decide +kernel
theorem dX6_turn_57 : decode cX6_turn 57 = .ok (.putfield 84, 3) := by decide +kernel
theorem dX6_turn_60 : decode cX6_turn 60 = .ok (.iload 4, 2) := by decide +kernel
theorem dX6_turn_62 : decode cX6_turn 62 = .ok (.ireturn, 1) := by decide +kernel
set_option maxRecDepth 20000 in
theorem ggX6_rank_X6_ruleAt : GoodIn wsX6_rank wsX6_ruleAt := goodIn_ca (goodIn_r _ [9, 10, 11, 4, 12, 13, 14, 15, 16, 17, 18, 39, 40, 41, 42, 43, 44, 45] (by decide +kernel) (by decide +kernel)) (goodIn_sub (fun _ h => List.mem_cons_of_mem _ (List.mem_append_right _ h)) (by decide +kernel))
set_option maxRecDepth 20000 in
theorem gX6_rank_X6_ruleAt : GoodIn wsX6_rank (wsV RX6 61 RX6 yX6_ruleAt wsX6_ruleAt) := goodIn_app (goodIn_of _ (by decide +kernel)) ggX6_rank_X6_ruleAt
set_option maxRecDepth 20000 in
theorem ggX6_rank_X4_isOver : GoodIn wsX6_rank wsX4_isOver := goodIn_r _ [23, 24, 25, 46, 47, 48, 49, 50, 51, 52, 53, 54, 55, 56] (by decide +kernel) (by decide +kernel)
set_option maxRecDepth 20000 in
theorem gX6_rank_X4_isOver : GoodIn wsX6_rank (wsV RX6 101 RX4 yX4_isOver wsX4_isOver) := goodIn_app (goodIn_of _ (by decide +kernel)) ggX6_rank_X4_isOver
set_option maxRecDepth 20000 in
theorem ggX6_rank_X1_forget : GoodIn wsX6_rank wsX1_forget := goodIn_r _ [30, 31, 57, 58, 59, 60, 61, 62, 63, 64, 65, 66, 67, 68] (by decide +kernel) (by decide +kernel)
set_option maxRecDepth 20000 in
theorem gX6_rank_X1_forget : GoodIn wsX6_rank (wsV RX6 50 RX1 yX1_forget wsX1_forget) := goodIn_app (goodIn_of _ (by decide +kernel)) ggX6_rank_X1_forget
set_option maxRecDepth 20000 in
theorem ggX6_rank_X5_order : GoodIn wsX6_rank wsX5_order := goodIn_r _ [35, 36, 37, 38, 18, 46, 47, 48, 49, 50, 51, 52, 53, 54, 55, 56, 43, 44, 45] (by decide +kernel) (by decide +kernel)
set_option maxRecDepth 20000 in
theorem gX6_rank_X5_order : GoodIn wsX6_rank (wsV RX6 110 RX5 yX5_order wsX5_order) := goodIn_app (goodIn_of _ (by decide +kernel)) ggX6_rank_X5_order
theorem dX6_rank_0 : decode cX6_rank 0 = .ok (.aload_n 0, 1) := by decide +kernel
theorem dX6_rank_1 : decode cX6_rank 1 = .ok (.iload_n 1, 1) := by decide +kernel
theorem dX6_rank_2 : decode cX6_rank 2 = .ok (.invokevirtual 61, 3) := by decide +kernel
theorem dX6_rank_5 : decode cX6_rank 5 = .ok (.astore_n 3, 1) := by decide +kernel
theorem dX6_rank_6 : decode cX6_rank 6 = .ok (.aload_n 0, 1) := by decide +kernel
theorem dX6_rank_7 : decode cX6_rank 7 = .ok (.iload_n 2, 1) := by decide +kernel
theorem dX6_rank_8 : decode cX6_rank 8 = .ok (.invokevirtual 61, 3) := by decide +kernel
theorem dX6_rank_11 : decode cX6_rank 11 = .ok (.astore 4, 2) := by decide +kernel
theorem dX6_rank_13 : decode cX6_rank 13 = .ok (.iload_n 1, 1) := by decide +kernel
theorem dX6_rank_14 : decode cX6_rank 14 = .ok (.iload_n 2, 1) := by decide +kernel
theorem dX6_rank_15 : decode cX6_rank 15 = .ok (.if_icmp .eq 12, 3) := by decide +kernel
theorem dX6_rank_18 : decode cX6_rank 18 = .ok (.aload 4, 2) := by decide +kernel
theorem dX6_rank_20 : decode cX6_rank 20 = .ok (.aload_n 3, 1) := by decide +kernel
theorem dX6_rank_21 : decode cX6_rank 21 = .ok (.invokevirtual 101, 3) := by decide +kernel
theorem dX6_rank_24 : decode cX6_rank 24 = .ok (.ifCond .eq 13, 3) := by decide +kernel
theorem dX6_rank_27 : decode cX6_rank 27 = .ok (.new 105, 3) := by decide +kernel
theorem dX6_rank_30 : decode cX6_rank 30 = .ok (.dup, 1) := by decide +kernel
theorem dX6_rank_31 : decode cX6_rank 31 = .ok (.ldc 107, 2) := by decide +kernel
theorem dX6_rank_33 : decode cX6_rank 33 = .ok (.invokespecial 109, 3) := by decide +kernel
theorem dX6_rank_36 : decode cX6_rank 36 = .ok (.athrow, 1) := by decide +kernel
theorem dX6_rank_37 : decode cX6_rank 37 = .ok (.aload_n 3, 1) := by decide +kernel
theorem dX6_rank_38 : decode cX6_rank 38 = .ok (.aload 4, 2) := by decide +kernel
theorem dX6_rank_40 : decode cX6_rank 40 = .ok (.invokevirtual 101, 3) := by decide +kernel
theorem dX6_rank_43 : decode cX6_rank 43 = .ok (.ifCond .ne 7, 3) := by decide +kernel
theorem dX6_rank_46 : decode cX6_rank 46 = .ok (.iconst 1, 1) := by decide +kernel
theorem dX6_rank_47 : decode cX6_rank 47 = .ok (.goto 4, 3) := by decide +kernel
theorem dX6_rank_50 : decode cX6_rank 50 = .ok (.iconst 0, 1) := by decide +kernel
theorem dX6_rank_51 : decode cX6_rank 51 = .ok (.istore 5, 2) := by decide +kernel
theorem dX6_rank_53 : decode cX6_rank 53 = .ok (.aload_n 0, 1) := by decide +kernel
theorem dX6_rank_54 : decode cX6_rank 54 = .ok (.getfield 28, 3) := by decide +kernel
theorem dX6_rank_57 : decode cX6_rank 57 = .ok (.invokevirtual 50, 3) := by decide +kernel
theorem dX6_rank_60 : decode cX6_rank 60 = .ok (.aload_n 0, 1) := by decide +kernel
theorem dX6_rank_61 : decode cX6_rank 61 = .ok (.getfield 10, 3) := by decide +kernel
theorem dX6_rank_64 : decode cX6_rank 64 = .ok (.aload_n 3, 1) := by decide +kernel
theorem dX6_rank_65 : decode cX6_rank 65 = .ok (.aload 4, 2) := by decide +kernel
theorem dX6_rank_67 : decode cX6_rank 67 = .ok (.invokevirtual 110, 3) := by decide +kernel
theorem dX6_rank_70 : decode cX6_rank 70 = .ok (.iload 5, 2) := by decide +kernel
theorem dX6_rank_72 : decode cX6_rank 72 = .ok (.ireturn, 1) := by decide +kernel
set_option maxRecDepth 20000 in
theorem ggX6_isAbove_X6_ruleAt : GoodIn wsX6_isAbove wsX6_ruleAt := goodIn_ca (goodIn_r _ [5, 6, 7, 8, 9, 10, 11, 12, 13, 14, 15, 23, 24, 25, 26, 27, 28, 29] (by decide +kernel) (by decide +kernel)) (goodIn_sub (fun _ h => List.mem_cons_of_mem _ (List.mem_append_right _ h)) (by decide +kernel))
set_option maxRecDepth 20000 in
theorem gX6_isAbove_X6_ruleAt : GoodIn wsX6_isAbove (wsV RX6 61 RX6 yX6_ruleAt wsX6_ruleAt) := goodIn_app (goodIn_of _ (by decide +kernel)) ggX6_isAbove_X6_ruleAt
set_option maxRecDepth 20000 in
theorem ggX6_isAbove_X4_isOver : GoodIn wsX6_isAbove wsX4_isOver := goodIn_r _ [20, 21, 22, 30, 31, 32, 33, 34, 35, 36, 37, 38, 39, 40] (by decide +kernel) (by decide +kernel)
set_option maxRecDepth 20000 in
theorem gX6_isAbove_X4_isOver : GoodIn wsX6_isAbove (wsV RX6 101 RX4 yX4_isOver wsX4_isOver) := goodIn_app (goodIn_of _ (by decide +kernel)) ggX6_isAbove_X4_isOver
theorem dX6_isAbove_0 : decode cX6_isAbove 0 = .ok (.aload_n 0, 1) := by decide +kernel
theorem dX6_isAbove_1 : decode cX6_isAbove 1 = .ok (.iload_n 1, 1) := by decide +kernel
theorem dX6_isAbove_2 : decode cX6_isAbove 2 = .ok (.invokevirtual 61, 3) := by decide +kernel
theorem dX6_isAbove_5 : decode cX6_isAbove 5 = .ok (.astore_n 3, 1) := by decide +kernel
theorem dX6_isAbove_6 : decode cX6_isAbove 6 = .ok (.aload_n 0, 1) := by decide +kernel
theorem dX6_isAbove_7 : decode cX6_isAbove 7 = .ok (.iload_n 2, 1) := by decide +kernel
theorem dX6_isAbove_8 : decode cX6_isAbove 8 = .ok (.invokevirtual 61, 3) := by decide +kernel
theorem dX6_isAbove_11 : decode cX6_isAbove 11 = .ok (.astore 4, 2) := by decide +kernel
theorem dX6_isAbove_13 : decode cX6_isAbove 13 = .ok (.aload_n 3, 1) := by decide +kernel
theorem dX6_isAbove_14 : decode cX6_isAbove 14 = .ok (.aload 4, 2) := by decide +kernel
theorem dX6_isAbove_16 : decode cX6_isAbove 16 = .ok (.invokevirtual 101, 3) := by decide +kernel
theorem dX6_isAbove_19 : decode cX6_isAbove 19 = .ok (.ireturn, 1) := by decide +kernel
set_option maxRecDepth 20000 in
theorem ggX6_ruleCount_X5_size : GoodIn wsX6_ruleCount wsX5_size := goodIn_r _ [6, 7, 12, 13, 14] (by decide +kernel) (by decide +kernel)
set_option maxRecDepth 20000 in
theorem gX6_ruleCount_X5_size : GoodIn wsX6_ruleCount (wsV RX6 114 RX5 yX5_size wsX5_size) := goodIn_app (goodIn_of _ (by decide +kernel)) ggX6_ruleCount_X5_size
theorem dX6_ruleCount_0 : decode cX6_ruleCount 0 = .ok (.aload_n 0, 1) := by decide +kernel
theorem dX6_ruleCount_1 : decode cX6_ruleCount 1 = .ok (.getfield 10, 3) := by decide +kernel
theorem dX6_ruleCount_4 : decode cX6_ruleCount 4 = .ok (.invokevirtual 114, 3) := by decide +kernel
theorem dX6_ruleCount_7 : decode cX6_ruleCount 7 = .ok (.ireturn, 1) := by decide +kernel
set_option maxRecDepth 20000 in
theorem ggX6_put_X6_needFactSet : GoodIn wsX6_put wsX6_needFactSet := goodIn_ca (goodIn_r _ [6, 7, 8] (by decide +kernel) (by decide +kernel)) (goodIn_sub (fun _ h => List.mem_cons_of_mem _ (List.mem_append_right _ h)) (by decide +kernel))
set_option maxRecDepth 20000 in
theorem gX6_put_X6_needFactSet : GoodIn wsX6_put (va_wsS RX6 36 yX6_needFactSet wsX6_needFactSet) := goodIn_app (goodIn_of _ (by decide +kernel)) ggX6_put_X6_needFactSet
set_option maxRecDepth 20000 in
theorem ggX6_put_X6_factsIn : GoodIn wsX6_put wsX6_factsIn := goodIn_r _ [11] (by decide +kernel) (by decide +kernel)
set_option maxRecDepth 20000 in
theorem gX6_put_X6_factsIn : GoodIn wsX6_put (va_wsS RX6 87 yX6_factsIn wsX6_factsIn) := goodIn_app (goodIn_of _ (by decide +kernel)) ggX6_put_X6_factsIn
set_option maxRecDepth 20000 in
theorem ggX6_put_X1_forget : GoodIn wsX6_put wsX1_forget := goodIn_r _ [16, 17, 25, 26, 27, 28, 29, 30, 31, 32, 33, 34, 35, 36] (by decide +kernel) (by decide +kernel)
set_option maxRecDepth 20000 in
theorem gX6_put_X1_forget : GoodIn wsX6_put (wsV RX6 50 RX1 yX1_forget wsX1_forget) := goodIn_app (goodIn_of _ (by decide +kernel)) ggX6_put_X1_forget
set_option maxRecDepth 20000 in
theorem ggX6_put_X6_situationOf : GoodIn wsX6_put wsX6_situationOf := goodIn_r _ [20] (by decide +kernel) (by decide +kernel)
set_option maxRecDepth 20000 in
theorem gX6_put_X6_situationOf : GoodIn wsX6_put (va_wsS RX6 97 yX6_situationOf wsX6_situationOf) := goodIn_app (goodIn_of _ (by decide +kernel)) ggX6_put_X6_situationOf
theorem dX6_put_0 : decode cX6_put 0 = .ok (.iload_n 1, 1) := by decide +kernel
theorem dX6_put_1 : decode cX6_put 1 = .ok (.invokestatic 36, 3) := by decide +kernel
theorem dX6_put_4 : decode cX6_put 4 = .ok (.aload_n 0, 1) := by decide +kernel
theorem dX6_put_5 : decode cX6_put 5 = .ok (.getfield 84, 3) := by decide +kernel
theorem dX6_put_8 : decode cX6_put 8 = .ok (.invokestatic 87, 3) := by decide +kernel
theorem dX6_put_11 : decode cX6_put 11 = .ok (.istore_n 2, 1) := by decide +kernel
theorem dX6_put_12 : decode cX6_put 12 = .ok (.aload_n 0, 1) := by decide +kernel
theorem dX6_put_13 : decode cX6_put 13 = .ok (.getfield 28, 3) := by decide +kernel
theorem dX6_put_16 : decode cX6_put 16 = .ok (.invokevirtual 50, 3) := by decide +kernel
theorem dX6_put_19 : decode cX6_put 19 = .ok (.aload_n 0, 1) := by decide +kernel
theorem dX6_put_20 : decode cX6_put 20 = .ok (.iload_n 1, 1) := by decide +kernel
theorem dX6_put_21 : decode cX6_put 21 = .ok (.iconst 0, 1) := by decide +kernel
theorem dX6_put_22 : decode cX6_put 22 = .ok (.invokestatic 97, 3) := by decide +kernel
theorem dX6_put_25 : decode cX6_put 25 = .ok (.putfield 84, 3) := by decide +kernel
theorem dX6_put_28 : decode cX6_put 28 = .ok (.iload_n 2, 1) := by decide +kernel
theorem dX6_put_29 : decode cX6_put 29 = .ok (.ireturn, 1) := by decide +kernel
set_option maxRecDepth 20000 in
theorem ggX6_change_X6_needFact : GoodIn wsX6_change wsX6_needFact := goodIn_ca (goodIn_r _ [7, 8, 9] (by decide +kernel) (by decide +kernel)) (goodIn_sub (fun _ h => List.mem_cons_of_mem _ (List.mem_append_right _ h)) (by decide +kernel))
set_option maxRecDepth 20000 in
theorem gX6_change_X6_needFact : GoodIn wsX6_change (va_wsS RX6 32 yX6_needFact wsX6_needFact) := goodIn_app (goodIn_of _ (by decide +kernel)) ggX6_change_X6_needFact
set_option maxRecDepth 20000 in
theorem ggX6_change_X1_forget : GoodIn wsX6_change wsX1_forget := goodIn_r _ [14, 15, 40, 41, 42, 43, 44, 45, 46, 47, 48, 49, 50, 51] (by decide +kernel) (by decide +kernel)
set_option maxRecDepth 20000 in
theorem gX6_change_X1_forget : GoodIn wsX6_change (wsV RX6 50 RX1 yX1_forget wsX1_forget) := goodIn_app (goodIn_of _ (by decide +kernel)) ggX6_change_X1_forget
set_option maxRecDepth 20000 in
theorem ggX6_change_X6_changeCode : GoodIn wsX6_change wsX6_changeCode := goodIn_r _ [18] (by decide +kernel) (by decide +kernel)
set_option maxRecDepth 20000 in
theorem gX6_change_X6_changeCode : GoodIn wsX6_change (va_wsS RX6 53 yX6_changeCode wsX6_changeCode) := goodIn_app (goodIn_of _ (by decide +kernel)) ggX6_change_X6_changeCode
set_option maxRecDepth 20000 in
theorem ggX6_change_X5_changed : GoodIn wsX6_change wsX5_changed := goodIn_r _ [23, 24, 6, 25, 26, 27, 28, 22, 29, 30, 31, 32, 33, 34, 52, 53, 54] (by decide +kernel) (by decide +kernel)
set_option maxRecDepth 20000 in
theorem gX6_change_X5_changed : GoodIn wsX6_change (wsV RX6 118 RX5 yX5_changed wsX5_changed) := goodIn_app (goodIn_of _ (by decide +kernel)) ggX6_change_X5_changed
set_option maxRecDepth 20000 in
theorem ggX6_change_X6_triggeredIn : GoodIn wsX6_change wsX6_triggeredIn := goodIn_r _ [25] (by decide +kernel) (by decide +kernel)
set_option maxRecDepth 20000 in
theorem gX6_change_X6_triggeredIn : GoodIn wsX6_change (va_wsS RX6 91 yX6_triggeredIn wsX6_triggeredIn) := goodIn_app (goodIn_of _ (by decide +kernel)) ggX6_change_X6_triggeredIn
theorem dX6_change_0 : decode cX6_change 0 = .ok (.iload_n 1, 1) := by decide +kernel
theorem dX6_change_1 : decode cX6_change 1 = .ok (.invokestatic 32, 3) := by decide +kernel
theorem dX6_change_4 : decode cX6_change 4 = .ok (.aload_n 0, 1) := by decide +kernel
theorem dX6_change_5 : decode cX6_change 5 = .ok (.getfield 28, 3) := by decide +kernel
theorem dX6_change_8 : decode cX6_change 8 = .ok (.invokevirtual 50, 3) := by decide +kernel
theorem dX6_change_11 : decode cX6_change 11 = .ok (.aload_n 0, 1) := by decide +kernel
theorem dX6_change_12 : decode cX6_change 12 = .ok (.aload_n 0, 1) := by decide +kernel
theorem dX6_change_13 : decode cX6_change 13 = .ok (.getfield 10, 3) := by decide +kernel
theorem dX6_change_16 : decode cX6_change 16 = .ok (.aload_n 0, 1) := by decide +kernel
theorem dX6_change_17 : decode cX6_change 17 = .ok (.getfield 84, 3) := by decide +kernel
theorem dX6_change_20 : decode cX6_change 20 = .ok (.iload_n 1, 1) := by decide +kernel
theorem dX6_change_21 : decode cX6_change 21 = .ok (.iload_n 2, 1) := by decide +kernel
theorem dX6_change_22 : decode cX6_change 22 = .ok (.invokestatic 53, 3) := by decide +kernel
theorem dX6_change_25 : decode cX6_change 25 = .ok (.invokevirtual 118, 3) := by decide +kernel
theorem dX6_change_28 : decode cX6_change 28 = .ok (.putfield 84, 3) := by decide +kernel
theorem dX6_change_31 : decode cX6_change 31 = .ok (.aload_n 0, 1) := by decide +kernel
theorem dX6_change_32 : decode cX6_change 32 = .ok (.getfield 84, 3) := by decide +kernel
theorem dX6_change_35 : decode cX6_change 35 = .ok (.invokestatic 91, 3) := by decide +kernel
theorem dX6_change_38 : decode cX6_change 38 = .ok (.ireturn, 1) := by decide +kernel
set_option maxRecDepth 20000 in
theorem ggX6_facts_X6_factsIn : GoodIn wsX6_facts wsX6_factsIn := goodIn_r _ [5] (by decide +kernel) (by decide +kernel)
set_option maxRecDepth 20000 in
theorem gX6_facts_X6_factsIn : GoodIn wsX6_facts (va_wsS RX6 87 yX6_factsIn wsX6_factsIn) := goodIn_app (goodIn_of _ (by decide +kernel)) ggX6_facts_X6_factsIn
theorem dX6_facts_0 : decode cX6_facts 0 = .ok (.aload_n 0, 1) := by decide +kernel
theorem dX6_facts_1 : decode cX6_facts 1 = .ok (.getfield 84, 3) := by decide +kernel
theorem dX6_facts_4 : decode cX6_facts 4 = .ok (.invokestatic 87, 3) := by decide +kernel
theorem dX6_facts_7 : decode cX6_facts 7 = .ok (.ireturn, 1) := by decide +kernel
set_option maxRecDepth 20000 in
theorem ggX6_triggered_X6_triggeredIn : GoodIn wsX6_triggered wsX6_triggeredIn := goodIn_r _ [5] (by decide +kernel) (by decide +kernel)
set_option maxRecDepth 20000 in
theorem gX6_triggered_X6_triggeredIn : GoodIn wsX6_triggered (va_wsS RX6 91 yX6_triggeredIn wsX6_triggeredIn) := goodIn_app (goodIn_of _ (by decide +kernel)) ggX6_triggered_X6_triggeredIn
theorem dX6_triggered_0 : decode cX6_triggered 0 = .ok (.aload_n 0, 1) := by decide +kernel
theorem dX6_triggered_1 : decode cX6_triggered 1 = .ok (.getfield 84, 3) := by decide +kernel
theorem dX6_triggered_4 : decode cX6_triggered 4 = .ok (.invokestatic 91, 3) := by decide +kernel
theorem dX6_triggered_7 : decode cX6_triggered 7 = .ok (.ireturn, 1) := by decide +kernel
set_option maxRecDepth 20000 in
theorem ggX6_ready_X5_readyIn : GoodIn wsX6_ready wsX5_readyIn := goodIn_r _ [7, 8, 9, 10, 11, 12, 13, 14, 15, 16, 17, 18, 19, 24, 25, 26, 27, 28, 29, 30, 31, 32, 33, 34, 35, 36, 37] (by decide +kernel) (by decide +kernel)
set_option maxRecDepth 20000 in
theorem gX6_ready_X5_readyIn : GoodIn wsX6_ready (wsV RX6 121 RX5 yX5_readyIn wsX5_readyIn) := goodIn_app (goodIn_of _ (by decide +kernel)) ggX6_ready_X5_readyIn
theorem dX6_ready_0 : decode cX6_ready 0 = .ok (.aload_n 0, 1) := by decide +kernel
theorem dX6_ready_1 : decode cX6_ready 1 = .ok (.getfield 10, 3) := by decide +kernel
theorem dX6_ready_4 : decode cX6_ready 4 = .ok (.aload_n 0, 1) := by decide +kernel
theorem dX6_ready_5 : decode cX6_ready 5 = .ok (.getfield 84, 3) := by decide +kernel
theorem dX6_ready_8 : decode cX6_ready 8 = .ok (.invokevirtual 121, 3) := by decide +kernel
theorem dX6_ready_11 : decode cX6_ready 11 = .ok (.ireturn, 1) := by decide +kernel
set_option maxRecDepth 20000 in
theorem ggX6_play_X6_ruleAt : GoodIn wsX6_play wsX6_ruleAt := goodIn_ca (goodIn_r _ [10, 11, 12, 5, 13, 14, 15, 16, 17, 18, 19, 66, 67, 68, 69, 70, 71, 72] (by decide +kernel) (by decide +kernel)) (goodIn_sub (fun _ h => List.mem_cons_of_mem _ (List.mem_append_right _ h)) (by decide +kernel))
set_option maxRecDepth 20000 in
theorem gX6_play_X6_ruleAt : GoodIn wsX6_play (wsV RX6 61 RX6 yX6_ruleAt wsX6_ruleAt) := goodIn_app (goodIn_of _ (by decide +kernel)) ggX6_play_X6_ruleAt
set_option maxRecDepth 20000 in
theorem ggX6_play_X4_isReadyIn : GoodIn wsX6_play wsX4_isReadyIn := goodIn_r _ [24, 25, 26, 27, 9, 28, 73, 74, 75, 76, 77, 78, 79, 80, 81, 82, 83] (by decide +kernel) (by decide +kernel)
set_option maxRecDepth 20000 in
theorem gX6_play_X4_isReadyIn : GoodIn wsX6_play (wsV RX6 124 RX4 yX4_isReadyIn wsX4_isReadyIn) := goodIn_app (goodIn_of _ (by decide +kernel)) ggX6_play_X4_isReadyIn
set_option maxRecDepth 20000 in
theorem ggX6_play_X4_holdsIn : GoodIn wsX6_play wsX4_holdsIn := goodIn_r _ [32, 33, 34, 35, 9, 36, 73, 74, 75, 76, 77, 78, 79, 80, 81, 82, 83] (by decide +kernel) (by decide +kernel)
set_option maxRecDepth 20000 in
theorem gX6_play_X4_holdsIn : GoodIn wsX6_play (wsV RX6 130 RX4 yX4_holdsIn wsX4_holdsIn) := goodIn_app (goodIn_of _ (by decide +kernel)) ggX6_play_X4_holdsIn
set_option maxRecDepth 20000 in
theorem ggX6_play_X1_forget : GoodIn wsX6_play wsX1_forget := goodIn_r _ [41, 42, 84, 85, 86, 87, 88, 89, 90, 91, 92, 93, 94, 95] (by decide +kernel) (by decide +kernel)
set_option maxRecDepth 20000 in
theorem gX6_play_X1_forget : GoodIn wsX6_play (wsV RX6 50 RX1 yX1_forget wsX1_forget) := goodIn_app (goodIn_of _ (by decide +kernel)) ggX6_play_X1_forget
set_option maxRecDepth 20000 in
theorem ggX6_play_X5_played : GoodIn wsX6_play wsX5_played := goodIn_r _ [46, 47, 48, 35, 9, 36, 27, 28, 49, 50, 51, 30, 31, 23, 32, 33, 34, 52, 53, 54, 55, 56, 57, 58, 59, 16, 60, 61, 62, 63, 64, 65, 73, 74, 75, 76, 77, 78, 79, 80, 81, 82, 83, 70, 71, 72] (by decide +kernel) (by decide +kernel)
set_option maxRecDepth 20000 in
theorem gX6_play_X5_played : GoodIn wsX6_play (wsV RX6 133 RX5 yX5_played wsX5_played) := goodIn_app (goodIn_of _ (by decide +kernel)) ggX6_play_X5_played
theorem dX6_play_0 : decode cX6_play 0 = .ok (.aload_n 0, 1) := by decide +kernel
theorem dX6_play_1 : decode cX6_play 1 = .ok (.iload_n 1, 1) := by decide +kernel
theorem dX6_play_2 : decode cX6_play 2 = .ok (.invokevirtual 61, 3) := by decide +kernel
theorem dX6_play_5 : decode cX6_play 5 = .ok (.astore_n 2, 1) := by decide +kernel
theorem dX6_play_6 : decode cX6_play 6 = .ok (.aload_n 2, 1) := by decide +kernel
theorem dX6_play_7 : decode cX6_play 7 = .ok (.aload_n 0, 1) := by decide +kernel
theorem dX6_play_8 : decode cX6_play 8 = .ok (.getfield 84, 3) := by decide +kernel
theorem dX6_play_11 : decode cX6_play 11 = .ok (.invokevirtual 124, 3) := by decide +kernel
theorem dX6_play_14 : decode cX6_play 14 = .ok (.ifCond .ne 13, 3) := by decide +kernel
theorem dX6_play_17 : decode cX6_play 17 = .ok (.new 43, 3) := by decide +kernel
theorem dX6_play_20 : decode cX6_play 20 = .ok (.dup, 1) := by decide +kernel
theorem dX6_play_21 : decode cX6_play 21 = .ok (.ldc 128, 2) := by decide +kernel
theorem dX6_play_23 : decode cX6_play 23 = .ok (.invokespecial 47, 3) := by decide +kernel
theorem dX6_play_26 : decode cX6_play 26 = .ok (.athrow, 1) := by decide +kernel
theorem dX6_play_27 : decode cX6_play 27 = .ok (.aload_n 2, 1) := by decide +kernel
theorem dX6_play_28 : decode cX6_play 28 = .ok (.aload_n 0, 1) := by decide +kernel
theorem dX6_play_29 : decode cX6_play 29 = .ok (.getfield 84, 3) := by decide +kernel
theorem dX6_play_32 : decode cX6_play 32 = .ok (.invokevirtual 130, 3) := by decide +kernel
theorem dX6_play_35 : decode cX6_play 35 = .ok (.istore_n 3, 1) := by decide +kernel
theorem dX6_play_36 : decode cX6_play 36 = .ok (.aload_n 0, 1) := by decide +kernel
theorem dX6_play_37 : decode cX6_play 37 = .ok (.getfield 28, 3) := by decide +kernel
theorem dX6_play_40 : decode cX6_play 40 = .ok (.invokevirtual 50, 3) := by decide +kernel
theorem dX6_play_43 : decode cX6_play 43 = .ok (.aload_n 0, 1) := by decide +kernel
theorem dX6_play_44 : decode cX6_play 44 = .ok (.aload_n 0, 1) := by decide +kernel
theorem dX6_play_45 : decode cX6_play 45 = .ok (.getfield 10, 3) := by decide +kernel
theorem dX6_play_48 : decode cX6_play 48 = .ok (.aload_n 0, 1) := by decide +kernel
theorem dX6_play_49 : decode cX6_play 49 = .ok (.getfield 84, 3) := by decide +kernel
theorem dX6_play_52 : decode cX6_play 52 = .ok (.aload_n 2, 1) := by decide +kernel
theorem dX6_play_53 : decode cX6_play 53 = .ok (.invokevirtual 133, 3) := by decide +kernel
theorem dX6_play_56 : decode cX6_play 56 = .ok (.putfield 84, 3) := by decide +kernel
theorem dX6_play_59 : decode cX6_play 59 = .ok (.iload_n 3, 1) := by decide +kernel
theorem dX6_play_60 : decode cX6_play 60 = .ok (.ireturn, 1) := by decide +kernel
set_option maxRecDepth 20000 in
theorem ggX6_run_X1_forget : GoodIn wsX6_run wsX1_forget := goodIn_r _ [10, 11, 62, 63, 64, 65, 66, 67, 68, 69, 70, 71, 72, 73] (by decide +kernel) (by decide +kernel)
set_option maxRecDepth 20000 in
theorem gX6_run_X1_forget : GoodIn wsX6_run (wsV RX6 50 RX1 yX1_forget wsX1_forget) := goodIn_app (goodIn_of _ (by decide +kernel)) ggX6_run_X1_forget
set_option maxRecDepth 20000 in
theorem ggX6_run_X5_firstReadyIn : GoodIn wsX6_run wsX5_firstReadyIn := goodIn_r _ [16, 17, 18, 19, 20, 21, 22, 23, 24, 25, 26, 27, 74, 75, 76, 77, 78, 79, 80, 81, 82, 83, 84, 85, 86, 87] (by decide +kernel) (by decide +kernel)
set_option maxRecDepth 20000 in
theorem gX6_run_X5_firstReadyIn : GoodIn wsX6_run (wsV RX6 139 RX5 yX5_firstReadyIn wsX5_firstReadyIn) := goodIn_app (goodIn_of _ (by decide +kernel)) ggX6_run_X5_firstReadyIn
set_option maxRecDepth 20000 in
theorem ggX6_run_X5_played : GoodIn wsX6_run wsX5_played := goodIn_r _ [31, 32, 33, 34, 26, 35, 25, 27, 36, 37, 38, 39, 40, 21, 41, 42, 43, 44, 45, 46, 47, 48, 49, 50, 51, 15, 52, 53, 54, 55, 56, 57, 77, 78, 79, 80, 81, 82, 83, 84, 85, 86, 87, 74, 75, 76] (by decide +kernel) (by decide +kernel)
set_option maxRecDepth 20000 in
theorem gX6_run_X5_played : GoodIn wsX6_run (wsV RX6 133 RX5 yX5_played wsX5_played) := goodIn_app (goodIn_of _ (by decide +kernel)) ggX6_run_X5_played
theorem dX6_run_0 : decode cX6_run 0 = .ok (.iload_n 1, 1) := by decide +kernel
theorem dX6_run_1 : decode cX6_run 1 = .ok (.ifCond .lt 10, 3) := by decide +kernel
theorem dX6_run_4 : decode cX6_run 4 = .ok (.iload_n 1, 1) := by decide +kernel
theorem dX6_run_5 : decode cX6_run 5 = .ok (.sipush 500, 3) := by decide +kernel
theorem dX6_run_8 : decode cX6_run 8 = .ok (.if_icmp .le 13, 3) := by decide +kernel
theorem dX6_run_11 : decode cX6_run 11 = .ok (.new 105, 3) := by decide +kernel
theorem dX6_run_14 : decode cX6_run 14 = .ok (.dup, 1) := by decide +kernel
theorem dX6_run_15 : decode cX6_run 15 = .ok (.ldc 137, 2) := by decide +kernel
theorem dX6_run_17 : decode cX6_run 17 = .ok (.invokespecial 109, 3) := by decide +kernel
theorem dX6_run_20 : decode cX6_run 20 = .ok (.athrow, 1) := by decide +kernel
theorem dX6_run_21 : decode cX6_run 21 = .ok (.aload_n 0, 1) := by decide +kernel
theorem dX6_run_22 : decode cX6_run 22 = .ok (.getfield 28, 3) := by decide +kernel
theorem dX6_run_25 : decode cX6_run 25 = .ok (.invokevirtual 50, 3) := by decide +kernel
theorem dX6_run_28 : decode cX6_run 28 = .ok (.iconst 0, 1) := by decide +kernel
theorem dX6_run_29 : decode cX6_run 29 = .ok (.istore_n 2, 1) := by decide +kernel
theorem dX6_run_30 : decode cX6_run 30 = .ok (.iload_n 2, 1) := by decide +kernel
theorem dX6_run_31 : decode cX6_run 31 = .ok (.iload_n 1, 1) := by decide +kernel
theorem dX6_run_32 : decode cX6_run 32 = .ok (.if_icmp .ge 43, 3) := by decide +kernel
theorem dX6_run_35 : decode cX6_run 35 = .ok (.aload_n 0, 1) := by decide +kernel
theorem dX6_run_36 : decode cX6_run 36 = .ok (.getfield 10, 3) := by decide +kernel
theorem dX6_run_39 : decode cX6_run 39 = .ok (.aload_n 0, 1) := by decide +kernel
theorem dX6_run_40 : decode cX6_run 40 = .ok (.getfield 84, 3) := by decide +kernel
theorem dX6_run_43 : decode cX6_run 43 = .ok (.invokevirtual 139, 3) := by decide +kernel
theorem dX6_run_46 : decode cX6_run 46 = .ok (.astore_n 3, 1) := by decide +kernel
theorem dX6_run_47 : decode cX6_run 47 = .ok (.aload_n 3, 1) := by decide +kernel
theorem dX6_run_48 : decode cX6_run 48 = .ok (.ifnonnull 5, 3) := by decide +kernel
theorem dX6_run_51 : decode cX6_run 51 = .ok (.iload_n 2, 1) := by decide +kernel
theorem dX6_run_52 : decode cX6_run 52 = .ok (.ireturn, 1) := by decide +kernel
theorem dX6_run_53 : decode cX6_run 53 = .ok (.aload_n 0, 1) := by decide +kernel
theorem dX6_run_54 : decode cX6_run 54 = .ok (.aload_n 0, 1) := by decide +kernel
theorem dX6_run_55 : decode cX6_run 55 = .ok (.getfield 10, 3) := by decide +kernel
theorem dX6_run_58 : decode cX6_run 58 = .ok (.aload_n 0, 1) := by decide +kernel
theorem dX6_run_59 : decode cX6_run 59 = .ok (.getfield 84, 3) := by decide +kernel
theorem dX6_run_62 : decode cX6_run 62 = .ok (.aload_n 3, 1) := by decide +kernel
theorem dX6_run_63 : decode cX6_run 63 = .ok (.invokevirtual 133, 3) := by decide +kernel
theorem dX6_run_66 : decode cX6_run 66 = .ok (.putfield 84, 3) := by decide +kernel
theorem dX6_run_69 : decode cX6_run 69 = .ok (.iinc 2 1, 3) := by decide +kernel
theorem dX6_run_72 : decode cX6_run 72 = .ok (.goto (-42), 3) := by decide +kernel
theorem dX6_run_75 : decode cX6_run 75 = .ok (.iload_n 1, 1) := by decide +kernel
theorem dX6_run_76 : decode cX6_run 76 = .ok (.ireturn, 1) := by decide +kernel
set_option maxRecDepth 20000 in
theorem ggX6_explore_X1_isDone : GoodIn wsX6_explore wsX1_isDone := goodIn_r _ [7, 8, 168, 169, 170, 171, 172, 173, 174, 175, 176, 177, 178, 179] (by decide +kernel) (by decide +kernel)
set_option maxRecDepth 20000 in
theorem gX6_explore_X1_isDone : GoodIn wsX6_explore (wsV RX6 142 RX1 yX1_isDone wsX1_isDone) := goodIn_app (goodIn_of _ (by decide +kernel)) ggX6_explore_X1_isDone
set_option maxRecDepth 20000 in
theorem ggX6_explore_X1_search : GoodIn wsX6_explore wsX1_search := goodIn_r _ [12, 13, 14, 15, 8, 16, 17, 18, 6, 19, 20, 21, 22, 23, 24, 25, 26, 27, 28, 29, 30, 31, 32, 33, 34, 35, 36, 37, 38, 39, 40, 41, 42, 43, 44, 45, 46, 47, 48, 49, 50, 51, 52, 53, 54, 55, 56, 57, 58, 59, 60, 61, 62, 63, 64, 65, 66, 67, 68, 69, 70, 71, 72, 73, 74, 75, 76, 77, 78, 79, 80, 81, 82, 83, 84, 85, 86, 87, 88, 89, 90, 91, 92, 93, 94, 95, 96, 97, 98, 99, 100, 101, 102, 103, 104, 105, 106, 107, 108, 109, 110, 111, 112, 113, 114, 115, 116, 117, 118, 119, 120, 121, 122, 123, 124, 125, 126, 127, 128, 129, 130, 131, 132, 133, 134, 135, 136, 137, 138, 139, 140, 141, 142, 143, 144, 145, 146, 147, 148, 149, 150, 151, 152, 153, 154, 155, 156, 157, 158, 159, 168, 169, 170, 171, 172, 173, 174, 175, 176, 177, 178, 179, 180, 181, 182, 183, 184, 185, 186, 187, 188, 189, 190, 191, 192, 193, 194, 195, 196, 197, 198, 199, 200, 201, 202, 203, 204] (by decide +kernel) (by decide +kernel)
set_option maxRecDepth 20000 in
theorem gX6_explore_X1_search : GoodIn wsX6_explore (wsV RX6 145 RX1 yX1_search wsX1_search) := goodIn_app (goodIn_of _ (by decide +kernel)) ggX6_explore_X1_search
set_option maxRecDepth 20000 in
theorem ggX6_explore_X1_answer : GoodIn wsX6_explore wsX1_answer := goodIn_r _ [163, 14, 13, 168, 169, 170, 171, 172, 173, 174, 175, 176, 177, 178, 179] (by decide +kernel) (by decide +kernel)
set_option maxRecDepth 20000 in
theorem gX6_explore_X1_answer : GoodIn wsX6_explore (wsV RX6 148 RX1 yX1_answer wsX1_answer) := goodIn_app (goodIn_of _ (by decide +kernel)) ggX6_explore_X1_answer
theorem dX6_explore_0 : decode cX6_explore 0 = .ok (.aload_n 0, 1) := by decide +kernel
theorem dX6_explore_1 : decode cX6_explore 1 = .ok (.getfield 28, 3) := by decide +kernel
theorem dX6_explore_4 : decode cX6_explore 4 = .ok (.invokevirtual 142, 3) := by decide +kernel
theorem dX6_explore_7 : decode cX6_explore 7 = .ok (.ifCond .ne 14, 3) := by decide +kernel
theorem dX6_explore_10 : decode cX6_explore 10 = .ok (.aload_n 0, 1) := by decide +kernel
theorem dX6_explore_11 : decode cX6_explore 11 = .ok (.getfield 28, 3) := by decide +kernel
theorem dX6_explore_14 : decode cX6_explore 14 = .ok (.aload_n 0, 1) := by decide +kernel
theorem dX6_explore_15 : decode cX6_explore 15 = .ok (.getfield 84, 3) := by decide +kernel
theorem dX6_explore_18 : decode cX6_explore 18 = .ok (.invokevirtual 145, 3) := by decide +kernel
theorem dX6_explore_21 : decode cX6_explore 21 = .ok (.aload_n 0, 1) := by decide +kernel
theorem dX6_explore_22 : decode cX6_explore 22 = .ok (.getfield 28, 3) := by decide +kernel
end
section
theorem dX6_explore_25 : decode cX6_explore 25 = .ok (.invokevirtual 148, 3) := by decide +kernel
theorem dX6_explore_28 : decode cX6_explore 28 = .ok (.ireturn, 1) := by decide +kernel
set_option maxRecDepth 20000 in
theorem ggX6_factsOf_X6_exploredAt : GoodIn wsX6_factsOf wsX6_exploredAt := goodIn_ca (goodIn_ca (goodIn_r _ [5, 6, 7, 8, 9, 10, 11, 4, 12, 13, 14, 15, 16, 17, 18, 19, 20, 21, 22, 23, 24, 25, 26, 27, 31, 32, 33, 34, 35, 36, 37, 38, 39, 40, 41, 42, 43, 44, 45, 46] (by decide +kernel) (by decide +kernel)) (goodIn_sub (fun _ h => List.mem_cons_of_mem _ (List.mem_append_left _ (List.mem_append_right _ h))) (by decide +kernel))) (goodIn_sub (fun _ h => List.mem_cons_of_mem _ (List.mem_append_right _ h)) (by decide +kernel))
set_option maxRecDepth 20000 in
theorem gX6_factsOf_X6_exploredAt : GoodIn wsX6_factsOf (wsV RX6 151 RX6 yX6_exploredAt wsX6_exploredAt) := goodIn_app (goodIn_of _ (by decide +kernel)) ggX6_factsOf_X6_exploredAt
set_option maxRecDepth 20000 in
theorem ggX6_factsOf_X6_factsIn : GoodIn wsX6_factsOf wsX6_factsIn := goodIn_r _ [30] (by decide +kernel) (by decide +kernel)
set_option maxRecDepth 20000 in
theorem gX6_factsOf_X6_factsIn : GoodIn wsX6_factsOf (va_wsS RX6 87 yX6_factsIn wsX6_factsIn) := goodIn_app (goodIn_of _ (by decide +kernel)) ggX6_factsOf_X6_factsIn
theorem dX6_factsOf_0 : decode cX6_factsOf 0 = .ok (.aload_n 0, 1) := by decide +kernel
theorem dX6_factsOf_1 : decode cX6_factsOf 1 = .ok (.iload_n 1, 1) := by decide +kernel
theorem dX6_factsOf_2 : decode cX6_factsOf 2 = .ok (.invokevirtual 151, 3) := by decide +kernel
theorem dX6_factsOf_5 : decode cX6_factsOf 5 = .ok (.invokestatic 87, 3) := by decide +kernel
theorem dX6_factsOf_8 : decode cX6_factsOf 8 = .ok (.ireturn, 1) := by decide +kernel
set_option maxRecDepth 20000 in
theorem ggX6_triggeredOf_X6_exploredAt : GoodIn wsX6_triggeredOf wsX6_exploredAt := goodIn_ca (goodIn_ca (goodIn_r _ [5, 6, 7, 8, 9, 10, 11, 4, 12, 13, 14, 15, 16, 17, 18, 19, 20, 21, 22, 23, 24, 25, 26, 27, 31, 32, 33, 34, 35, 36, 37, 38, 39, 40, 41, 42, 43, 44, 45, 46] (by decide +kernel) (by decide +kernel)) (goodIn_sub (fun _ h => List.mem_cons_of_mem _ (List.mem_append_left _ (List.mem_append_right _ h))) (by decide +kernel))) (goodIn_sub (fun _ h => List.mem_cons_of_mem _ (List.mem_append_right _ h)) (by decide +kernel))
set_option maxRecDepth 20000 in
theorem gX6_triggeredOf_X6_exploredAt : GoodIn wsX6_triggeredOf (wsV RX6 151 RX6 yX6_exploredAt wsX6_exploredAt) := goodIn_app (goodIn_of _ (by decide +kernel)) ggX6_triggeredOf_X6_exploredAt
set_option maxRecDepth 20000 in
theorem ggX6_triggeredOf_X6_triggeredIn : GoodIn wsX6_triggeredOf wsX6_triggeredIn := goodIn_r _ [30] (by decide +kernel) (by decide +kernel)
set_option maxRecDepth 20000 in
theorem gX6_triggeredOf_X6_triggeredIn : GoodIn wsX6_triggeredOf (va_wsS RX6 91 yX6_triggeredIn wsX6_triggeredIn) := goodIn_app (goodIn_of _ (by decide +kernel)) ggX6_triggeredOf_X6_triggeredIn
theorem dX6_triggeredOf_0 : decode cX6_triggeredOf 0 = .ok (.aload_n 0, 1) := by decide +kernel
theorem dX6_triggeredOf_1 : decode cX6_triggeredOf 1 = .ok (.iload_n 1, 1) := by decide +kernel
theorem dX6_triggeredOf_2 : decode cX6_triggeredOf 2 = .ok (.invokevirtual 151, 3) := by decide +kernel
theorem dX6_triggeredOf_5 : decode cX6_triggeredOf 5 = .ok (.invokestatic 91, 3) := by decide +kernel
theorem dX6_triggeredOf_8 : decode cX6_triggeredOf 8 = .ok (.ireturn, 1) := by decide +kernel
set_option maxRecDepth 20000 in
theorem ggX6_after_X6_exploredAt : GoodIn wsX6_after wsX6_exploredAt := goodIn_ca (goodIn_ca (goodIn_r _ [6, 7, 8, 1, 9, 10, 11, 5, 12, 13, 14, 15, 16, 17, 18, 19, 20, 21, 22, 23, 24, 25, 26, 27, 45, 46, 47, 48, 49, 50, 51, 52, 53, 54, 55, 56, 57, 58, 59, 60] (by decide +kernel) (by decide +kernel)) (goodIn_sub (fun _ h => List.mem_cons_of_mem _ (List.mem_append_left _ (List.mem_append_right _ h))) (by decide +kernel))) (goodIn_sub (fun _ h => List.mem_cons_of_mem _ (List.mem_append_right _ h)) (by decide +kernel))
set_option maxRecDepth 20000 in
theorem gX6_after_X6_exploredAt : GoodIn wsX6_after (wsV RX6 151 RX6 yX6_exploredAt wsX6_exploredAt) := goodIn_app (goodIn_of _ (by decide +kernel)) ggX6_after_X6_exploredAt
set_option maxRecDepth 20000 in
theorem ggX6_after_X6_ruleAt : GoodIn wsX6_after wsX6_ruleAt := goodIn_ca (goodIn_r _ [31, 7, 8, 32, 33, 34, 35, 36, 37, 38, 39, 45, 46, 47, 48, 61, 62, 63] (by decide +kernel) (by decide +kernel)) (goodIn_sub (fun _ h => List.mem_cons_of_mem _ (List.mem_append_left _ (List.mem_append_right _ h))) (by decide +kernel))
set_option maxRecDepth 20000 in
theorem gX6_after_X6_ruleAt : GoodIn wsX6_after (wsV RX6 61 RX6 yX6_ruleAt wsX6_ruleAt) := goodIn_app (goodIn_of _ (by decide +kernel)) ggX6_after_X6_ruleAt
set_option maxRecDepth 20000 in
theorem ggX6_after_X1_nextOf : GoodIn wsX6_after wsX1_nextOf := goodIn_r _ [43, 26, 44, 49, 50, 51, 52, 53, 54, 55, 56, 57, 58, 59, 60] (by decide +kernel) (by decide +kernel)
set_option maxRecDepth 20000 in
theorem gX6_after_X1_nextOf : GoodIn wsX6_after (wsV RX6 154 RX1 yX1_nextOf wsX1_nextOf) := goodIn_app (goodIn_of _ (by decide +kernel)) ggX6_after_X1_nextOf
theorem dX6_after_0 : decode cX6_after 0 = .ok (.aload_n 0, 1) := by decide +kernel
theorem dX6_after_1 : decode cX6_after 1 = .ok (.iload_n 1, 1) := by decide +kernel
theorem dX6_after_2 : decode cX6_after 2 = .ok (.invokevirtual 151, 3) := by decide +kernel
theorem dX6_after_5 : decode cX6_after 5 = .ok (.pop, 1) := by decide +kernel
theorem dX6_after_6 : decode cX6_after 6 = .ok (.aload_n 0, 1) := by decide +kernel
theorem dX6_after_7 : decode cX6_after 7 = .ok (.iload_n 2, 1) := by decide +kernel
theorem dX6_after_8 : decode cX6_after 8 = .ok (.invokevirtual 61, 3) := by decide +kernel
theorem dX6_after_11 : decode cX6_after 11 = .ok (.pop, 1) := by decide +kernel
theorem dX6_after_12 : decode cX6_after 12 = .ok (.aload_n 0, 1) := by decide +kernel
theorem dX6_after_13 : decode cX6_after 13 = .ok (.getfield 28, 3) := by decide +kernel
theorem dX6_after_16 : decode cX6_after 16 = .ok (.iload_n 1, 1) := by decide +kernel
theorem dX6_after_17 : decode cX6_after 17 = .ok (.iload_n 2, 1) := by decide +kernel
theorem dX6_after_18 : decode cX6_after 18 = .ok (.invokevirtual 154, 3) := by decide +kernel
theorem dX6_after_21 : decode cX6_after 21 = .ok (.ireturn, 1) := by decide +kernel
set_option maxRecDepth 20000 in
theorem ggX6_terminates_X6_needExplored : GoodIn wsX6_terminates wsX6_needExplored := goodIn_ca (goodIn_r _ [7, 8, 9, 1, 10, 11, 12, 13, 14, 15, 16, 23, 24, 25, 26, 27, 28, 29, 30, 31, 32, 33, 34, 35, 36, 37, 38] (by decide +kernel) (by decide +kernel)) (goodIn_sub (fun _ h => List.mem_cons_of_mem _ (List.mem_append_right _ h)) (by decide +kernel))
set_option maxRecDepth 20000 in
theorem gX6_terminates_X6_needExplored : GoodIn wsX6_terminates (wsV RX6 157 RX6 yX6_needExplored wsX6_needExplored) := goodIn_app (goodIn_of _ (by decide +kernel)) ggX6_terminates_X6_needExplored
set_option maxRecDepth 20000 in
theorem ggX6_terminates_X3_isFinite : GoodIn wsX6_terminates wsX3_isFinite := goodIn_r _ [21, 22, 39, 40, 41, 42, 43, 44, 45, 46] (by decide +kernel) (by decide +kernel)
set_option maxRecDepth 20000 in
theorem gX6_terminates_X3_isFinite : GoodIn wsX6_terminates (wsV RX6 164 RX3 yX3_isFinite wsX3_isFinite) := goodIn_app (goodIn_of _ (by decide +kernel)) ggX6_terminates_X3_isFinite
theorem dX6_terminates_0 : decode cX6_terminates 0 = .ok (.aload_n 0, 1) := by decide +kernel
theorem dX6_terminates_1 : decode cX6_terminates 1 = .ok (.invokevirtual 157, 3) := by decide +kernel
theorem dX6_terminates_4 : decode cX6_terminates 4 = .ok (.aload_n 0, 1) := by decide +kernel
theorem dX6_terminates_5 : decode cX6_terminates 5 = .ok (.getfield 28, 3) := by decide +kernel
theorem dX6_terminates_8 : decode cX6_terminates 8 = .ok (.getfield 160, 3) := by decide +kernel
theorem dX6_terminates_11 : decode cX6_terminates 11 = .ok (.invokevirtual 164, 3) := by decide +kernel
theorem dX6_terminates_14 : decode cX6_terminates 14 = .ok (.ireturn, 1) := by decide +kernel
set_option maxRecDepth 20000 in
theorem ggX6_endCount_X6_needExplored : GoodIn wsX6_endCount wsX6_needExplored := goodIn_ca (goodIn_r _ [7, 8, 9, 1, 10, 11, 12, 13, 14, 15, 16, 23, 24, 25, 26, 27, 28, 29, 30, 31, 32, 33, 34, 35, 36, 37, 38] (by decide +kernel) (by decide +kernel)) (goodIn_sub (fun _ h => List.mem_cons_of_mem _ (List.mem_append_right _ h)) (by decide +kernel))
set_option maxRecDepth 20000 in
theorem gX6_endCount_X6_needExplored : GoodIn wsX6_endCount (wsV RX6 157 RX6 yX6_needExplored wsX6_needExplored) := goodIn_app (goodIn_of _ (by decide +kernel)) ggX6_endCount_X6_needExplored
set_option maxRecDepth 20000 in
theorem ggX6_endCount_X0_size : GoodIn wsX6_endCount wsX0_size := goodIn_r _ [21, 22, 39, 40, 41] (by decide +kernel) (by decide +kernel)
set_option maxRecDepth 20000 in
theorem gX6_endCount_X0_size : GoodIn wsX6_endCount (wsV RX6 173 RX0 yX0_size wsX0_size) := goodIn_app (goodIn_of _ (by decide +kernel)) ggX6_endCount_X0_size
theorem dX6_endCount_0 : decode cX6_endCount 0 = .ok (.aload_n 0, 1) := by decide +kernel
theorem dX6_endCount_1 : decode cX6_endCount 1 = .ok (.invokevirtual 157, 3) := by decide +kernel
theorem dX6_endCount_4 : decode cX6_endCount 4 = .ok (.aload_n 0, 1) := by decide +kernel
theorem dX6_endCount_5 : decode cX6_endCount 5 = .ok (.getfield 28, 3) := by decide +kernel
theorem dX6_endCount_8 : decode cX6_endCount 8 = .ok (.getfield 169, 3) := by decide +kernel
theorem dX6_endCount_11 : decode cX6_endCount 11 = .ok (.invokevirtual 173, 3) := by decide +kernel
theorem dX6_endCount_14 : decode cX6_endCount 14 = .ok (.ireturn, 1) := by decide +kernel
set_option maxRecDepth 20000 in
theorem ggX6_end_X6_needExplored : GoodIn wsX6_end wsX6_needExplored := goodIn_ca (goodIn_r _ [9, 10, 11, 3, 12, 13, 14, 15, 16, 17, 18, 26, 27, 28, 29, 30, 31, 32, 33, 34, 35, 36, 37, 38, 39, 40, 41] (by decide +kernel) (by decide +kernel)) (goodIn_sub (fun _ h => List.mem_cons_of_mem _ (List.mem_append_right _ h)) (by decide +kernel))
set_option maxRecDepth 20000 in
theorem gX6_end_X6_needExplored : GoodIn wsX6_end (wsV RX6 157 RX6 yX6_needExplored wsX6_needExplored) := goodIn_app (goodIn_of _ (by decide +kernel)) ggX6_end_X6_needExplored
set_option maxRecDepth 20000 in
theorem ggX6_end_X0_factsAt : GoodIn wsX6_end wsX0_factsAt := goodIn_r _ [23, 24, 25, 42, 43, 44] (by decide +kernel) (by decide +kernel)
set_option maxRecDepth 20000 in
theorem gX6_end_X0_factsAt : GoodIn wsX6_end (wsV RX6 176 RX0 yX0_factsAt wsX0_factsAt) := goodIn_app (goodIn_of _ (by decide +kernel)) ggX6_end_X0_factsAt
theorem dX6_end_0 : decode cX6_end 0 = .ok (.aload_n 0, 1) := by decide +kernel
theorem dX6_end_1 : decode cX6_end 1 = .ok (.invokevirtual 157, 3) := by decide +kernel
theorem dX6_end_4 : decode cX6_end 4 = .ok (.aload_n 0, 1) := by decide +kernel
theorem dX6_end_5 : decode cX6_end 5 = .ok (.getfield 28, 3) := by decide +kernel
theorem dX6_end_8 : decode cX6_end 8 = .ok (.getfield 169, 3) := by decide +kernel
theorem dX6_end_11 : decode cX6_end 11 = .ok (.iload_n 1, 1) := by decide +kernel
theorem dX6_end_12 : decode cX6_end 12 = .ok (.invokevirtual 176, 3) := by decide +kernel
theorem dX6_end_15 : decode cX6_end 15 = .ok (.istore_n 2, 1) := by decide +kernel
theorem dX6_end_16 : decode cX6_end 16 = .ok (.iload_n 2, 1) := by decide +kernel
theorem dX6_end_17 : decode cX6_end 17 = .ok (.iconst (-1), 1) := by decide +kernel
theorem dX6_end_18 : decode cX6_end 18 = .ok (.if_icmp .ne 13, 3) := by decide +kernel
theorem dX6_end_21 : decode cX6_end 21 = .ok (.new 179, 3) := by decide +kernel
theorem dX6_end_24 : decode cX6_end 24 = .ok (.dup, 1) := by decide +kernel
theorem dX6_end_25 : decode cX6_end 25 = .ok (.ldc 181, 2) := by decide +kernel
theorem dX6_end_27 : decode cX6_end 27 = .ok (.invokespecial 183, 3) := by decide +kernel
theorem dX6_end_30 : decode cX6_end 30 = .ok (.athrow, 1) := by decide +kernel
theorem dX6_end_31 : decode cX6_end 31 = .ok (.iload_n 2, 1) := by decide +kernel
theorem dX6_end_32 : decode cX6_end 32 = .ok (.ireturn, 1) := by decide +kernel
set_option maxRecDepth 20000 in
theorem ggX6_shortest_X6_needExplored : GoodIn wsX6_shortest wsX6_needExplored := goodIn_ca (goodIn_r _ [7, 8, 9, 1, 10, 11, 12, 13, 14, 15, 16, 23, 24, 25, 26, 27, 28, 29, 30, 31, 32, 33, 34, 35, 36, 37, 38] (by decide +kernel) (by decide +kernel)) (goodIn_sub (fun _ h => List.mem_cons_of_mem _ (List.mem_append_right _ h)) (by decide +kernel))
set_option maxRecDepth 20000 in
theorem gX6_shortest_X6_needExplored : GoodIn wsX6_shortest (wsV RX6 157 RX6 yX6_needExplored wsX6_needExplored) := goodIn_app (goodIn_of _ (by decide +kernel)) ggX6_shortest_X6_needExplored
set_option maxRecDepth 20000 in
theorem ggX6_shortest_X0_firstDepth : GoodIn wsX6_shortest wsX0_firstDepth := goodIn_r _ [21, 22, 39, 40, 41] (by decide +kernel) (by decide +kernel)
set_option maxRecDepth 20000 in
theorem gX6_shortest_X0_firstDepth : GoodIn wsX6_shortest (wsV RX6 184 RX0 yX0_firstDepth wsX0_firstDepth) := goodIn_app (goodIn_of _ (by decide +kernel)) ggX6_shortest_X0_firstDepth
theorem dX6_shortest_0 : decode cX6_shortest 0 = .ok (.aload_n 0, 1) := by decide +kernel
theorem dX6_shortest_1 : decode cX6_shortest 1 = .ok (.invokevirtual 157, 3) := by decide +kernel
theorem dX6_shortest_4 : decode cX6_shortest 4 = .ok (.aload_n 0, 1) := by decide +kernel
theorem dX6_shortest_5 : decode cX6_shortest 5 = .ok (.getfield 28, 3) := by decide +kernel
theorem dX6_shortest_8 : decode cX6_shortest 8 = .ok (.getfield 169, 3) := by decide +kernel
theorem dX6_shortest_11 : decode cX6_shortest 11 = .ok (.invokevirtual 184, 3) := by decide +kernel
theorem dX6_shortest_14 : decode cX6_shortest 14 = .ok (.ireturn, 1) := by decide +kernel
set_option maxRecDepth 20000 in
theorem ggX6_longest_X6_needExplored : GoodIn wsX6_longest wsX6_needExplored := goodIn_ca (goodIn_r _ [7, 8, 9, 1, 10, 11, 12, 13, 14, 15, 16, 24, 25, 26, 27, 28, 29, 30, 31, 32, 33, 34, 35, 36, 37, 38, 39] (by decide +kernel) (by decide +kernel)) (goodIn_sub (fun _ h => List.mem_cons_of_mem _ (List.mem_append_right _ h)) (by decide +kernel))
set_option maxRecDepth 20000 in
theorem gX6_longest_X6_needExplored : GoodIn wsX6_longest (wsV RX6 157 RX6 yX6_needExplored wsX6_needExplored) := goodIn_app (goodIn_of _ (by decide +kernel)) ggX6_longest_X6_needExplored
set_option maxRecDepth 20000 in
theorem ggX6_longest_X3_mostPlays : GoodIn wsX6_longest wsX3_mostPlays := goodIn_r _ [21, 22, 23, 40, 41, 42, 43, 44, 45, 46, 47] (by decide +kernel) (by decide +kernel)
set_option maxRecDepth 20000 in
theorem gX6_longest_X3_mostPlays : GoodIn wsX6_longest (wsV RX6 187 RX3 yX3_mostPlays wsX3_mostPlays) := goodIn_app (goodIn_of _ (by decide +kernel)) ggX6_longest_X3_mostPlays
theorem dX6_longest_0 : decode cX6_longest 0 = .ok (.aload_n 0, 1) := by decide +kernel
theorem dX6_longest_1 : decode cX6_longest 1 = .ok (.invokevirtual 157, 3) := by decide +kernel
theorem dX6_longest_4 : decode cX6_longest 4 = .ok (.aload_n 0, 1) := by decide +kernel
theorem dX6_longest_5 : decode cX6_longest 5 = .ok (.getfield 28, 3) := by decide +kernel
theorem dX6_longest_8 : decode cX6_longest 8 = .ok (.getfield 160, 3) := by decide +kernel
theorem dX6_longest_11 : decode cX6_longest 11 = .ok (.invokevirtual 187, 3) := by decide +kernel
theorem dX6_longest_14 : decode cX6_longest 14 = .ok (.ireturn, 1) := by decide +kernel
set_option maxRecDepth 20000 in
theorem ggX6_ways_X6_needExplored : GoodIn wsX6_ways wsX6_needExplored := goodIn_ca (goodIn_r _ [7, 8, 9, 1, 10, 11, 12, 13, 14, 15, 16, 25, 26, 27, 28, 29, 30, 31, 32, 33, 34, 35, 36, 37, 38, 39, 40] (by decide +kernel) (by decide +kernel)) (goodIn_sub (fun _ h => List.mem_cons_of_mem _ (List.mem_append_right _ h)) (by decide +kernel))
set_option maxRecDepth 20000 in
theorem gX6_ways_X6_needExplored : GoodIn wsX6_ways (wsV RX6 157 RX6 yX6_needExplored wsX6_needExplored) := goodIn_app (goodIn_of _ (by decide +kernel)) ggX6_ways_X6_needExplored
set_option maxRecDepth 20000 in
theorem ggX6_ways_X3_wayCount : GoodIn wsX6_ways wsX3_wayCount := goodIn_r _ [21, 22, 23, 24, 41, 42, 43, 44, 45, 46, 47, 48] (by decide +kernel) (by decide +kernel)
set_option maxRecDepth 20000 in
theorem gX6_ways_X3_wayCount : GoodIn wsX6_ways (wsV RX6 190 RX3 yX3_wayCount wsX3_wayCount) := goodIn_app (goodIn_of _ (by decide +kernel)) ggX6_ways_X3_wayCount
theorem dX6_ways_0 : decode cX6_ways 0 = .ok (.aload_n 0, 1) := by decide +kernel
theorem dX6_ways_1 : decode cX6_ways 1 = .ok (.invokevirtual 157, 3) := by decide +kernel
theorem dX6_ways_4 : decode cX6_ways 4 = .ok (.aload_n 0, 1) := by decide +kernel
theorem dX6_ways_5 : decode cX6_ways 5 = .ok (.getfield 28, 3) := by decide +kernel
theorem dX6_ways_8 : decode cX6_ways 8 = .ok (.getfield 160, 3) := by decide +kernel
theorem dX6_ways_11 : decode cX6_ways 11 = .ok (.invokevirtual 190, 3) := by decide +kernel
theorem dX6_ways_14 : decode cX6_ways 14 = .ok (.lreturn, 1) := by decide +kernel
set_option maxRecDepth 20000 in
theorem ggX6_isPlayed_X6_needExplored : GoodIn wsX6_isPlayed wsX6_needExplored := goodIn_ca (goodIn_r _ [7, 8, 9, 1, 10, 11, 12, 13, 14, 15, 16, 36, 37, 38, 39, 51, 52, 53, 54, 55, 56, 57, 58, 59, 60, 61, 62] (by decide +kernel) (by decide +kernel)) (goodIn_sub (fun _ h => List.mem_cons_of_mem _ (List.mem_append_left _ (List.mem_append_right _ h))) (by decide +kernel))
set_option maxRecDepth 20000 in
theorem gX6_isPlayed_X6_needExplored : GoodIn wsX6_isPlayed (wsV RX6 157 RX6 yX6_needExplored wsX6_needExplored) := goodIn_app (goodIn_of _ (by decide +kernel)) ggX6_isPlayed_X6_needExplored
set_option maxRecDepth 20000 in
theorem ggX6_isPlayed_X1_everReady : GoodIn wsX6_isPlayed wsX1_everReady := goodIn_r _ [20, 21, 51, 52, 53, 54, 55, 56, 57, 58, 59, 60, 61, 62] (by decide +kernel) (by decide +kernel)
set_option maxRecDepth 20000 in
theorem gX6_isPlayed_X1_everReady : GoodIn wsX6_isPlayed (wsV RX6 194 RX1 yX1_everReady wsX1_everReady) := goodIn_app (goodIn_of _ (by decide +kernel)) ggX6_isPlayed_X1_everReady
set_option maxRecDepth 20000 in
theorem ggX6_isPlayed_X6_ruleAt : GoodIn wsX6_isPlayed wsX6_ruleAt := goodIn_ca (goodIn_r _ [25, 26, 27, 28, 29, 30, 31, 32, 33, 34, 35, 36, 37, 38, 39, 63, 64, 65] (by decide +kernel) (by decide +kernel)) (goodIn_sub (fun _ h => List.mem_cons_of_mem _ (List.mem_append_right _ h)) (by decide +kernel))
set_option maxRecDepth 20000 in
theorem gX6_isPlayed_X6_ruleAt : GoodIn wsX6_isPlayed (wsV RX6 61 RX6 yX6_ruleAt wsX6_ruleAt) := goodIn_app (goodIn_of _ (by decide +kernel)) ggX6_isPlayed_X6_ruleAt
theorem dX6_isPlayed_0 : decode cX6_isPlayed 0 = .ok (.aload_n 0, 1) := by decide +kernel
theorem dX6_isPlayed_1 : decode cX6_isPlayed 1 = .ok (.invokevirtual 157, 3) := by decide +kernel
theorem dX6_isPlayed_4 : decode cX6_isPlayed 4 = .ok (.aload_n 0, 1) := by decide +kernel
theorem dX6_isPlayed_5 : decode cX6_isPlayed 5 = .ok (.getfield 28, 3) := by decide +kernel
theorem dX6_isPlayed_8 : decode cX6_isPlayed 8 = .ok (.invokevirtual 194, 3) := by decide +kernel
theorem dX6_isPlayed_11 : decode cX6_isPlayed 11 = .ok (.aload_n 0, 1) := by decide +kernel
theorem dX6_isPlayed_12 : decode cX6_isPlayed 12 = .ok (.iload_n 1, 1) := by decide +kernel
theorem dX6_isPlayed_13 : decode cX6_isPlayed 13 = .ok (.invokevirtual 61, 3) := by decide +kernel
theorem dX6_isPlayed_16 : decode cX6_isPlayed 16 = .ok (.getfield 94, 3) := by decide +kernel
theorem dX6_isPlayed_19 : decode cX6_isPlayed 19 = .ok (.iand, 1) := by decide +kernel
theorem dX6_isPlayed_20 : decode cX6_isPlayed 20 = .ok (.ifCond .eq 7, 3) := by decide +kernel
theorem dX6_isPlayed_23 : decode cX6_isPlayed 23 = .ok (.iconst 1, 1) := by decide +kernel
theorem dX6_isPlayed_24 : decode cX6_isPlayed 24 = .ok (.goto 4, 3) := by decide +kernel
theorem dX6_isPlayed_27 : decode cX6_isPlayed 27 = .ok (.iconst 0, 1) := by decide +kernel
theorem dX6_isPlayed_28 : decode cX6_isPlayed 28 = .ok (.ireturn, 1) := by decide +kernel
set_option maxRecDepth 20000 in
theorem ggX6_choice_X6_needExplored : GoodIn wsX6_choice wsX6_needExplored := goodIn_ca (goodIn_r _ [6, 7, 8, 1, 9, 10, 11, 12, 13, 14, 15, 22, 23, 24, 25, 26, 27, 28, 29, 30, 31, 32, 33, 34, 35, 36, 37] (by decide +kernel) (by decide +kernel)) (goodIn_sub (fun _ h => List.mem_cons_of_mem _ (List.mem_append_right _ h)) (by decide +kernel))
set_option maxRecDepth 20000 in
theorem gX6_choice_X6_needExplored : GoodIn wsX6_choice (wsV RX6 157 RX6 yX6_needExplored wsX6_needExplored) := goodIn_app (goodIn_of _ (by decide +kernel)) ggX6_choice_X6_needExplored
set_option maxRecDepth 20000 in
theorem ggX6_choice_X1_choiceShare : GoodIn wsX6_choice wsX1_choiceShare := goodIn_r _ [19, 20, 21, 26, 27, 28, 29, 30, 31, 32, 33, 34, 35, 36, 37] (by decide +kernel) (by decide +kernel)
set_option maxRecDepth 20000 in
theorem gX6_choice_X1_choiceShare : GoodIn wsX6_choice (wsV RX6 197 RX1 yX1_choiceShare wsX1_choiceShare) := goodIn_app (goodIn_of _ (by decide +kernel)) ggX6_choice_X1_choiceShare
theorem dX6_choice_0 : decode cX6_choice 0 = .ok (.aload_n 0, 1) := by decide +kernel
theorem dX6_choice_1 : decode cX6_choice 1 = .ok (.invokevirtual 157, 3) := by decide +kernel
theorem dX6_choice_4 : decode cX6_choice 4 = .ok (.aload_n 0, 1) := by decide +kernel
theorem dX6_choice_5 : decode cX6_choice 5 = .ok (.getfield 28, 3) := by decide +kernel
theorem dX6_choice_8 : decode cX6_choice 8 = .ok (.invokevirtual 197, 3) := by decide +kernel
theorem dX6_choice_11 : decode cX6_choice 11 = .ok (.dreturn, 1) := by decide +kernel
set_option maxRecDepth 20000 in
theorem ggX6_canTrigger_X6_ruleAt : GoodIn wsX6_canTrigger wsX6_ruleAt := goodIn_ca (goodIn_r _ [6, 7, 8, 1, 9, 10, 11, 12, 13, 14, 15, 33, 34, 35, 36, 37, 38, 39] (by decide +kernel) (by decide +kernel)) (goodIn_sub (fun _ h => List.mem_cons_of_mem _ (List.mem_append_right _ h)) (by decide +kernel))
set_option maxRecDepth 20000 in
theorem gX6_canTrigger_X6_ruleAt : GoodIn wsX6_canTrigger (wsV RX6 61 RX6 yX6_ruleAt wsX6_ruleAt) := goodIn_app (goodIn_of _ (by decide +kernel)) ggX6_canTrigger_X6_ruleAt
set_option maxRecDepth 20000 in
theorem ggX6_canTrigger_X5_triggerableBy : GoodIn wsX6_canTrigger wsX5_triggerableBy := goodIn_r _ [19, 20, 21, 22, 23, 24, 25, 26, 27, 28, 29, 30, 12, 31, 32, 40, 41, 42, 43, 44, 45, 46, 47, 48, 49, 50, 37, 38, 39] (by decide +kernel) (by decide +kernel)
set_option maxRecDepth 20000 in
theorem gX6_canTrigger_X5_triggerableBy : GoodIn wsX6_canTrigger (wsV RX6 201 RX5 yX5_triggerableBy wsX5_triggerableBy) := goodIn_app (goodIn_of _ (by decide +kernel)) ggX6_canTrigger_X5_triggerableBy
theorem dX6_canTrigger_0 : decode cX6_canTrigger 0 = .ok (.aload_n 0, 1) := by decide +kernel
theorem dX6_canTrigger_1 : decode cX6_canTrigger 1 = .ok (.getfield 10, 3) := by decide +kernel
theorem dX6_canTrigger_4 : decode cX6_canTrigger 4 = .ok (.aload_n 0, 1) := by decide +kernel
theorem dX6_canTrigger_5 : decode cX6_canTrigger 5 = .ok (.iload_n 1, 1) := by decide +kernel
theorem dX6_canTrigger_6 : decode cX6_canTrigger 6 = .ok (.invokevirtual 61, 3) := by decide +kernel
theorem dX6_canTrigger_9 : decode cX6_canTrigger 9 = .ok (.invokevirtual 201, 3) := by decide +kernel
theorem dX6_canTrigger_12 : decode cX6_canTrigger 12 = .ok (.ireturn, 1) := by decide +kernel
set_option maxRecDepth 20000 in
theorem ggX6_circular_X2_inCircles : GoodIn wsX6_circular wsX2_inCircles := goodIn_r _ [6, 7, 8, 9, 10, 5, 11, 12, 13, 14, 15, 16, 17, 18, 19, 20, 21, 22, 23, 24, 25, 26, 27, 28, 29, 30, 31, 32, 33, 34, 35, 36, 41, 42, 43, 44, 45, 46, 47, 48, 49, 50, 51, 52, 53, 54, 55, 56] (by decide +kernel) (by decide +kernel)
set_option maxRecDepth 20000 in
theorem gX6_circular_X2_inCircles : GoodIn wsX6_circular (wsV RX6 205 RX2 yX2_inCircles wsX2_inCircles) := goodIn_app (goodIn_of _ (by decide +kernel)) ggX6_circular_X2_inCircles
theorem dX6_circular_0 : decode cX6_circular 0 = .ok (.aload_n 0, 1) := by decide +kernel
theorem dX6_circular_1 : decode cX6_circular 1 = .ok (.getfield 21, 3) := by decide +kernel
theorem dX6_circular_4 : decode cX6_circular 4 = .ok (.invokevirtual 205, 3) := by decide +kernel
theorem dX6_circular_7 : decode cX6_circular 7 = .ok (.ireturn, 1) := by decide +kernel
set_option maxRecDepth 20000 in
theorem ggX6_commute_X6_ruleAt : GoodIn wsX6_commute wsX6_ruleAt := goodIn_ca (goodIn_r _ [8, 9, 10, 11, 12, 13, 14, 15, 16, 17, 18, 58, 59, 60, 61, 62, 63, 64] (by decide +kernel) (by decide +kernel)) (goodIn_sub (fun _ h => List.mem_cons_of_mem _ (List.mem_append_right _ h)) (by decide +kernel))
set_option maxRecDepth 20000 in
theorem gX6_commute_X6_ruleAt : GoodIn wsX6_commute (wsV RX6 61 RX6 yX6_ruleAt wsX6_ruleAt) := goodIn_app (goodIn_of _ (by decide +kernel)) ggX6_commute_X6_ruleAt
set_option maxRecDepth 20000 in
theorem ggX6_commute_X2_areIndependent : GoodIn wsX6_commute wsX2_areIndependent := goodIn_r _ [23, 24, 25, 26, 27, 28, 29, 30, 31, 15, 32, 33, 34, 35, 36, 37, 38, 39, 40, 41, 42, 43, 44, 45, 46, 47, 48, 49, 50, 51, 52, 53, 54, 55, 56, 57, 65, 66, 67, 68, 69, 70, 71, 72, 73, 74, 75, 76, 77, 62, 63, 64] (by decide +kernel) (by decide +kernel)
set_option maxRecDepth 20000 in
theorem gX6_commute_X2_areIndependent : GoodIn wsX6_commute (wsV RX6 210 RX2 yX2_areIndependent wsX2_areIndependent) := goodIn_app (goodIn_of _ (by decide +kernel)) ggX6_commute_X2_areIndependent
theorem dX6_commute_0 : decode cX6_commute 0 = .ok (.aload_n 0, 1) := by decide +kernel
theorem dX6_commute_1 : decode cX6_commute 1 = .ok (.iload_n 1, 1) := by decide +kernel
theorem dX6_commute_2 : decode cX6_commute 2 = .ok (.invokevirtual 61, 3) := by decide +kernel
theorem dX6_commute_5 : decode cX6_commute 5 = .ok (.astore_n 3, 1) := by decide +kernel
theorem dX6_commute_6 : decode cX6_commute 6 = .ok (.aload_n 0, 1) := by decide +kernel
theorem dX6_commute_7 : decode cX6_commute 7 = .ok (.iload_n 2, 1) := by decide +kernel
theorem dX6_commute_8 : decode cX6_commute 8 = .ok (.invokevirtual 61, 3) := by decide +kernel
theorem dX6_commute_11 : decode cX6_commute 11 = .ok (.astore 4, 2) := by decide +kernel
theorem dX6_commute_13 : decode cX6_commute 13 = .ok (.iload_n 1, 1) := by decide +kernel
theorem dX6_commute_14 : decode cX6_commute 14 = .ok (.iload_n 2, 1) := by decide +kernel
theorem dX6_commute_15 : decode cX6_commute 15 = .ok (.if_icmp .ne 13, 3) := by decide +kernel
theorem dX6_commute_18 : decode cX6_commute 18 = .ok (.new 105, 3) := by decide +kernel
theorem dX6_commute_21 : decode cX6_commute 21 = .ok (.dup, 1) := by decide +kernel
theorem dX6_commute_22 : decode cX6_commute 22 = .ok (.ldc 208, 2) := by decide +kernel
theorem dX6_commute_24 : decode cX6_commute 24 = .ok (.invokespecial 109, 3) := by decide +kernel
theorem dX6_commute_27 : decode cX6_commute 27 = .ok (.athrow, 1) := by decide +kernel
theorem dX6_commute_28 : decode cX6_commute 28 = .ok (.aload_n 0, 1) := by decide +kernel
theorem dX6_commute_29 : decode cX6_commute 29 = .ok (.getfield 21, 3) := by decide +kernel
theorem dX6_commute_32 : decode cX6_commute 32 = .ok (.aload_n 3, 1) := by decide +kernel
theorem dX6_commute_33 : decode cX6_commute 33 = .ok (.aload 4, 2) := by decide +kernel
theorem dX6_commute_35 : decode cX6_commute 35 = .ok (.invokevirtual 210, 3) := by decide +kernel
theorem dX6_commute_38 : decode cX6_commute 38 = .ok (.ireturn, 1) := by decide +kernel
set_option maxRecDepth 20000 in
theorem ggX6_conflictCount_X2_countConflicts : GoodIn wsX6_conflictCount wsX2_countConflicts := goodIn_r _ [6, 7, 8, 9, 5, 10, 11, 12, 13, 14, 15, 16, 17, 18, 19, 20, 21, 22, 23, 24, 25, 26, 27, 28, 29, 30, 31, 32, 33, 34, 35, 36, 37, 38, 39, 40, 41, 42, 43, 44, 45, 46, 47, 48, 49, 50, 51, 52, 53, 54, 55, 56, 57, 58, 59, 60, 61, 66, 67, 68, 69, 70, 71, 72, 73, 74, 75, 76, 77, 78, 79, 80, 81] (by decide +kernel) (by decide +kernel)
set_option maxRecDepth 20000 in
theorem gX6_conflictCount_X2_countConflicts : GoodIn wsX6_conflictCount (wsV RX6 214 RX2 yX2_countConflicts wsX2_countConflicts) := goodIn_app (goodIn_of _ (by decide +kernel)) ggX6_conflictCount_X2_countConflicts
theorem dX6_conflictCount_0 : decode cX6_conflictCount 0 = .ok (.aload_n 0, 1) := by decide +kernel
theorem dX6_conflictCount_1 : decode cX6_conflictCount 1 = .ok (.getfield 21, 3) := by decide +kernel
theorem dX6_conflictCount_4 : decode cX6_conflictCount 4 = .ok (.invokevirtual 214, 3) := by decide +kernel
theorem dX6_conflictCount_7 : decode cX6_conflictCount 7 = .ok (.ireturn, 1) := by decide +kernel
set_option maxRecDepth 20000 in
theorem ggX6_conflict_X2_conflictAt : GoodIn wsX6_conflict wsX2_conflictAt := goodIn_r _ [8, 9, 10, 11, 7, 12, 13, 14, 15, 16, 17, 18, 19, 20, 21, 22, 23, 24, 25, 26, 27, 28, 29, 30, 31, 32, 33, 34, 35, 36, 37, 38, 39, 40, 41, 42, 43, 44, 45, 46, 47, 48, 49, 50, 51, 52, 53, 54, 55, 56, 57, 58, 59, 60, 61, 62, 63, 68, 69, 70, 71, 72, 73, 74, 75, 76, 77, 78, 79, 80, 81, 82, 83] (by decide +kernel) (by decide +kernel)
set_option maxRecDepth 20000 in
theorem gX6_conflict_X2_conflictAt : GoodIn wsX6_conflict (wsV RX6 217 RX2 yX2_conflictAt wsX2_conflictAt) := goodIn_app (goodIn_of _ (by decide +kernel)) ggX6_conflict_X2_conflictAt
theorem dX6_conflict_0 : decode cX6_conflict 0 = .ok (.aload_n 0, 1) := by decide +kernel
theorem dX6_conflict_1 : decode cX6_conflict 1 = .ok (.getfield 21, 3) := by decide +kernel
theorem dX6_conflict_4 : decode cX6_conflict 4 = .ok (.iload_n 1, 1) := by decide +kernel
theorem dX6_conflict_5 : decode cX6_conflict 5 = .ok (.invokevirtual 217, 3) := by decide +kernel
theorem dX6_conflict_8 : decode cX6_conflict 8 = .ok (.istore_n 2, 1) := by decide +kernel
theorem dX6_conflict_9 : decode cX6_conflict 9 = .ok (.iload_n 2, 1) := by decide +kernel
theorem dX6_conflict_10 : decode cX6_conflict 10 = .ok (.iconst (-1), 1) := by decide +kernel
theorem dX6_conflict_11 : decode cX6_conflict 11 = .ok (.if_icmp .ne 13, 3) := by decide +kernel
theorem dX6_conflict_14 : decode cX6_conflict 14 = .ok (.new 179, 3) := by decide +kernel
theorem dX6_conflict_17 : decode cX6_conflict 17 = .ok (.dup, 1) := by decide +kernel
theorem dX6_conflict_18 : decode cX6_conflict 18 = .ok (.ldc 220, 2) := by decide +kernel
theorem dX6_conflict_20 : decode cX6_conflict 20 = .ok (.invokespecial 183, 3) := by decide +kernel
theorem dX6_conflict_23 : decode cX6_conflict 23 = .ok (.athrow, 1) := by decide +kernel
theorem dX6_conflict_24 : decode cX6_conflict 24 = .ok (.iload_n 2, 1) := by decide +kernel
theorem dX6_conflict_25 : decode cX6_conflict 25 = .ok (.ireturn, 1) := by decide +kernel
set_option maxRecDepth 20000 in
theorem ggX6_digest_X5_addedTo : GoodIn wsX6_digest wsX5_addedTo := goodIn_r _ [10, 11, 12, 13, 14, 15, 16, 17, 18, 19, 20, 21, 22, 23, 24, 25, 26, 27, 28, 29, 30, 54, 55, 56, 57, 58, 59, 60, 61, 62, 63, 64, 65, 66, 67] (by decide +kernel) (by decide +kernel)
set_option maxRecDepth 20000 in
theorem gX6_digest_X5_addedTo : GoodIn wsX6_digest (wsV RX6 224 RX5 yX5_addedTo wsX5_addedTo) := goodIn_app (goodIn_of _ (by decide +kernel)) ggX6_digest_X5_addedTo
set_option maxRecDepth 20000 in
theorem ggX6_digest_X6_factsIn : GoodIn wsX6_digest wsX6_factsIn := goodIn_r _ [34] (by decide +kernel) (by decide +kernel)
set_option maxRecDepth 20000 in
theorem gX6_digest_X6_factsIn : GoodIn wsX6_digest (va_wsS RX6 87 yX6_factsIn wsX6_factsIn) := goodIn_app (goodIn_of _ (by decide +kernel)) ggX6_digest_X6_factsIn
set_option maxRecDepth 20000 in
theorem ggX6_digest_X6_triggeredIn : GoodIn wsX6_digest wsX6_triggeredIn := goodIn_r _ [37] (by decide +kernel) (by decide +kernel)
set_option maxRecDepth 20000 in
theorem gX6_digest_X6_triggeredIn : GoodIn wsX6_digest (va_wsS RX6 91 yX6_triggeredIn wsX6_triggeredIn) := goodIn_app (goodIn_of _ (by decide +kernel)) ggX6_digest_X6_triggeredIn
set_option maxRecDepth 20000 in
theorem ggX6_digest_X1_isDone : GoodIn wsX6_digest wsX1_isDone := goodIn_r _ [42, 43, 68, 69, 70, 71, 72, 73, 74, 75, 76, 77, 78, 79] (by decide +kernel) (by decide +kernel)
set_option maxRecDepth 20000 in
theorem gX6_digest_X1_isDone : GoodIn wsX6_digest (wsV RX6 142 RX1 yX1_isDone wsX1_isDone) := goodIn_app (goodIn_of _ (by decide +kernel)) ggX6_digest_X1_isDone
set_option maxRecDepth 20000 in
theorem ggX6_digest_X1_answer : GoodIn wsX6_digest wsX1_answer := goodIn_r _ [47, 48, 49, 68, 69, 70, 71, 72, 73, 74, 75, 76, 77, 78, 79] (by decide +kernel) (by decide +kernel)
set_option maxRecDepth 20000 in
theorem gX6_digest_X1_answer : GoodIn wsX6_digest (wsV RX6 148 RX1 yX1_answer wsX1_answer) := goodIn_app (goodIn_of _ (by decide +kernel)) ggX6_digest_X1_answer
theorem dX6_digest_0 : decode cX6_digest 0 = .ok (.aload_n 0, 1) := by decide +kernel
theorem dX6_digest_1 : decode cX6_digest 1 = .ok (.getfield 10, 3) := by decide +kernel
theorem dX6_digest_4 : decode cX6_digest 4 = .ok (.ldc2_w 222, 3) := by decide +kernel
theorem dX6_digest_7 : decode cX6_digest 7 = .ok (.invokevirtual 224, 3) := by decide +kernel
theorem dX6_digest_10 : decode cX6_digest 10 = .ok (.lstore_n 1, 1) := by decide +kernel
theorem dX6_digest_11 : decode cX6_digest 11 = .ok (.lload_n 1, 1) := by decide +kernel
theorem dX6_digest_12 : decode cX6_digest 12 = .ok (.ldc2_w 228, 3) := by decide +kernel
theorem dX6_digest_15 : decode cX6_digest 15 = .ok (.lmul, 1) := by decide +kernel
theorem dX6_digest_16 : decode cX6_digest 16 = .ok (.aload_n 0, 1) := by decide +kernel
theorem dX6_digest_17 : decode cX6_digest 17 = .ok (.getfield 84, 3) := by decide +kernel
theorem dX6_digest_20 : decode cX6_digest 20 = .ok (.invokestatic 87, 3) := by decide +kernel
theorem dX6_digest_23 : decode cX6_digest 23 = .ok (.i2l, 1) := by decide +kernel
theorem dX6_digest_24 : decode cX6_digest 24 = .ok (.ladd, 1) := by decide +kernel
theorem dX6_digest_25 : decode cX6_digest 25 = .ok (.lstore_n 1, 1) := by decide +kernel
theorem dX6_digest_26 : decode cX6_digest 26 = .ok (.lload_n 1, 1) := by decide +kernel
theorem dX6_digest_27 : decode cX6_digest 27 = .ok (.ldc2_w 228, 3) := by decide +kernel
theorem dX6_digest_30 : decode cX6_digest 30 = .ok (.lmul, 1) := by decide +kernel
theorem dX6_digest_31 : decode cX6_digest 31 = .ok (.aload_n 0, 1) := by decide +kernel
theorem dX6_digest_32 : decode cX6_digest 32 = .ok (.getfield 84, 3) := by decide +kernel
theorem dX6_digest_35 : decode cX6_digest 35 = .ok (.invokestatic 91, 3) := by decide +kernel
theorem dX6_digest_38 : decode cX6_digest 38 = .ok (.i2l, 1) := by decide +kernel
theorem dX6_digest_39 : decode cX6_digest 39 = .ok (.ladd, 1) := by decide +kernel
theorem dX6_digest_40 : decode cX6_digest 40 = .ok (.lstore_n 1, 1) := by decide +kernel
theorem dX6_digest_41 : decode cX6_digest 41 = .ok (.aload_n 0, 1) := by decide +kernel
theorem dX6_digest_42 : decode cX6_digest 42 = .ok (.getfield 28, 3) := by decide +kernel
theorem dX6_digest_45 : decode cX6_digest 45 = .ok (.invokevirtual 142, 3) := by decide +kernel
theorem dX6_digest_48 : decode cX6_digest 48 = .ok (.ifCond .eq 18, 3) := by decide +kernel
theorem dX6_digest_51 : decode cX6_digest 51 = .ok (.lload_n 1, 1) := by decide +kernel
theorem dX6_digest_52 : decode cX6_digest 52 = .ok (.ldc2_w 228, 3) := by decide +kernel
theorem dX6_digest_55 : decode cX6_digest 55 = .ok (.lmul, 1) := by decide +kernel
theorem dX6_digest_56 : decode cX6_digest 56 = .ok (.aload_n 0, 1) := by decide +kernel
theorem dX6_digest_57 : decode cX6_digest 57 = .ok (.getfield 28, 3) := by decide +kernel
theorem dX6_digest_60 : decode cX6_digest 60 = .ok (.invokevirtual 148, 3) := by decide +kernel
theorem dX6_digest_63 : decode cX6_digest 63 = .ok (.i2l, 1) := by decide +kernel
theorem dX6_digest_64 : decode cX6_digest 64 = .ok (.ladd, 1) := by decide +kernel
theorem dX6_digest_65 : decode cX6_digest 65 = .ok (.lstore_n 1, 1) := by decide +kernel
theorem dX6_digest_66 : decode cX6_digest 66 = .ok (.lload_n 1, 1) := by decide +kernel
theorem dX6_digest_67 : decode cX6_digest 67 = .ok (.lreturn, 1) := by decide +kernel
set_option maxRecDepth 20000 in
theorem ggX6_ruleAt_X5_ruleOrNull : GoodIn wsX6_ruleAt wsX5_ruleOrNull := goodIn_r _ [8, 9, 10, 15, 16, 17] (by decide +kernel) (by decide +kernel)
set_option maxRecDepth 20000 in
theorem gX6_ruleAt_X5_ruleOrNull : GoodIn wsX6_ruleAt (wsV RX6 230 RX5 yX5_ruleOrNull wsX5_ruleOrNull) := goodIn_app (goodIn_of _ (by decide +kernel)) ggX6_ruleAt_X5_ruleOrNull
theorem dX6_ruleAt_0 : decode cX6_ruleAt 0 = .ok (.aload_n 0, 1) := by decide +kernel
theorem dX6_ruleAt_1 : decode cX6_ruleAt 1 = .ok (.getfield 10, 3) := by decide +kernel
theorem dX6_ruleAt_4 : decode cX6_ruleAt 4 = .ok (.iload_n 1, 1) := by decide +kernel
theorem dX6_ruleAt_5 : decode cX6_ruleAt 5 = .ok (.invokevirtual 230, 3) := by decide +kernel
theorem dX6_ruleAt_8 : decode cX6_ruleAt 8 = .ok (.astore_n 2, 1) := by decide +kernel
theorem dX6_ruleAt_9 : decode cX6_ruleAt 9 = .ok (.aload_n 2, 1) := by decide +kernel
theorem dX6_ruleAt_10 : decode cX6_ruleAt 10 = .ok (.ifnonnull 13, 3) := by decide +kernel
theorem dX6_ruleAt_13 : decode cX6_ruleAt 13 = .ok (.new 179, 3) := by decide +kernel
theorem dX6_ruleAt_16 : decode cX6_ruleAt 16 = .ok (.dup, 1) := by decide +kernel
theorem dX6_ruleAt_17 : decode cX6_ruleAt 17 = .ok (.ldc 233, 2) := by decide +kernel
theorem dX6_ruleAt_19 : decode cX6_ruleAt 19 = .ok (.invokespecial 183, 3) := by decide +kernel
theorem dX6_ruleAt_22 : decode cX6_ruleAt 22 = .ok (.athrow, 1) := by decide +kernel
theorem dX6_ruleAt_23 : decode cX6_ruleAt 23 = .ok (.aload_n 2, 1) := by decide +kernel
theorem dX6_ruleAt_24 : decode cX6_ruleAt 24 = .ok (.areturn, 1) := by decide +kernel
set_option maxRecDepth 20000 in
theorem ggX6_exploredAt_X6_needExplored : GoodIn wsX6_exploredAt wsX6_needExplored := goodIn_ca (goodIn_r _ [8, 9, 10, 3, 11, 12, 13, 14, 15, 16, 17, 24, 25, 26, 27, 28, 29, 30, 31, 32, 33, 34, 35, 36, 37, 38, 39] (by decide +kernel) (by decide +kernel)) (goodIn_sub (fun _ h => List.mem_cons_of_mem _ (List.mem_append_right _ h)) (by decide +kernel))
set_option maxRecDepth 20000 in
theorem gX6_exploredAt_X6_needExplored : GoodIn wsX6_exploredAt (wsV RX6 157 RX6 yX6_needExplored wsX6_needExplored) := goodIn_app (goodIn_of _ (by decide +kernel)) ggX6_exploredAt_X6_needExplored
set_option maxRecDepth 20000 in
theorem ggX6_exploredAt_X1_situationAt : GoodIn wsX6_exploredAt wsX1_situationAt := goodIn_r _ [21, 22, 23, 28, 29, 30, 31, 32, 33, 34, 35, 36, 37, 38, 39] (by decide +kernel) (by decide +kernel)
set_option maxRecDepth 20000 in
theorem gX6_exploredAt_X1_situationAt : GoodIn wsX6_exploredAt (wsV RX6 235 RX1 yX1_situationAt wsX1_situationAt) := goodIn_app (goodIn_of _ (by decide +kernel)) ggX6_exploredAt_X1_situationAt
theorem dX6_exploredAt_0 : decode cX6_exploredAt 0 = .ok (.aload_n 0, 1) := by decide +kernel
theorem dX6_exploredAt_1 : decode cX6_exploredAt 1 = .ok (.invokevirtual 157, 3) := by decide +kernel
theorem dX6_exploredAt_4 : decode cX6_exploredAt 4 = .ok (.aload_n 0, 1) := by decide +kernel
theorem dX6_exploredAt_5 : decode cX6_exploredAt 5 = .ok (.getfield 28, 3) := by decide +kernel
theorem dX6_exploredAt_8 : decode cX6_exploredAt 8 = .ok (.iload_n 1, 1) := by decide +kernel
theorem dX6_exploredAt_9 : decode cX6_exploredAt 9 = .ok (.invokevirtual 235, 3) := by decide +kernel
theorem dX6_exploredAt_12 : decode cX6_exploredAt 12 = .ok (.istore_n 2, 1) := by decide +kernel
theorem dX6_exploredAt_13 : decode cX6_exploredAt 13 = .ok (.iload_n 2, 1) := by decide +kernel
theorem dX6_exploredAt_14 : decode cX6_exploredAt 14 = .ok (.iconst (-1), 1) := by decide +kernel
theorem dX6_exploredAt_15 : decode cX6_exploredAt 15 = .ok (.if_icmp .ne 13, 3) := by decide +kernel
theorem dX6_exploredAt_18 : decode cX6_exploredAt 18 = .ok (.new 179, 3) := by decide +kernel
theorem dX6_exploredAt_21 : decode cX6_exploredAt 21 = .ok (.dup, 1) := by decide +kernel
theorem dX6_exploredAt_22 : decode cX6_exploredAt 22 = .ok (.ldc 238, 2) := by decide +kernel
theorem dX6_exploredAt_24 : decode cX6_exploredAt 24 = .ok (.invokespecial 183, 3) := by decide +kernel
theorem dX6_exploredAt_27 : decode cX6_exploredAt 27 = .ok (.athrow, 1) := by decide +kernel
theorem dX6_exploredAt_28 : decode cX6_exploredAt 28 = .ok (.iload_n 2, 1) := by decide +kernel
theorem dX6_exploredAt_29 : decode cX6_exploredAt 29 = .ok (.ireturn, 1) := by decide +kernel
set_option maxRecDepth 20000 in
theorem ggX6_needExplored_X1_isUsable : GoodIn wsX6_needExplored wsX1_isUsable := goodIn_r _ [8, 9, 10, 15, 16, 17, 18, 19, 20, 21, 22, 23, 24, 25, 26] (by decide +kernel) (by decide +kernel)
set_option maxRecDepth 20000 in
theorem gX6_needExplored_X1_isUsable : GoodIn wsX6_needExplored (wsV RX6 240 RX1 yX1_isUsable wsX1_isUsable) := goodIn_app (goodIn_of _ (by decide +kernel)) ggX6_needExplored_X1_isUsable
theorem dX6_needExplored_0 : decode cX6_needExplored 0 = .ok (.aload_n 0, 1) := by decide +kernel
theorem dX6_needExplored_1 : decode cX6_needExplored 1 = .ok (.getfield 28, 3) := by decide +kernel
theorem dX6_needExplored_4 : decode cX6_needExplored 4 = .ok (.invokevirtual 240, 3) := by decide +kernel
theorem dX6_needExplored_7 : decode cX6_needExplored 7 = .ok (.ifCond .ne 13, 3) := by decide +kernel
theorem dX6_needExplored_10 : decode cX6_needExplored 10 = .ok (.new 43, 3) := by decide +kernel
theorem dX6_needExplored_13 : decode cX6_needExplored 13 = .ok (.dup, 1) := by decide +kernel
theorem dX6_needExplored_14 : decode cX6_needExplored 14 = .ok (.ldc 243, 2) := by decide +kernel
theorem dX6_needExplored_16 : decode cX6_needExplored 16 = .ok (.invokespecial 47, 3) := by decide +kernel
theorem dX6_needExplored_19 : decode cX6_needExplored 19 = .ok (.athrow, 1) := by decide +kernel
theorem dX6_needExplored_20 : decode cX6_needExplored 20 = .ok (.return_, 1) := by decide +kernel
theorem dX6_needFact_0 : decode cX6_needFact 0 = .ok (.iload_n 0, 1) := by decide +kernel
theorem dX6_needFact_1 : decode cX6_needFact 1 = .ok (.ifCond .lt 9, 3) := by decide +kernel
theorem dX6_needFact_4 : decode cX6_needFact 4 = .ok (.iload_n 0, 1) := by decide +kernel
theorem dX6_needFact_5 : decode cX6_needFact 5 = .ok (.bipush 6, 2) := by decide +kernel
theorem dX6_needFact_7 : decode cX6_needFact 7 = .ok (.if_icmp .lt 13, 3) := by decide +kernel
theorem dX6_needFact_10 : decode cX6_needFact 10 = .ok (.new 179, 3) := by decide +kernel
theorem dX6_needFact_13 : decode cX6_needFact 13 = .ok (.dup, 1) := by decide +kernel
theorem dX6_needFact_14 : decode cX6_needFact 14 = .ok (.ldc 245, 2) := by decide +kernel
theorem dX6_needFact_16 : decode cX6_needFact 16 = .ok (.invokespecial 183, 3) := by decide +kernel
theorem dX6_needFact_19 : decode cX6_needFact 19 = .ok (.athrow, 1) := by decide +kernel
theorem dX6_needFact_20 : decode cX6_needFact 20 = .ok (.return_, 1) := by decide +kernel
theorem dX6_needFactSet_0 : decode cX6_needFactSet 0 = .ok (.iload_n 0, 1) := by decide +kernel
theorem dX6_needFactSet_1 : decode cX6_needFactSet 1 = .ok (.ifCond .lt 9, 3) := by decide +kernel
theorem dX6_needFactSet_4 : decode cX6_needFactSet 4 = .ok (.iload_n 0, 1) := by decide +kernel
theorem dX6_needFactSet_5 : decode cX6_needFactSet 5 = .ok (.bipush 63, 2) := by decide +kernel
theorem dX6_needFactSet_7 : decode cX6_needFactSet 7 = .ok (.if_icmp .le 13, 3) := by decide +kernel
theorem dX6_needFactSet_10 : decode cX6_needFactSet 10 = .ok (.new 105, 3) := by decide +kernel
theorem dX6_needFactSet_13 : decode cX6_needFactSet 13 = .ok (.dup, 1) := by decide +kernel
theorem dX6_needFactSet_14 : decode cX6_needFactSet 14 = .ok (.ldc 247, 2) := by decide +kernel
theorem dX6_needFactSet_16 : decode cX6_needFactSet 16 = .ok (.invokespecial 109, 3) := by decide +kernel
theorem dX6_needFactSet_19 : decode cX6_needFactSet 19 = .ok (.athrow, 1) := by decide +kernel
theorem dX6_needFactSet_20 : decode cX6_needFactSet 20 = .ok (.return_, 1) := by decide +kernel
theorem dX6_changeCode_0 : decode cX6_changeCode 0 = .ok (.iconst 2, 1) := by decide +kernel
theorem dX6_changeCode_1 : decode cX6_changeCode 1 = .ok (.iload_n 0, 1) := by decide +kernel
theorem dX6_changeCode_2 : decode cX6_changeCode 2 = .ok (.imul, 1) := by decide +kernel
theorem dX6_changeCode_3 : decode cX6_changeCode 3 = .ok (.iload_n 1, 1) := by decide +kernel
theorem dX6_changeCode_4 : decode cX6_changeCode 4 = .ok (.ifCond .eq 7, 3) := by decide +kernel
theorem dX6_changeCode_7 : decode cX6_changeCode 7 = .ok (.iconst 1, 1) := by decide +kernel
theorem dX6_changeCode_8 : decode cX6_changeCode 8 = .ok (.goto 4, 3) := by decide +kernel
theorem dX6_changeCode_11 : decode cX6_changeCode 11 = .ok (.iconst 0, 1) := by decide +kernel
theorem dX6_changeCode_12 : decode cX6_changeCode 12 = .ok (.iadd, 1) := by decide +kernel
theorem dX6_changeCode_13 : decode cX6_changeCode 13 = .ok (.ireturn, 1) := by decide +kernel
theorem dX6_situationOf_0 : decode cX6_situationOf 0 = .ok (.iload_n 1, 1) := by decide +kernel
theorem dX6_situationOf_1 : decode cX6_situationOf 1 = .ok (.bipush 6, 2) := by decide +kernel
theorem dX6_situationOf_3 : decode cX6_situationOf 3 = .ok (.ishl, 1) := by decide +kernel
theorem dX6_situationOf_4 : decode cX6_situationOf 4 = .ok (.iload_n 0, 1) := by decide +kernel
theorem dX6_situationOf_5 : decode cX6_situationOf 5 = .ok (.ior, 1) := by decide +kernel
theorem dX6_situationOf_6 : decode cX6_situationOf 6 = .ok (.ireturn, 1) := by decide +kernel
theorem dX6_factsIn_0 : decode cX6_factsIn 0 = .ok (.iload_n 0, 1) := by decide +kernel
theorem dX6_factsIn_1 : decode cX6_factsIn 1 = .ok (.bipush 63, 2) := by decide +kernel
theorem dX6_factsIn_3 : decode cX6_factsIn 3 = .ok (.iand, 1) := by decide +kernel
theorem dX6_factsIn_4 : decode cX6_factsIn 4 = .ok (.ireturn, 1) := by decide +kernel
theorem dX6_triggeredIn_0 : decode cX6_triggeredIn 0 = .ok (.iload_n 0, 1) := by decide +kernel
theorem dX6_triggeredIn_1 : decode cX6_triggeredIn 1 = .ok (.bipush 6, 2) := by decide +kernel
theorem dX6_triggeredIn_3 : decode cX6_triggeredIn 3 = .ok (.ishr, 1) := by decide +kernel
theorem dX6_triggeredIn_4 : decode cX6_triggeredIn 4 = .ok (.ireturn, 1) := by decide +kernel
theorem dJ6_numberOfTrailingZeros_0f7a4_0 : decode cJ6_numberOfTrailingZeros_0f7a4 0 = .ok (.iload_n 0, 1) := by decide +kernel
theorem dJ6_numberOfTrailingZeros_0f7a4_1 : decode cJ6_numberOfTrailingZeros_0f7a4 1 = .ok (.iconst (-1), 1) := by decide +kernel
theorem dJ6_numberOfTrailingZeros_0f7a4_2 : decode cJ6_numberOfTrailingZeros_0f7a4 2 = .ok (.ixor, 1) := by decide +kernel
theorem dJ6_numberOfTrailingZeros_0f7a4_3 : decode cJ6_numberOfTrailingZeros_0f7a4 3 = .ok (.iload_n 0, 1) := by decide +kernel
theorem dJ6_numberOfTrailingZeros_0f7a4_4 : decode cJ6_numberOfTrailingZeros_0f7a4 4 = .ok (.iconst 1, 1) := by decide +kernel
theorem dJ6_numberOfTrailingZeros_0f7a4_5 : decode cJ6_numberOfTrailingZeros_0f7a4 5 = .ok (.isub, 1) := by decide +kernel
theorem dJ6_numberOfTrailingZeros_0f7a4_6 : decode cJ6_numberOfTrailingZeros_0f7a4 6 = .ok (.iand, 1) := by decide +kernel
theorem dJ6_numberOfTrailingZeros_0f7a4_7 : decode cJ6_numberOfTrailingZeros_0f7a4 7 = .ok (.istore_n 0, 1) := by decide +kernel
theorem dJ6_numberOfTrailingZeros_0f7a4_8 : decode cJ6_numberOfTrailingZeros_0f7a4 8 = .ok (.iload_n 0, 1) := by decide +kernel
theorem dJ6_numberOfTrailingZeros_0f7a4_9 : decode cJ6_numberOfTrailingZeros_0f7a4 9 = .ok (.ifCond .gt 8, 3) := by decide +kernel
theorem dJ6_numberOfTrailingZeros_0f7a4_12 : decode cJ6_numberOfTrailingZeros_0f7a4 12 = .ok (.iload_n 0, 1) := by decide +kernel
theorem dJ6_numberOfTrailingZeros_0f7a4_13 : decode cJ6_numberOfTrailingZeros_0f7a4 13 = .ok (.bipush 32, 2) := by decide +kernel
theorem dJ6_numberOfTrailingZeros_0f7a4_15 : decode cJ6_numberOfTrailingZeros_0f7a4 15 = .ok (.iand, 1) := by decide +kernel
theorem dJ6_numberOfTrailingZeros_0f7a4_16 : decode cJ6_numberOfTrailingZeros_0f7a4 16 = .ok (.ireturn, 1) := by decide +kernel
theorem dJ6_numberOfTrailingZeros_0f7a4_17 : decode cJ6_numberOfTrailingZeros_0f7a4 17 = .ok (.iconst 1, 1) := by decide +kernel
theorem dJ6_numberOfTrailingZeros_0f7a4_18 : decode cJ6_numberOfTrailingZeros_0f7a4 18 = .ok (.istore_n 1, 1) := by decide +kernel
theorem dJ6_numberOfTrailingZeros_0f7a4_19 : decode cJ6_numberOfTrailingZeros_0f7a4 19 = .ok (.iload_n 0, 1) := by decide +kernel
theorem dJ6_numberOfTrailingZeros_0f7a4_20 : decode cJ6_numberOfTrailingZeros_0f7a4 20 = .ok (.ldc_w 264, 3) := by decide +kernel
theorem dJ6_numberOfTrailingZeros_0f7a4_23 : decode cJ6_numberOfTrailingZeros_0f7a4 23 = .ok (.if_icmp .le 11, 3) := by decide +kernel
theorem dJ6_numberOfTrailingZeros_0f7a4_26 : decode cJ6_numberOfTrailingZeros_0f7a4 26 = .ok (.iinc 1 16, 3) := by decide +kernel
theorem dJ6_numberOfTrailingZeros_0f7a4_29 : decode cJ6_numberOfTrailingZeros_0f7a4 29 = .ok (.iload_n 0, 1) := by decide +kernel
theorem dJ6_numberOfTrailingZeros_0f7a4_30 : decode cJ6_numberOfTrailingZeros_0f7a4 30 = .ok (.bipush 16, 2) := by decide +kernel
theorem dJ6_numberOfTrailingZeros_0f7a4_32 : decode cJ6_numberOfTrailingZeros_0f7a4 32 = .ok (.iushr, 1) := by decide +kernel
theorem dJ6_numberOfTrailingZeros_0f7a4_33 : decode cJ6_numberOfTrailingZeros_0f7a4 33 = .ok (.istore_n 0, 1) := by decide +kernel
theorem dJ6_numberOfTrailingZeros_0f7a4_34 : decode cJ6_numberOfTrailingZeros_0f7a4 34 = .ok (.iload_n 0, 1) := by decide +kernel
theorem dJ6_numberOfTrailingZeros_0f7a4_35 : decode cJ6_numberOfTrailingZeros_0f7a4 35 = .ok (.sipush 256, 3) := by decide +kernel
theorem dJ6_numberOfTrailingZeros_0f7a4_38 : decode cJ6_numberOfTrailingZeros_0f7a4 38 = .ok (.if_icmp .le 11, 3) := by decide +kernel
theorem dJ6_numberOfTrailingZeros_0f7a4_41 : decode cJ6_numberOfTrailingZeros_0f7a4 41 = .ok (.iinc 1 8, 3) := by decide +kernel
theorem dJ6_numberOfTrailingZeros_0f7a4_44 : decode cJ6_numberOfTrailingZeros_0f7a4 44 = .ok (.iload_n 0, 1) := by decide +kernel
theorem dJ6_numberOfTrailingZeros_0f7a4_45 : decode cJ6_numberOfTrailingZeros_0f7a4 45 = .ok (.bipush 8, 2) := by decide +kernel
theorem dJ6_numberOfTrailingZeros_0f7a4_47 : decode cJ6_numberOfTrailingZeros_0f7a4 47 = .ok (.iushr, 1) := by decide +kernel
theorem dJ6_numberOfTrailingZeros_0f7a4_48 : decode cJ6_numberOfTrailingZeros_0f7a4 48 = .ok (.istore_n 0, 1) := by decide +kernel
theorem dJ6_numberOfTrailingZeros_0f7a4_49 : decode cJ6_numberOfTrailingZeros_0f7a4 49 = .ok (.iload_n 0, 1) := by decide +kernel
theorem dJ6_numberOfTrailingZeros_0f7a4_50 : decode cJ6_numberOfTrailingZeros_0f7a4 50 = .ok (.bipush 16, 2) := by decide +kernel
theorem dJ6_numberOfTrailingZeros_0f7a4_52 : decode cJ6_numberOfTrailingZeros_0f7a4 52 = .ok (.if_icmp .le 10, 3) := by decide +kernel
theorem dJ6_numberOfTrailingZeros_0f7a4_55 : decode cJ6_numberOfTrailingZeros_0f7a4 55 = .ok (.iinc 1 4, 3) := by decide +kernel
theorem dJ6_numberOfTrailingZeros_0f7a4_58 : decode cJ6_numberOfTrailingZeros_0f7a4 58 = .ok (.iload_n 0, 1) := by decide +kernel
theorem dJ6_numberOfTrailingZeros_0f7a4_59 : decode cJ6_numberOfTrailingZeros_0f7a4 59 = .ok (.iconst 4, 1) := by decide +kernel
theorem dJ6_numberOfTrailingZeros_0f7a4_60 : decode cJ6_numberOfTrailingZeros_0f7a4 60 = .ok (.iushr, 1) := by decide +kernel
theorem dJ6_numberOfTrailingZeros_0f7a4_61 : decode cJ6_numberOfTrailingZeros_0f7a4 61 = .ok (.istore_n 0, 1) := by decide +kernel
theorem dJ6_numberOfTrailingZeros_0f7a4_62 : decode cJ6_numberOfTrailingZeros_0f7a4 62 = .ok (.iload_n 0, 1) := by decide +kernel
theorem dJ6_numberOfTrailingZeros_0f7a4_63 : decode cJ6_numberOfTrailingZeros_0f7a4 63 = .ok (.iconst 4, 1) := by decide +kernel
theorem dJ6_numberOfTrailingZeros_0f7a4_64 : decode cJ6_numberOfTrailingZeros_0f7a4 64 = .ok (.if_icmp .le 10, 3) := by decide +kernel
theorem dJ6_numberOfTrailingZeros_0f7a4_67 : decode cJ6_numberOfTrailingZeros_0f7a4 67 = .ok (.iinc 1 2, 3) := by decide +kernel
theorem dJ6_numberOfTrailingZeros_0f7a4_70 : decode cJ6_numberOfTrailingZeros_0f7a4 70 = .ok (.iload_n 0, 1) := by decide +kernel
theorem dJ6_numberOfTrailingZeros_0f7a4_71 : decode cJ6_numberOfTrailingZeros_0f7a4 71 = .ok (.iconst 2, 1) := by decide +kernel
theorem dJ6_numberOfTrailingZeros_0f7a4_72 : decode cJ6_numberOfTrailingZeros_0f7a4 72 = .ok (.iushr, 1) := by decide +kernel
theorem dJ6_numberOfTrailingZeros_0f7a4_73 : decode cJ6_numberOfTrailingZeros_0f7a4 73 = .ok (.istore_n 0, 1) := by decide +kernel
theorem dJ6_numberOfTrailingZeros_0f7a4_74 : decode cJ6_numberOfTrailingZeros_0f7a4 74 = .ok (.iload_n 1, 1) := by decide +kernel
theorem dJ6_numberOfTrailingZeros_0f7a4_75 : decode cJ6_numberOfTrailingZeros_0f7a4 75 = .ok (.iload_n 0, 1) := by decide +kernel
theorem dJ6_numberOfTrailingZeros_0f7a4_76 : decode cJ6_numberOfTrailingZeros_0f7a4 76 = .ok (.iconst 1, 1) := by decide +kernel
theorem dJ6_numberOfTrailingZeros_0f7a4_77 : decode cJ6_numberOfTrailingZeros_0f7a4 77 = .ok (.iushr, 1) := by decide +kernel
theorem dJ6_numberOfTrailingZeros_0f7a4_78 : decode cJ6_numberOfTrailingZeros_0f7a4 78 = .ok (.iadd, 1) := by decide +kernel
theorem dJ6_numberOfTrailingZeros_0f7a4_79 : decode cJ6_numberOfTrailingZeros_0f7a4 79 = .ok (.ireturn, 1) := by decide +kernel
theorem dJ6_bitCount_0f7a4_0 : decode cJ6_bitCount_0f7a4 0 = .ok (.iload_n 0, 1) := by decide +kernel
theorem dJ6_bitCount_0f7a4_1 : decode cJ6_bitCount_0f7a4 1 = .ok (.iload_n 0, 1) := by decide +kernel
theorem dJ6_bitCount_0f7a4_2 : decode cJ6_bitCount_0f7a4 2 = .ok (.iconst 1, 1) := by decide +kernel
theorem dJ6_bitCount_0f7a4_3 : decode cJ6_bitCount_0f7a4 3 = .ok (.iushr, 1) := by decide +kernel
theorem dJ6_bitCount_0f7a4_4 : decode cJ6_bitCount_0f7a4 4 = .ok (.ldc_w 265, 3) := by decide +kernel
theorem dJ6_bitCount_0f7a4_7 : decode cJ6_bitCount_0f7a4 7 = .ok (.iand, 1) := by decide +kernel
theorem dJ6_bitCount_0f7a4_8 : decode cJ6_bitCount_0f7a4 8 = .ok (.isub, 1) := by decide +kernel
theorem dJ6_bitCount_0f7a4_9 : decode cJ6_bitCount_0f7a4 9 = .ok (.istore_n 0, 1) := by decide +kernel
theorem dJ6_bitCount_0f7a4_10 : decode cJ6_bitCount_0f7a4 10 = .ok (.iload_n 0, 1) := by decide +kernel
theorem dJ6_bitCount_0f7a4_11 : decode cJ6_bitCount_0f7a4 11 = .ok (.ldc_w 266, 3) := by decide +kernel
theorem dJ6_bitCount_0f7a4_14 : decode cJ6_bitCount_0f7a4 14 = .ok (.iand, 1) := by decide +kernel
theorem dJ6_bitCount_0f7a4_15 : decode cJ6_bitCount_0f7a4 15 = .ok (.iload_n 0, 1) := by decide +kernel
theorem dJ6_bitCount_0f7a4_16 : decode cJ6_bitCount_0f7a4 16 = .ok (.iconst 2, 1) := by decide +kernel
theorem dJ6_bitCount_0f7a4_17 : decode cJ6_bitCount_0f7a4 17 = .ok (.iushr, 1) := by decide +kernel
theorem dJ6_bitCount_0f7a4_18 : decode cJ6_bitCount_0f7a4 18 = .ok (.ldc_w 266, 3) := by decide +kernel
theorem dJ6_bitCount_0f7a4_21 : decode cJ6_bitCount_0f7a4 21 = .ok (.iand, 1) := by decide +kernel
theorem dJ6_bitCount_0f7a4_22 : decode cJ6_bitCount_0f7a4 22 = .ok (.iadd, 1) := by decide +kernel
theorem dJ6_bitCount_0f7a4_23 : decode cJ6_bitCount_0f7a4 23 = .ok (.istore_n 0, 1) := by decide +kernel
theorem dJ6_bitCount_0f7a4_24 : decode cJ6_bitCount_0f7a4 24 = .ok (.iload_n 0, 1) := by decide +kernel
theorem dJ6_bitCount_0f7a4_25 : decode cJ6_bitCount_0f7a4 25 = .ok (.iload_n 0, 1) := by decide +kernel
theorem dJ6_bitCount_0f7a4_26 : decode cJ6_bitCount_0f7a4 26 = .ok (.iconst 4, 1) := by decide +kernel
theorem dJ6_bitCount_0f7a4_27 : decode cJ6_bitCount_0f7a4 27 = .ok (.iushr, 1) := by decide +kernel
theorem dJ6_bitCount_0f7a4_28 : decode cJ6_bitCount_0f7a4 28 = .ok (.iadd, 1) := by decide +kernel
theorem dJ6_bitCount_0f7a4_29 : decode cJ6_bitCount_0f7a4 29 = .ok (.ldc_w 267, 3) := by decide +kernel
theorem dJ6_bitCount_0f7a4_32 : decode cJ6_bitCount_0f7a4 32 = .ok (.iand, 1) := by decide +kernel
theorem dJ6_bitCount_0f7a4_33 : decode cJ6_bitCount_0f7a4 33 = .ok (.istore_n 0, 1) := by decide +kernel
theorem dJ6_bitCount_0f7a4_34 : decode cJ6_bitCount_0f7a4 34 = .ok (.iload_n 0, 1) := by decide +kernel
theorem dJ6_bitCount_0f7a4_35 : decode cJ6_bitCount_0f7a4 35 = .ok (.iload_n 0, 1) := by decide +kernel
theorem dJ6_bitCount_0f7a4_36 : decode cJ6_bitCount_0f7a4 36 = .ok (.bipush 8, 2) := by decide +kernel
theorem dJ6_bitCount_0f7a4_38 : decode cJ6_bitCount_0f7a4 38 = .ok (.iushr, 1) := by decide +kernel
theorem dJ6_bitCount_0f7a4_39 : decode cJ6_bitCount_0f7a4 39 = .ok (.iadd, 1) := by decide +kernel
theorem dJ6_bitCount_0f7a4_40 : decode cJ6_bitCount_0f7a4 40 = .ok (.istore_n 0, 1) := by decide +kernel
theorem dJ6_bitCount_0f7a4_41 : decode cJ6_bitCount_0f7a4 41 = .ok (.iload_n 0, 1) := by decide +kernel
theorem dJ6_bitCount_0f7a4_42 : decode cJ6_bitCount_0f7a4 42 = .ok (.iload_n 0, 1) := by decide +kernel
theorem dJ6_bitCount_0f7a4_43 : decode cJ6_bitCount_0f7a4 43 = .ok (.bipush 16, 2) := by decide +kernel
theorem dJ6_bitCount_0f7a4_45 : decode cJ6_bitCount_0f7a4 45 = .ok (.iushr, 1) := by decide +kernel
theorem dJ6_bitCount_0f7a4_46 : decode cJ6_bitCount_0f7a4 46 = .ok (.iadd, 1) := by decide +kernel
theorem dJ6_bitCount_0f7a4_47 : decode cJ6_bitCount_0f7a4 47 = .ok (.istore_n 0, 1) := by decide +kernel
theorem dJ6_bitCount_0f7a4_48 : decode cJ6_bitCount_0f7a4 48 = .ok (.iload_n 0, 1) := by decide +kernel
theorem dJ6_bitCount_0f7a4_49 : decode cJ6_bitCount_0f7a4 49 = .ok (.bipush 63, 2) := by decide +kernel
theorem dJ6_bitCount_0f7a4_51 : decode cJ6_bitCount_0f7a4 51 = .ok (.iand, 1) := by decide +kernel
theorem dJ6_bitCount_0f7a4_52 : decode cJ6_bitCount_0f7a4 52 = .ok (.ireturn, 1) := by decide +kernel
theorem dJ9_max_7cf53_0 : decode cJ9_max_7cf53 0 = .ok (.iload_n 0, 1) := by decide +kernel
theorem dJ9_max_7cf53_1 : decode cJ9_max_7cf53 1 = .ok (.iload_n 1, 1) := by decide +kernel
theorem dJ9_max_7cf53_2 : decode cJ9_max_7cf53 2 = .ok (.if_icmp .lt 7, 3) := by decide +kernel
theorem dJ9_max_7cf53_5 : decode cJ9_max_7cf53 5 = .ok (.iload_n 0, 1) := by decide +kernel
theorem dJ9_max_7cf53_6 : decode cJ9_max_7cf53 6 = .ok (.goto 4, 3) := by decide +kernel
theorem dJ9_max_7cf53_9 : decode cJ9_max_7cf53 9 = .ok (.iload_n 1, 1) := by decide +kernel
theorem dJ9_max_7cf53_10 : decode cJ9_max_7cf53 10 = .ok (.ireturn, 1) := by decide +kernel
abbrev vwCl : List vw_C := [(RX0, TX0, 3), (RX1, TX1, 12), (RX2, TX2, 2), (RX3, TX3, 8), (RX4, TX4, 11), (RX5, TX5, 3), (RX6, TX6, 4), (RX7, TX7, 18)]
end
section

end
section
/-! The ZZ layer: a world of n cells at fixed addresses ad 0 .. ad (n-1), its contents f k; ZZ f L pc st: from pc, with the values L in the frame and the stack st, the machine comes to Q. -/
def gW (n : Nat) (ad : Nat → Nat) (f : Nat → va_E) : va_W := (List.range n).map (fun k => (ad k, f k))
def gA (n : Nat) (ad : Nat → Nat) (sz : Nat) : Nat → Prop := fun q => (∃ k, k < n ∧ q = ad k) ∨ sz ≤ q
def gI (n : Nat) (ad : Nat → Nat) : Prop := ∀ i j : Nat, i < n → j < n → ad i = ad j → i = j
theorem gW_get {n : Nat} {ad : Nat → Nat} {f : Nat → va_E} {k : Nat} (h : k < n) : (gW n ad f)[k]? = some (ad k, f k) := by
  simp [gW, h]
theorem gW_inv {n : Nat} {ad : Nat → Nat} {f : Nat → va_E} {k : Nat} {q : Nat × va_E} (h : (gW n ad f)[k]? = some q) : k < n ∧ q = (ad k, f k) := by
  by_cases hk : k < n
  · rw [gW_get hk] at h
    exact ⟨hk, (Option.some.inj h).symm⟩
  · simp [gW, hk] at h
theorem gP_of {D : va_G} {cl : List vw_C} {n : Nat} {ad : Nat → Nat} {f : Nat → va_E} {H : Heap} (h : ∀ k, k < n → va_at D cl (ad k, f k) H) : va_P D cl (gW n ad f) H := by
  intro k q hq
  obtain ⟨h1, rfl⟩ := gW_inv hq
  exact h k h1
theorem gP_at {D : va_G} {cl : List vw_C} {n : Nat} {ad : Nat → Nat} {f : Nat → va_E} {H : Heap} (h : va_P D cl (gW n ad f) H) {k : Nat} (hk : k < n) : va_at D cl (ad k, f k) H := h k _ (gW_get hk)
theorem gD {n : Nat} {ad : Nat → Nat} {f : Nat → va_E} {sz : Nat} (hI : gI n ad) : va_D (gA n ad sz) (gW n ad f) := by
  refine ⟨fun i j x y hi hj hxy => ?_, fun k q hk => ?_⟩
  · obtain ⟨h1, rfl⟩ := gW_inv hi
    obtain ⟨h2, rfl⟩ := gW_inv hj
    exact hI i j h1 h2 hxy
  · obtain ⟨h1, rfl⟩ := gW_inv hk
    exact Or.inl ⟨k, h1, rfl⟩
theorem gP_set {D : va_G} {cl : List vw_C} {n : Nat} {ad : Nat → Nat} {f f' : Nat → va_E} {q : Nat} {e : va_E} {H : Heap} (hq : q < n) (h : va_P D cl ((gW n ad f).set q (ad q, e)) H) (h1 : f' q = e) (h2 : ∀ k, k < n → k ≠ q → f' k = f k) : va_P D cl (gW n ad f') H := by
  refine gP_of fun k hk => ?_
  by_cases hkq : k = q
  · subst hkq
    rw [h1]
    refine h k _ ?_
    rw [List.getElem?_set_self (by simp [gW, hq])]
  · rw [h2 k hk hkq]
    refine h k _ ?_
    rw [List.getElem?_set_ne (Ne.symm hkq), gW_get hk]
theorem gP_cong {D : va_G} {cl : List vw_C} {n : Nat} {ad : Nat → Nat} {f f' : Nat → va_E} {H : Heap} (h : va_P D cl (gW n ad f) H) (h2 : ∀ k, k < n → f' k = f k) : va_P D cl (gW n ad f') H := gP_of fun k hk => by rw [h2 k hk]; exact gP_at h hk
def zc (p : Program) (c : Code) (cc : ByteArray) : Prop := p.tables.exec = Jvm.exec ∧ c.code = cc
def ZZ (p : Program) (l : Launch) (e : Env) (R : Room) (s : State) (m : MethodId) (args : Array Value) (below : List Frame) (meth : Method) (c : Code) (D : va_G) (cl : List vw_C) (n : Nat) (ad : Nat → Nat) (nL cells slots : Nat) (Q : State → Prop) (f : Nat → va_E) (L : List (Nat × Value)) (pc : Nat) (st : List Value) : Prop :=
  ∀ (H : Heap) (locs : List Loc) (ls : Array Slot), va_P D cl (gW n ad f) H → va_S (gA n ad s.heap.size) s.heap H locs → lv_has ls nL L → W p l e R s m args below meth c H locs cells slots Q (F0 m pc ls st)
section ZK
variable {p : Program} {l : Launch} {e : Env} {R : Room} {s : State} {m : MethodId} {args : Array Value} {below : List Frame} {meth : Method} {c : Code} {D : va_G} {cl : List vw_C} {n : Nat} {ad : Nat → Nat} {nL cells slots : Nat} {Q : State → Prop} {f : Nat → va_E} {L : List (Nat × Value)} {pc : Nat} {st : List Value} {cc : ByteArray}

theorem z_iconst (C : zc p c cc) {z : Int} {v : Int32} (hv : Int32.ofInt z = v) (hdg : decode cc pc = .ok (.iconst z, 1)) (K : ZZ p l e R s m args below meth c D cl n ad nL cells slots Q f L (pc + 1) (.int v :: st)) : ZZ p l e R s m args below meth c D cl n ad nL cells slots Q f L pc st := fun H locs ls hP hS hl => lv_iconst C.1 C.2 hdg hv (K H locs ls hP hS hl)
theorem z_bipush (C : zc p c cc) {z : Int} {v : Int32} (hv : (Int8.ofInt z).toInt32 = v) (hdg : decode cc pc = .ok (.bipush z, 2)) (K : ZZ p l e R s m args below meth c D cl n ad nL cells slots Q f L (pc + 2) (.int v :: st)) : ZZ p l e R s m args below meth c D cl n ad nL cells slots Q f L pc st := fun H locs ls hP hS hl => lv_bipush C.1 C.2 hdg hv (K H locs ls hP hS hl)
theorem z_sipush (C : zc p c cc) {z : Int} {v : Int32} (hv : (Int16.ofInt z).toInt32 = v) (hdg : decode cc pc = .ok (.sipush z, 3)) (K : ZZ p l e R s m args below meth c D cl n ad nL cells slots Q f L (pc + 3) (.int v :: st)) : ZZ p l e R s m args below meth c D cl n ad nL cells slots Q f L pc st := fun H locs ls hP hS hl => lv_sipush C.1 C.2 hdg hv (K H locs ls hP hS hl)
theorem z_lconst (C : zc p c cc) {z : Fin 2} {v : Int64} (hv : Int64.ofNat (z : Nat) = v) (hdg : decode cc pc = .ok (.lconst z, 1)) (K : ZZ p l e R s m args below meth c D cl n ad nL cells slots Q f L (pc + 1) (.long v :: st)) : ZZ p l e R s m args below meth c D cl n ad nL cells slots Q f L pc st := fun H locs ls hP hS hl => lv_lconst C.1 C.2 hdg hv (K H locs ls hP hS hl)
theorem z_null (C : zc p c cc)  (hdg : decode cc pc = .ok (.aconst_null, 1)) (K : ZZ p l e R s m args below meth c D cl n ad nL cells slots Q f L (pc + 1) (.null :: st)) : ZZ p l e R s m args below meth c D cl n ad nL cells slots Q f L pc st := fun H locs ls hP hS hl => lv_null C.1 C.2 hdg  (K H locs ls hP hS hl)
theorem z_dconst0 (C : zc p c cc)  (hdg : decode cc pc = .ok (.dconst 0, 1)) (K : ZZ p l e R s m args below meth c D cl n ad nL cells slots Q f L (pc + 1) (.double FP.dconst0 :: st)) : ZZ p l e R s m args below meth c D cl n ad nL cells slots Q f L pc st := fun H locs ls hP hS hl => lv_dconst0 C.1 C.2 hdg  (K H locs ls hP hS hl)
theorem z_iadd (C : zc p c cc) {x y : Int32} (hdg : decode cc pc = .ok (.iadd, 1)) (K : ZZ p l e R s m args below meth c D cl n ad nL cells slots Q f L (pc + 1) (.int (x + y) :: st)) : ZZ p l e R s m args below meth c D cl n ad nL cells slots Q f L pc (.int y :: .int x :: st) := fun H locs ls hP hS hl => lv_iadd C.1 C.2 hdg  (K H locs ls hP hS hl)
theorem z_isub (C : zc p c cc) {x y : Int32} (hdg : decode cc pc = .ok (.isub, 1)) (K : ZZ p l e R s m args below meth c D cl n ad nL cells slots Q f L (pc + 1) (.int (x - y) :: st)) : ZZ p l e R s m args below meth c D cl n ad nL cells slots Q f L pc (.int y :: .int x :: st) := fun H locs ls hP hS hl => lv_isub C.1 C.2 hdg  (K H locs ls hP hS hl)
theorem z_imul (C : zc p c cc) {x y : Int32} (hdg : decode cc pc = .ok (.imul, 1)) (K : ZZ p l e R s m args below meth c D cl n ad nL cells slots Q f L (pc + 1) (.int (x * y) :: st)) : ZZ p l e R s m args below meth c D cl n ad nL cells slots Q f L pc (.int y :: .int x :: st) := fun H locs ls hP hS hl => lv_imul C.1 C.2 hdg  (K H locs ls hP hS hl)
theorem z_iand (C : zc p c cc) {x y : Int32} (hdg : decode cc pc = .ok (.iand, 1)) (K : ZZ p l e R s m args below meth c D cl n ad nL cells slots Q f L (pc + 1) (.int (x &&& y) :: st)) : ZZ p l e R s m args below meth c D cl n ad nL cells slots Q f L pc (.int y :: .int x :: st) := fun H locs ls hP hS hl => lv_iand C.1 C.2 hdg  (K H locs ls hP hS hl)
theorem z_ior (C : zc p c cc) {x y : Int32} (hdg : decode cc pc = .ok (.ior, 1)) (K : ZZ p l e R s m args below meth c D cl n ad nL cells slots Q f L (pc + 1) (.int (x ||| y) :: st)) : ZZ p l e R s m args below meth c D cl n ad nL cells slots Q f L pc (.int y :: .int x :: st) := fun H locs ls hP hS hl => lv_ior C.1 C.2 hdg  (K H locs ls hP hS hl)
theorem z_ixor (C : zc p c cc) {x y : Int32} (hdg : decode cc pc = .ok (.ixor, 1)) (K : ZZ p l e R s m args below meth c D cl n ad nL cells slots Q f L (pc + 1) (.int (x ^^^ y) :: st)) : ZZ p l e R s m args below meth c D cl n ad nL cells slots Q f L pc (.int y :: .int x :: st) := fun H locs ls hP hS hl => lv_ixor C.1 C.2 hdg  (K H locs ls hP hS hl)
theorem z_ladd (C : zc p c cc) {x y : Int64} (hdg : decode cc pc = .ok (.ladd, 1)) (K : ZZ p l e R s m args below meth c D cl n ad nL cells slots Q f L (pc + 1) (.long (x + y) :: st)) : ZZ p l e R s m args below meth c D cl n ad nL cells slots Q f L pc (.long y :: .long x :: st) := fun H locs ls hP hS hl => lv_ladd C.1 C.2 hdg  (K H locs ls hP hS hl)
theorem z_lmul (C : zc p c cc) {x y : Int64} (hdg : decode cc pc = .ok (.lmul, 1)) (K : ZZ p l e R s m args below meth c D cl n ad nL cells slots Q f L (pc + 1) (.long (x * y) :: st)) : ZZ p l e R s m args below meth c D cl n ad nL cells slots Q f L pc (.long y :: .long x :: st) := fun H locs ls hP hS hl => lv_lmul C.1 C.2 hdg  (K H locs ls hP hS hl)
theorem z_ishl (C : zc p c cc) {x y : Int32} (hdg : decode cc pc = .ok (.ishl, 1)) (K : ZZ p l e R s m args below meth c D cl n ad nL cells slots Q f L (pc + 1) (.int (x <<< (y &&& 31)) :: st)) : ZZ p l e R s m args below meth c D cl n ad nL cells slots Q f L pc (.int y :: .int x :: st) := fun H locs ls hP hS hl => lv_ishl C.1 C.2 hdg  (K H locs ls hP hS hl)
theorem z_ishr (C : zc p c cc) {x y : Int32} (hdg : decode cc pc = .ok (.ishr, 1)) (K : ZZ p l e R s m args below meth c D cl n ad nL cells slots Q f L (pc + 1) (.int (x >>> (y &&& 31)) :: st)) : ZZ p l e R s m args below meth c D cl n ad nL cells slots Q f L pc (.int y :: .int x :: st) := fun H locs ls hP hS hl => lv_ishr C.1 C.2 hdg  (K H locs ls hP hS hl)
theorem z_iushr (C : zc p c cc) {x y v : Int32} (hv : (x.toUInt32 >>> (y.toUInt32 &&& Int32.toUInt32 31)).toInt32 = v) (hdg : decode cc pc = .ok (.iushr, 1)) (K : ZZ p l e R s m args below meth c D cl n ad nL cells slots Q f L (pc + 1) (.int v :: st)) : ZZ p l e R s m args below meth c D cl n ad nL cells slots Q f L pc (.int y :: .int x :: st) := fun H locs ls hP hS hl => lv_iushr C.1 C.2 hdg hv (K H locs ls hP hS hl)
theorem z_idiv (C : zc p c cc) {x y : Int32} (hne : ¬ y = 0) (hdg : decode cc pc = .ok (.idiv, 1)) (K : ZZ p l e R s m args below meth c D cl n ad nL cells slots Q f L (pc + 1) (.int (x / y) :: st)) : ZZ p l e R s m args below meth c D cl n ad nL cells slots Q f L pc (.int y :: .int x :: st) := fun H locs ls hP hS hl => lv_idiv C.1 C.2 hdg hne (K H locs ls hP hS hl)
theorem z_i2l (C : zc p c cc) {x : Int32} {v : Int64} (hv : x.toInt64 = v) (hdg : decode cc pc = .ok (.i2l, 1)) (K : ZZ p l e R s m args below meth c D cl n ad nL cells slots Q f L (pc + 1) (.long v :: st)) : ZZ p l e R s m args below meth c D cl n ad nL cells slots Q f L pc (.int x :: st) := fun H locs ls hP hS hl => lv_i2l C.1 C.2 hdg hv (K H locs ls hP hS hl)
theorem z_i2d (C : zc p c cc) {x : Int32} (hdg : decode cc pc = .ok (.i2d, 1)) (K : ZZ p l e R s m args below meth c D cl n ad nL cells slots Q f L (pc + 1) (.double (FP.i2d x) :: st)) : ZZ p l e R s m args below meth c D cl n ad nL cells slots Q f L pc (.int x :: st) := fun H locs ls hP hS hl => lv_i2d C.1 C.2 hdg  (K H locs ls hP hS hl)
theorem z_ddiv (C : zc p c cc) {x y : UInt64} (hne : vf_n64 (FP.ddiv x y)) (hdg : decode cc pc = .ok (.ddiv, 1)) (K : ZZ p l e R s m args below meth c D cl n ad nL cells slots Q f L (pc + 1) (.double (FP.ddiv x y) :: st)) : ZZ p l e R s m args below meth c D cl n ad nL cells slots Q f L pc (.double y :: .double x :: st) := fun H locs ls hP hS hl => lv_ddiv C.1 C.2 hdg hne (K H locs ls hP hS hl)
theorem z_dcmp (C : zc p c cc) {x y : UInt64} {op : CmpOp} (hdg : decode cc pc = .ok (.dcmp op, 1)) (K : ZZ p l e R s m args below meth c D cl n ad nL cells slots Q f L (pc + 1) (.int (Op.cmpValue (FP.dcmp x y) op) :: st)) : ZZ p l e R s m args below meth c D cl n ad nL cells slots Q f L pc (.double y :: .double x :: st) := fun H locs ls hP hS hl => lv_dcmp C.1 C.2 hdg  (K H locs ls hP hS hl)
theorem z_lcmp (C : zc p c cc) {x y : Int64} (hdg : decode cc pc = .ok (.lcmp, 1)) (K : ZZ p l e R s m args below meth c D cl n ad nL cells slots Q f L (pc + 1) (.int (lg_cmp x y) :: st)) : ZZ p l e R s m args below meth c D cl n ad nL cells slots Q f L pc (.long y :: .long x :: st) := fun H locs ls hP hS hl => W.lcmp C.1 C.2 hdg  (K H locs ls hP hS hl)
theorem z_dup (C : zc p c cc) {va : Value} (hva : va.category = 1) (hdg : decode cc pc = .ok (.dup, 1)) (K : ZZ p l e R s m args below meth c D cl n ad nL cells slots Q f L (pc + 1) (va :: va :: st)) : ZZ p l e R s m args below meth c D cl n ad nL cells slots Q f L pc (va :: st) := fun H locs ls hP hS hl => lv_dup C.1 C.2 hdg hva (K H locs ls hP hS hl)
theorem z_pop (C : zc p c cc) {va : Value} (hva : va.category = 1) (hdg : decode cc pc = .ok (.pop, 1)) (K : ZZ p l e R s m args below meth c D cl n ad nL cells slots Q f L (pc + 1) st) : ZZ p l e R s m args below meth c D cl n ad nL cells slots Q f L pc (va :: st) := fun H locs ls hP hS hl => lv_pop C.1 C.2 hdg hva (K H locs ls hP hS hl)
theorem z_dup2 (C : zc p c cc) {va vb : Value} (hva : va.category = 1) (hvb : vb.category = 1) (hdg : decode cc pc = .ok (.dup2, 1)) (K : ZZ p l e R s m args below meth c D cl n ad nL cells slots Q f L (pc + 1) (va :: vb :: va :: vb :: st)) : ZZ p l e R s m args below meth c D cl n ad nL cells slots Q f L pc (va :: vb :: st) := fun H locs ls hP hS hl => lv_dup2_11 C.1 C.2 hdg hva hvb (K H locs ls hP hS hl)
theorem z_irem (C : zc p c cc) {x y : Int32} (hne : ¬ y = 0) {v : Int32} (hv : x - x / y * y = v) (hdg : decode cc pc = .ok (.irem, 1)) (K : ZZ p l e R s m args below meth c D cl n ad nL cells slots Q f L (pc + 1) (.int v :: st)) : ZZ p l e R s m args below meth c D cl n ad nL cells slots Q f L pc (.int y :: .int x :: st) := fun H locs ls hP hS hl => lv_irem C.1 C.2 hdg hne (by rw [hv]; exact K H locs ls hP hS hl)
theorem z_ldc (C : zc p c cc) {own : String} {index : Nat} {v : Int32} (hown : s.vm.findClass own = some m.cls) (hconst : (Cond.constant own index v).before args s = true) (hdg : decode cc pc = .ok (.ldc index, 2)) (K : ZZ p l e R s m args below meth c D cl n ad nL cells slots Q f L (pc + 2) (.int v :: st)) : ZZ p l e R s m args below meth c D cl n ad nL cells slots Q f L pc st := fun H locs ls hP hS hl => lv_ldc C.1 C.2 hown hconst hdg (K H locs ls hP hS hl)
theorem z_ldcw (C : zc p c cc) {own : String} {index : Nat} {v : Int32} (hown : s.vm.findClass own = some m.cls) (hconst : (Cond.constant own index v).before args s = true) (hdg : decode cc pc = .ok (.ldc_w index, 3)) (K : ZZ p l e R s m args below meth c D cl n ad nL cells slots Q f L (pc + 3) (.int v :: st)) : ZZ p l e R s m args below meth c D cl n ad nL cells slots Q f L pc st := fun H locs ls hP hS hl => lv_ldcw C.1 C.2 hown hconst hdg (K H locs ls hP hS hl)
theorem z_ldc2 (C : zc p c cc) {own : String} {index : Nat} {v : Int64} (hown : s.vm.findClass own = some m.cls) (hconst : (Cond.constantLong own index v).before args s = true) (hdg : decode cc pc = .ok (.ldc2_w index, 3)) (K : ZZ p l e R s m args below meth c D cl n ad nL cells slots Q f L (pc + 3) (.long v :: st)) : ZZ p l e R s m args below meth c D cl n ad nL cells slots Q f L pc st := fun H locs ls hP hS hl => lv_ldc2 C.1 C.2 hown hconst hdg (K H locs ls hP hS hl)
theorem z_goto (C : zc p c cc) {off : Int} {tgt : Nat} (hdg : decode cc pc = .ok (.goto off, 3)) (ht : (pc : Int) + off = (tgt : Int)) (K : ZZ p l e R s m args below meth c D cl n ad nL cells slots Q f L tgt st) : ZZ p l e R s m args below meth c D cl n ad nL cells slots Q f L pc st := fun H locs ls hP hS hl => lv_goto C.1 C.2 hdg ht (K H locs ls hP hS hl)
theorem z_if_eq (C : zc p c cc) {x : Int32} {off : Int} {tgt : Nat} (hdg : decode cc pc = .ok (.ifCond .eq off, 3)) (ht : (pc : Int) + off = (tgt : Int)) (kt : x = 0 → ZZ p l e R s m args below meth c D cl n ad nL cells slots Q f L tgt st) (kf : ¬ x = 0 → ZZ p l e R s m args below meth c D cl n ad nL cells slots Q f L (pc + 3) st) : ZZ p l e R s m args below meth c D cl n ad nL cells slots Q f L pc (.int x :: st) := fun H locs ls hP hS hl => lv_if_eq C.1 C.2 hdg ht (fun h => kt h H locs ls hP hS hl) (fun h => kf h H locs ls hP hS hl)
theorem z_icmp_eq (C : zc p c cc) {x y : Int32} {off : Int} {tgt : Nat} (hdg : decode cc pc = .ok (.if_icmp .eq off, 3)) (ht : (pc : Int) + off = (tgt : Int)) (kt : x = y → ZZ p l e R s m args below meth c D cl n ad nL cells slots Q f L tgt st) (kf : ¬ x = y → ZZ p l e R s m args below meth c D cl n ad nL cells slots Q f L (pc + 3) st) : ZZ p l e R s m args below meth c D cl n ad nL cells slots Q f L pc (.int y :: .int x :: st) := fun H locs ls hP hS hl => lv_icmp_eq C.1 C.2 hdg ht (fun h => kt h H locs ls hP hS hl) (fun h => kf h H locs ls hP hS hl)
theorem z_if_ne (C : zc p c cc) {x : Int32} {off : Int} {tgt : Nat} (hdg : decode cc pc = .ok (.ifCond .ne off, 3)) (ht : (pc : Int) + off = (tgt : Int)) (kt : ¬ x = 0 → ZZ p l e R s m args below meth c D cl n ad nL cells slots Q f L tgt st) (kf : x = 0 → ZZ p l e R s m args below meth c D cl n ad nL cells slots Q f L (pc + 3) st) : ZZ p l e R s m args below meth c D cl n ad nL cells slots Q f L pc (.int x :: st) := fun H locs ls hP hS hl => lv_if_ne C.1 C.2 hdg ht (fun h => kt h H locs ls hP hS hl) (fun h => kf h H locs ls hP hS hl)
theorem z_icmp_ne (C : zc p c cc) {x y : Int32} {off : Int} {tgt : Nat} (hdg : decode cc pc = .ok (.if_icmp .ne off, 3)) (ht : (pc : Int) + off = (tgt : Int)) (kt : ¬ x = y → ZZ p l e R s m args below meth c D cl n ad nL cells slots Q f L tgt st) (kf : x = y → ZZ p l e R s m args below meth c D cl n ad nL cells slots Q f L (pc + 3) st) : ZZ p l e R s m args below meth c D cl n ad nL cells slots Q f L pc (.int y :: .int x :: st) := fun H locs ls hP hS hl => lv_icmp_ne C.1 C.2 hdg ht (fun h => kt h H locs ls hP hS hl) (fun h => kf h H locs ls hP hS hl)
theorem z_if_lt (C : zc p c cc) {x : Int32} {off : Int} {tgt : Nat} (hdg : decode cc pc = .ok (.ifCond .lt off, 3)) (ht : (pc : Int) + off = (tgt : Int)) (kt : x < 0 → ZZ p l e R s m args below meth c D cl n ad nL cells slots Q f L tgt st) (kf : ¬ x < 0 → ZZ p l e R s m args below meth c D cl n ad nL cells slots Q f L (pc + 3) st) : ZZ p l e R s m args below meth c D cl n ad nL cells slots Q f L pc (.int x :: st) := fun H locs ls hP hS hl => lv_if_lt C.1 C.2 hdg ht (fun h => kt h H locs ls hP hS hl) (fun h => kf h H locs ls hP hS hl)
theorem z_icmp_lt (C : zc p c cc) {x y : Int32} {off : Int} {tgt : Nat} (hdg : decode cc pc = .ok (.if_icmp .lt off, 3)) (ht : (pc : Int) + off = (tgt : Int)) (kt : x < y → ZZ p l e R s m args below meth c D cl n ad nL cells slots Q f L tgt st) (kf : ¬ x < y → ZZ p l e R s m args below meth c D cl n ad nL cells slots Q f L (pc + 3) st) : ZZ p l e R s m args below meth c D cl n ad nL cells slots Q f L pc (.int y :: .int x :: st) := fun H locs ls hP hS hl => lv_icmp_lt C.1 C.2 hdg ht (fun h => kt h H locs ls hP hS hl) (fun h => kf h H locs ls hP hS hl)
theorem z_if_ge (C : zc p c cc) {x : Int32} {off : Int} {tgt : Nat} (hdg : decode cc pc = .ok (.ifCond .ge off, 3)) (ht : (pc : Int) + off = (tgt : Int)) (kt : 0 ≤ x → ZZ p l e R s m args below meth c D cl n ad nL cells slots Q f L tgt st) (kf : ¬ 0 ≤ x → ZZ p l e R s m args below meth c D cl n ad nL cells slots Q f L (pc + 3) st) : ZZ p l e R s m args below meth c D cl n ad nL cells slots Q f L pc (.int x :: st) := fun H locs ls hP hS hl => lv_if_ge C.1 C.2 hdg ht (fun h => kt h H locs ls hP hS hl) (fun h => kf h H locs ls hP hS hl)
theorem z_icmp_ge (C : zc p c cc) {x y : Int32} {off : Int} {tgt : Nat} (hdg : decode cc pc = .ok (.if_icmp .ge off, 3)) (ht : (pc : Int) + off = (tgt : Int)) (kt : y ≤ x → ZZ p l e R s m args below meth c D cl n ad nL cells slots Q f L tgt st) (kf : ¬ y ≤ x → ZZ p l e R s m args below meth c D cl n ad nL cells slots Q f L (pc + 3) st) : ZZ p l e R s m args below meth c D cl n ad nL cells slots Q f L pc (.int y :: .int x :: st) := fun H locs ls hP hS hl => lv_icmp_ge C.1 C.2 hdg ht (fun h => kt h H locs ls hP hS hl) (fun h => kf h H locs ls hP hS hl)
theorem z_if_gt (C : zc p c cc) {x : Int32} {off : Int} {tgt : Nat} (hdg : decode cc pc = .ok (.ifCond .gt off, 3)) (ht : (pc : Int) + off = (tgt : Int)) (kt : 0 < x → ZZ p l e R s m args below meth c D cl n ad nL cells slots Q f L tgt st) (kf : ¬ 0 < x → ZZ p l e R s m args below meth c D cl n ad nL cells slots Q f L (pc + 3) st) : ZZ p l e R s m args below meth c D cl n ad nL cells slots Q f L pc (.int x :: st) := fun H locs ls hP hS hl => lv_if_gt C.1 C.2 hdg ht (fun h => kt h H locs ls hP hS hl) (fun h => kf h H locs ls hP hS hl)
theorem z_icmp_gt (C : zc p c cc) {x y : Int32} {off : Int} {tgt : Nat} (hdg : decode cc pc = .ok (.if_icmp .gt off, 3)) (ht : (pc : Int) + off = (tgt : Int)) (kt : y < x → ZZ p l e R s m args below meth c D cl n ad nL cells slots Q f L tgt st) (kf : ¬ y < x → ZZ p l e R s m args below meth c D cl n ad nL cells slots Q f L (pc + 3) st) : ZZ p l e R s m args below meth c D cl n ad nL cells slots Q f L pc (.int y :: .int x :: st) := fun H locs ls hP hS hl => lv_icmp_gt C.1 C.2 hdg ht (fun h => kt h H locs ls hP hS hl) (fun h => kf h H locs ls hP hS hl)
theorem z_if_le (C : zc p c cc) {x : Int32} {off : Int} {tgt : Nat} (hdg : decode cc pc = .ok (.ifCond .le off, 3)) (ht : (pc : Int) + off = (tgt : Int)) (kt : x ≤ 0 → ZZ p l e R s m args below meth c D cl n ad nL cells slots Q f L tgt st) (kf : ¬ x ≤ 0 → ZZ p l e R s m args below meth c D cl n ad nL cells slots Q f L (pc + 3) st) : ZZ p l e R s m args below meth c D cl n ad nL cells slots Q f L pc (.int x :: st) := fun H locs ls hP hS hl => lv_if_le C.1 C.2 hdg ht (fun h => kt h H locs ls hP hS hl) (fun h => kf h H locs ls hP hS hl)
theorem z_icmp_le (C : zc p c cc) {x y : Int32} {off : Int} {tgt : Nat} (hdg : decode cc pc = .ok (.if_icmp .le off, 3)) (ht : (pc : Int) + off = (tgt : Int)) (kt : x ≤ y → ZZ p l e R s m args below meth c D cl n ad nL cells slots Q f L tgt st) (kf : ¬ x ≤ y → ZZ p l e R s m args below meth c D cl n ad nL cells slots Q f L (pc + 3) st) : ZZ p l e R s m args below meth c D cl n ad nL cells slots Q f L pc (.int y :: .int x :: st) := fun H locs ls hP hS hl => lv_icmp_le C.1 C.2 hdg ht (fun h => kt h H locs ls hP hS hl) (fun h => kf h H locs ls hP hS hl)
theorem z_ifnull (C : zc p c cc) {x : Nat} {off : Int} (hdg : decode cc pc = .ok (.ifnull off, 3)) (K : ZZ p l e R s m args below meth c D cl n ad nL cells slots Q f L (pc + 3) st) : ZZ p l e R s m args below meth c D cl n ad nL cells slots Q f L pc (.ref x :: st) := fun H locs ls hP hS hl => lv_ifnull C.1 C.2 hdg (K H locs ls hP hS hl)
theorem z_ifnullN (C : zc p c cc) {off : Int} {tgt : Nat} (hdg : decode cc pc = .ok (.ifnull off, 3)) (ht : (pc : Int) + off = (tgt : Int)) (K : ZZ p l e R s m args below meth c D cl n ad nL cells slots Q f L tgt st) : ZZ p l e R s m args below meth c D cl n ad nL cells slots Q f L pc (.null :: st) := fun H locs ls hP hS hl => lv_ifnullN C.1 C.2 hdg ht (K H locs ls hP hS hl)
theorem z_ifnonnullN (C : zc p c cc) {off : Int} (hdg : decode cc pc = .ok (.ifnonnull off, 3)) (K : ZZ p l e R s m args below meth c D cl n ad nL cells slots Q f L (pc + 3) st) : ZZ p l e R s m args below meth c D cl n ad nL cells slots Q f L pc (.null :: st) := fun H locs ls hP hS hl => lv_ifnonnullN C.1 C.2 hdg (K H locs ls hP hS hl)
theorem z_ifnonnull (C : zc p c cc) {x : Nat} {off : Int} {tgt : Nat} (hdg : decode cc pc = .ok (.ifnonnull off, 3)) (ht : (pc : Int) + off = (tgt : Int)) (K : ZZ p l e R s m args below meth c D cl n ad nL cells slots Q f L tgt st) : ZZ p l e R s m args below meth c D cl n ad nL cells slots Q f L pc (.ref x :: st) := fun H locs ls hP hS hl => lv_ifnonnull C.1 C.2 hdg ht (K H locs ls hP hS hl)
theorem z_iload_n (C : zc p c cc) {k : Fin 4} {x : Int32} (hdg : decode cc pc = .ok (.iload_n k, 1)) (j : Nat) (hL : L[j]? = some ((k : Nat), .int x)) (K : ZZ p l e R s m args below meth c D cl n ad nL cells slots Q f L (pc + 1) (.int x :: st)) : ZZ p l e R s m args below meth c D cl n ad nL cells slots Q f L pc st := fun H locs ls hP hS hl => lv_iload_n C.1 C.2 hdg rfl (lv_at hl j hL) (K H locs ls hP hS hl)
theorem z_iload (C : zc p c cc) {i : Nat} {x : Int32} (hdg : decode cc pc = .ok (.iload i, 2)) (j : Nat) (hL : L[j]? = some (i, .int x)) (K : ZZ p l e R s m args below meth c D cl n ad nL cells slots Q f L (pc + 2) (.int x :: st)) : ZZ p l e R s m args below meth c D cl n ad nL cells slots Q f L pc st := fun H locs ls hP hS hl => lv_iload C.1 C.2 hdg (lv_at hl j hL) (K H locs ls hP hS hl)
theorem z_istore_n (C : zc p c cc) {k : Fin 4} {x : Int32} (L' : List (Nat × Value)) (hdg : decode cc pc = .ok (.istore_n k, 1)) (hn : (k : Nat) < nL) (hL : ((k : Nat), Value.int x) :: L.filter (fun q => !(q.1 == (k : Nat)) && !(q.1 + 1 == (k : Nat) && q.2.category == 2)) = L') (K : ZZ p l e R s m args below meth c D cl n ad nL cells slots Q f L' (pc + 1) st) : ZZ p l e R s m args below meth c D cl n ad nL cells slots Q f L pc (.int x :: st) := fun H locs ls hP hS hl => lv_istore_n C.1 C.2 hdg rfl hl hn hL (fun ls' hl' => K H locs ls' hP hS hl')
theorem z_istore (C : zc p c cc) {i : Nat} {x : Int32} (L' : List (Nat × Value)) (hdg : decode cc pc = .ok (.istore i, 2)) (hn : i < nL) (hL : (i, Value.int x) :: L.filter (fun q => !(q.1 == i) && !(q.1 + 1 == i && q.2.category == 2)) = L') (K : ZZ p l e R s m args below meth c D cl n ad nL cells slots Q f L' (pc + 2) st) : ZZ p l e R s m args below meth c D cl n ad nL cells slots Q f L pc (.int x :: st) := fun H locs ls hP hS hl => lv_istore C.1 C.2 hdg hl hn hL (fun ls' hl' => K H locs ls' hP hS hl')
theorem z_lload_n (C : zc p c cc) {k : Fin 4} {x : Int64} (hdg : decode cc pc = .ok (.lload_n k, 1)) (j : Nat) (hL : L[j]? = some ((k : Nat), .long x)) (K : ZZ p l e R s m args below meth c D cl n ad nL cells slots Q f L (pc + 1) (.long x :: st)) : ZZ p l e R s m args below meth c D cl n ad nL cells slots Q f L pc st := fun H locs ls hP hS hl => lv_lload_n C.1 C.2 hdg rfl (lv_at hl j hL) (K H locs ls hP hS hl)
theorem z_lload (C : zc p c cc) {i : Nat} {x : Int64} (hdg : decode cc pc = .ok (.lload i, 2)) (j : Nat) (hL : L[j]? = some (i, .long x)) (K : ZZ p l e R s m args below meth c D cl n ad nL cells slots Q f L (pc + 2) (.long x :: st)) : ZZ p l e R s m args below meth c D cl n ad nL cells slots Q f L pc st := fun H locs ls hP hS hl => lv_lload C.1 C.2 hdg (lv_at hl j hL) (K H locs ls hP hS hl)
theorem z_lstore_n (C : zc p c cc) {k : Fin 4} {x : Int64} (L' : List (Nat × Value)) (hdg : decode cc pc = .ok (.lstore_n k, 1)) (hn : (k : Nat) + 1 < nL) (hL : ((k : Nat), Value.long x) :: L.filter (fun q => !(q.1 == (k : Nat)) && (!(q.1 == (k : Nat) + 1) && !(q.1 + 1 == (k : Nat) && q.2.category == 2))) = L') (K : ZZ p l e R s m args below meth c D cl n ad nL cells slots Q f L' (pc + 1) st) : ZZ p l e R s m args below meth c D cl n ad nL cells slots Q f L pc (.long x :: st) := fun H locs ls hP hS hl => lv_lstore_n C.1 C.2 hdg rfl hl hn hL (fun ls' hl' => K H locs ls' hP hS hl')
theorem z_lstore (C : zc p c cc) {i : Nat} {x : Int64} (L' : List (Nat × Value)) (hdg : decode cc pc = .ok (.lstore i, 2)) (hn : i + 1 < nL) (hL : (i, Value.long x) :: L.filter (fun q => !(q.1 == i) && (!(q.1 == i + 1) && !(q.1 + 1 == i && q.2.category == 2))) = L') (K : ZZ p l e R s m args below meth c D cl n ad nL cells slots Q f L' (pc + 2) st) : ZZ p l e R s m args below meth c D cl n ad nL cells slots Q f L pc (.long x :: st) := fun H locs ls hP hS hl => lv_lstore C.1 C.2 hdg hl hn hL (fun ls' hl' => K H locs ls' hP hS hl')
theorem z_aload_n (C : zc p c cc) {k : Fin 4} {x : Nat} (hdg : decode cc pc = .ok (.aload_n k, 1)) (j : Nat) (hL : L[j]? = some ((k : Nat), .ref x)) (K : ZZ p l e R s m args below meth c D cl n ad nL cells slots Q f L (pc + 1) (.ref x :: st)) : ZZ p l e R s m args below meth c D cl n ad nL cells slots Q f L pc st := fun H locs ls hP hS hl => lv_aload_n C.1 C.2 hdg rfl (lv_at hl j hL) (K H locs ls hP hS hl)
theorem z_aload (C : zc p c cc) {i : Nat} {x : Nat} (hdg : decode cc pc = .ok (.aload i, 2)) (j : Nat) (hL : L[j]? = some (i, .ref x)) (K : ZZ p l e R s m args below meth c D cl n ad nL cells slots Q f L (pc + 2) (.ref x :: st)) : ZZ p l e R s m args below meth c D cl n ad nL cells slots Q f L pc st := fun H locs ls hP hS hl => lv_aload C.1 C.2 hdg (lv_at hl j hL) (K H locs ls hP hS hl)
theorem z_astore_n (C : zc p c cc) {k : Fin 4} {x : Nat} (L' : List (Nat × Value)) (hdg : decode cc pc = .ok (.astore_n k, 1)) (hn : (k : Nat) < nL) (hL : ((k : Nat), Value.ref x) :: L.filter (fun q => !(q.1 == (k : Nat)) && !(q.1 + 1 == (k : Nat) && q.2.category == 2)) = L') (K : ZZ p l e R s m args below meth c D cl n ad nL cells slots Q f L' (pc + 1) st) : ZZ p l e R s m args below meth c D cl n ad nL cells slots Q f L pc (.ref x :: st) := fun H locs ls hP hS hl => lv_astore_n C.1 C.2 hdg rfl hl hn hL (fun ls' hl' => K H locs ls' hP hS hl')
theorem z_astore (C : zc p c cc) {i : Nat} {x : Nat} (L' : List (Nat × Value)) (hdg : decode cc pc = .ok (.astore i, 2)) (hn : i < nL) (hL : (i, Value.ref x) :: L.filter (fun q => !(q.1 == i) && !(q.1 + 1 == i && q.2.category == 2)) = L') (K : ZZ p l e R s m args below meth c D cl n ad nL cells slots Q f L' (pc + 2) st) : ZZ p l e R s m args below meth c D cl n ad nL cells slots Q f L pc (.ref x :: st) := fun H locs ls hP hS hl => lv_astore C.1 C.2 hdg hl hn hL (fun ls' hl' => K H locs ls' hP hS hl')
theorem z_dload (C : zc p c cc) {i : Nat} {x : UInt64} (hdg : decode cc pc = .ok (.dload i, 2)) (j : Nat) (hL : L[j]? = some (i, .double x)) (K : ZZ p l e R s m args below meth c D cl n ad nL cells slots Q f L (pc + 2) (.double x :: st)) : ZZ p l e R s m args below meth c D cl n ad nL cells slots Q f L pc st := fun H locs ls hP hS hl => lv_dload C.1 C.2 hdg (lv_at hl j hL) (K H locs ls hP hS hl)
theorem z_dstore (C : zc p c cc) {i : Nat} {x : UInt64} (L' : List (Nat × Value)) (hdg : decode cc pc = .ok (.dstore i, 2)) (hn : i + 1 < nL) (hL : (i, Value.double x) :: L.filter (fun q => !(q.1 == i) && (!(q.1 == i + 1) && !(q.1 + 1 == i && q.2.category == 2))) = L') (K : ZZ p l e R s m args below meth c D cl n ad nL cells slots Q f L' (pc + 2) st) : ZZ p l e R s m args below meth c D cl n ad nL cells slots Q f L pc (.double x :: st) := fun H locs ls hP hS hl => lv_dstore C.1 C.2 hdg hl hn hL (fun ls' hl' => K H locs ls' hP hS hl')
theorem z_aload_nN (C : zc p c cc) {k : Fin 4} (hdg : decode cc pc = .ok (.aload_n k, 1)) (j : Nat) (hL : L[j]? = some ((k : Nat), .null)) (K : ZZ p l e R s m args below meth c D cl n ad nL cells slots Q f L (pc + 1) (.null :: st)) : ZZ p l e R s m args below meth c D cl n ad nL cells slots Q f L pc st := fun H locs ls hP hS hl => lv_aload_nN C.1 C.2 hdg rfl (lv_at hl j hL) (K H locs ls hP hS hl)
theorem z_aloadN (C : zc p c cc) {i : Nat} (hdg : decode cc pc = .ok (.aload i, 2)) (j : Nat) (hL : L[j]? = some (i, .null)) (K : ZZ p l e R s m args below meth c D cl n ad nL cells slots Q f L (pc + 2) (.null :: st)) : ZZ p l e R s m args below meth c D cl n ad nL cells slots Q f L pc st := fun H locs ls hP hS hl => lv_aloadN C.1 C.2 hdg (lv_at hl j hL) (K H locs ls hP hS hl)
theorem z_astore_nN (C : zc p c cc) {k : Fin 4} (L' : List (Nat × Value)) (hdg : decode cc pc = .ok (.astore_n k, 1)) (hn : (k : Nat) < nL) (hL : ((k : Nat), Value.null) :: L.filter (fun q => !(q.1 == (k : Nat)) && !(q.1 + 1 == (k : Nat) && q.2.category == 2)) = L') (K : ZZ p l e R s m args below meth c D cl n ad nL cells slots Q f L' (pc + 1) st) : ZZ p l e R s m args below meth c D cl n ad nL cells slots Q f L pc (.null :: st) := fun H locs ls hP hS hl => lv_astore_nN C.1 C.2 hdg rfl hl hn hL (fun ls' hl' => K H locs ls' hP hS hl')
theorem z_astoreN (C : zc p c cc) {i : Nat} (L' : List (Nat × Value)) (hdg : decode cc pc = .ok (.astore i, 2)) (hn : i < nL) (hL : (i, Value.null) :: L.filter (fun q => !(q.1 == i) && !(q.1 + 1 == i && q.2.category == 2)) = L') (K : ZZ p l e R s m args below meth c D cl n ad nL cells slots Q f L' (pc + 2) st) : ZZ p l e R s m args below meth c D cl n ad nL cells slots Q f L pc (.null :: st) := fun H locs ls hP hS hl => lv_astoreN C.1 C.2 hdg hl hn hL (fun ls' hl' => K H locs ls' hP hS hl')
theorem z_iinc (C : zc p c cc) {i : Nat} {z : Int} {x v : Int32} (L' : List (Nat × Value)) (hdg : decode cc pc = .ok (.iinc i z, 3)) (j : Nat) (hj : L[j]? = some (i, .int x)) (hv : x + Int32.ofInt z = v) (hn : i < nL) (hL : (i, Value.int v) :: L.filter (fun q => !(q.1 == i) && !(q.1 + 1 == i && q.2.category == 2)) = L') (K : ZZ p l e R s m args below meth c D cl n ad nL cells slots Q f L' (pc + 3) st) : ZZ p l e R s m args below meth c D cl n ad nL cells slots Q f L pc st := fun H locs ls hP hS hl => lv_iinc C.1 C.2 hdg hl (k := j) hj hv hn hL (fun ls' hl' => K H locs ls' hP hS hl')
theorem z_topi {x y : Int32} (h : x = y) (K : ZZ p l e R s m args below meth c D cl n ad nL cells slots Q f L pc (.int y :: st)) : ZZ p l e R s m args below meth c D cl n ad nL cells slots Q f L pc (.int x :: st) := by rw [h]; exact K
theorem z_topl {x y : Int64} (h : x = y) (K : ZZ p l e R s m args below meth c D cl n ad nL cells slots Q f L pc (.long y :: st)) : ZZ p l e R s m args below meth c D cl n ad nL cells slots Q f L pc (.long x :: st) := by rw [h]; exact K
theorem z_topv {x y : Value} (h : x = y) (K : ZZ p l e R s m args below meth c D cl n ad nL cells slots Q f L pc (y :: st)) : ZZ p l e R s m args below meth c D cl n ad nL cells slots Q f L pc (x :: st) := by rw [h]; exact K
theorem z_gen {x : Int32} (K : ∀ y : Int32, y = x → ZZ p l e R s m args below meth c D cl n ad nL cells slots Q f L pc (.int y :: st)) : ZZ p l e R s m args below meth c D cl n ad nL cells slots Q f L pc (.int x :: st) := K x rfl
theorem z_sub {L' : List (Nat × Value)} (ks : List Nat) (hL : lv_pick L ks = L') (K : ZZ p l e R s m args below meth c D cl n ad nL cells slots Q f L' pc st) : ZZ p l e R s m args below meth c D cl n ad nL cells slots Q f L pc st := fun H locs ls hP hS hl => K H locs ls hP hS (lv_sub hl ks hL)
theorem z_cong {f' : Nat → va_E} (h : ∀ k, k < n → f' k = f k) (K : ZZ p l e R s m args below meth c D cl n ad nL cells slots Q f' L pc st) : ZZ p l e R s m args below meth c D cl n ad nL cells slots Q f L pc st := fun H locs ls hP hS hl => K H locs ls (gP_cong hP h) hS hl
theorem z_widen {k q : Nat} (h1 : cells ≤ k) (h2 : slots ≤ q) (K : ZZ p l e R s m args below meth c D cl n ad nL k q Q f L pc st) : ZZ p l e R s m args below meth c D cl n ad nL cells slots Q f L pc st := fun H locs ls hP hS hl => W.widen h1 h2 (K H locs ls hP hS hl)
theorem z_at {pc' : Nat} {st' : List Value} (h1 : pc = pc') (h2 : st = st') (K : ZZ p l e R s m args below meth c D cl n ad nL cells slots Q f L pc' st') : ZZ p l e R s m args below meth c D cl n ad nL cells slots Q f L pc st := by rw [h1, h2]; exact K
theorem z_get (C : zc p c cc) {own ref C0 : String} {T : u_T} {N ci index : Nat} (hT : ∀ w ∈ u_ws C0 T N, w.before args s = true) (hown : s.vm.findClass own = some m.cls) {tys : List (ClassId × FieldType)} (hK : va_K D cl tys s) {q : Nat} (hq : q < n) {fs : List Value} (hf : f q = .inr (ci, fs)) (hc : cl[ci]? = some (C0, T, N)) (k : Nat) (hk : k < N) (hlink : (Cond.fieldLink own index ref (T k).2.1 (T k).2.2.1).before args s = true) (hsame : ∀ x, s.fieldFound? (T k).1 (T k).2.1 (T k).2.2.1 = some x → s.fieldFound? ref (T k).2.1 (T k).2.2.1 = some x) {v : Value} (hv : fs[k]? = some v) (hdg : decode cc pc = .ok (.getfield index, 3)) (K : ZZ p l e R s m args below meth c D cl n ad nL cells slots Q f L (pc + 3) (v :: st)) : ZZ p l e R s m args below meth c D cl n ad nL cells slots Q f L pc (.ref (ad q) :: st) := fun H locs ls hP hS hl => va_get (Ts := u_ws C0 T N) C.1 C.2 hT (fun _ h => h) hown hK hP q (by rw [gW_get hq, hf]) hc k hk hlink hsame hv hdg (K H locs ls hP hS hl)
theorem z_put (C : zc p c cc) (hI : gI n ad) (ty0 : Nat → FieldType) {own ref C0 : String} {T : u_T} {N ci index : Nat} (hT : ∀ w ∈ u_ws C0 T N, w.before args s = true) (hown : s.vm.findClass own = some m.cls) {tys : List (ClassId × FieldType)} (hK : va_K D cl tys s) {q : Nat} (hq : q < n) {fs : List Value} (hf : f q = .inr (ci, fs)) (hc : cl[ci]? = some (C0, T, N)) (k : Nat) (hk : k < N) (hlink : (Cond.fieldLink own index ref (T k).2.1 (T k).2.2.1).before args s = true) (hsame : ∀ x, s.fieldFound? (T k).1 (T k).2.1 (T k).2.2.1 = some x → s.fieldFound? ref (T k).2.1 (T k).2.2.1 = some x) (hty : ∀ k, k < N → parseFieldDescriptor (T k).2.2.1 = some (ty0 k)) (hnm : ∀ a, a < N → ∀ b, b < N → a ≠ b → (T a).2.1 ≠ (T b).2.1) (hfin : (T k).2.2.2 = false) {v : Value} (hn : narrow (ty0 k) v = v) (hfit : fits (ty0 k) v = true) (hl9 : k < fs.length) {f' : Nat → va_E} (h1 : f' q = .inr (ci, fs.set k v)) (h2 : ∀ j, j < n → j ≠ q → f' j = f j) (hdg : decode cc pc = .ok (.putfield index, 3)) (K : ZZ p l e R s m args below meth c D cl n ad nL cells slots Q f' L (pc + 3) st) : ZZ p l e R s m args below meth c D cl n ad nL cells slots Q f L pc (v :: .ref (ad q) :: st) := fun H locs ls hP hS hl => va_put (Ts := u_ws C0 T N) C.1 C.2 hT (fun _ h => h) ty0 hty hnm hown hK hP (gD hI) hS q (by rw [gW_get hq, hf]) hc k hk hlink hsame hfin (hty k hk) hn hfit hl9 hdg (fun H1 locs1 hP1 _ hS1 => K H1 locs1 ls (gP_set hq hP1 h1 h2) hS1 hl)
theorem z_iald (C : zc p c cc) {tys : List (ClassId × FieldType)} (hK : va_K D cl tys s) {q : Nat} (hq : q < n) {cA : ClassId} {len : Nat} {g : Nat → Int32} (hf : f q = .inl (cA, len, .inl g)) (t0 : Nat) (ht : tys[t0]? = some (cA, .int)) {i : Int32} {k : Nat} (hi : i = nI k) (hk : k < len) (hb9 : len < 2 ^ 31) (hdg : decode cc pc = .ok (.iaload, 1)) (K : ZZ p l e R s m args below meth c D cl n ad nL cells slots Q f L (pc + 1) (.int (g k) :: st)) : ZZ p l e R s m args below meth c D cl n ad nL cells slots Q f L pc (.int i :: .ref (ad q) :: st) := fun H locs ls hP hS hl => va_iald C.1 C.2 hK hP q t0 (by rw [gW_get hq, hf]) ht (by rw [hi]; exact vp_in_nI hk hb9) hdg (by rw [hi, nI_clamp (n := k) (by omega)]; exact K H locs ls hP hS hl)
theorem z_iast (C : zc p c cc) (hI : gI n ad) {tys : List (ClassId × FieldType)} (hK : va_K D cl tys s) {q : Nat} (hq : q < n) {cA : ClassId} {len : Nat} {g : Nat → Int32} (hf : f q = .inl (cA, len, .inl g)) (t0 : Nat) (ht : tys[t0]? = some (cA, .int)) {i : Int32} {k : Nat} {x : Int32} (hi : i = nI k) (hk : k < len) (hb9 : len < 2 ^ 31) {f' : Nat → va_E} (h1 : f' q = .inl (cA, len, .inl (upd g k x))) (h2 : ∀ j, j < n → j ≠ q → f' j = f j) (hdg : decode cc pc = .ok (.iastore, 1)) (K : ZZ p l e R s m args below meth c D cl n ad nL cells slots Q f' L (pc + 1) st) : ZZ p l e R s m args below meth c D cl n ad nL cells slots Q f L pc (.int x :: .int i :: .ref (ad q) :: st) := fun H locs ls hP hS hl => va_iast C.1 C.2 hK hP (gD hI) hS q t0 (by rw [gW_get hq, hf]) ht (by rw [hi]; exact vp_in_nI hk hb9) hdg (fun H1 locs1 hP1 _ hS1 => K H1 locs1 ls (gP_set hq hP1 (by rw [h1, hi, nI_clamp (n := k) (by omega)]) h2) hS1 hl)
theorem z_lald (C : zc p c cc) {tys : List (ClassId × FieldType)} (hK : va_K D cl tys s) {q : Nat} (hq : q < n) {cA : ClassId} {len : Nat} {g : Nat → Int64} (hf : f q = .inl (cA, len, .inr (.inl g))) (t0 : Nat) (ht : tys[t0]? = some (cA, .long)) {i : Int32} {k : Nat} (hi : i = nI k) (hk : k < len) (hb9 : len < 2 ^ 31) (hdg : decode cc pc = .ok (.laload, 1)) (K : ZZ p l e R s m args below meth c D cl n ad nL cells slots Q f L (pc + 1) (.long (g k) :: st)) : ZZ p l e R s m args below meth c D cl n ad nL cells slots Q f L pc (.int i :: .ref (ad q) :: st) := fun H locs ls hP hS hl => va_lald C.1 C.2 hK hP q t0 (by rw [gW_get hq, hf]) ht (by rw [hi]; exact vp_in_nI hk hb9) hdg (by rw [hi, nI_clamp (n := k) (by omega)]; exact K H locs ls hP hS hl)
theorem z_last (C : zc p c cc) (hI : gI n ad) {tys : List (ClassId × FieldType)} (hK : va_K D cl tys s) {q : Nat} (hq : q < n) {cA : ClassId} {len : Nat} {g : Nat → Int64} (hf : f q = .inl (cA, len, .inr (.inl g))) (t0 : Nat) (ht : tys[t0]? = some (cA, .long)) {i : Int32} {k : Nat} {x : Int64} (hi : i = nI k) (hk : k < len) (hb9 : len < 2 ^ 31) {f' : Nat → va_E} (h1 : f' q = .inl (cA, len, .inr (.inl (vp_updL g k x)))) (h2 : ∀ j, j < n → j ≠ q → f' j = f j) (hdg : decode cc pc = .ok (.lastore, 1)) (K : ZZ p l e R s m args below meth c D cl n ad nL cells slots Q f' L (pc + 1) st) : ZZ p l e R s m args below meth c D cl n ad nL cells slots Q f L pc (.long x :: .int i :: .ref (ad q) :: st) := fun H locs ls hP hS hl => va_last C.1 C.2 hK hP (gD hI) hS q t0 (by rw [gW_get hq, hf]) ht (by rw [hi]; exact vp_in_nI hk hb9) hdg (fun H1 locs1 hP1 _ hS1 => K H1 locs1 ls (gP_set hq hP1 (by rw [h1, hi, nI_clamp (n := k) (by omega)]) h2) hS1 hl)
theorem z_dald (C : zc p c cc) {tys : List (ClassId × FieldType)} (hK : va_K D cl tys s) {q : Nat} (hq : q < n) {cA : ClassId} {len : Nat} {g : Nat → UInt64} (hf : f q = .inl (cA, len, .inr (.inr (.inr (.inl g))))) (t0 : Nat) (ht : tys[t0]? = some (cA, .double)) {i : Int32} {k : Nat} (hi : i = nI k) (hk : k < len) (hb9 : len < 2 ^ 31) (hdg : decode cc pc = .ok (.daload, 1)) (K : ZZ p l e R s m args below meth c D cl n ad nL cells slots Q f L (pc + 1) (.double (g k) :: st)) : ZZ p l e R s m args below meth c D cl n ad nL cells slots Q f L pc (.int i :: .ref (ad q) :: st) := fun H locs ls hP hS hl => va_dald C.1 C.2 hK hP q t0 (by rw [gW_get hq, hf]) ht (by rw [hi]; exact vp_in_nI hk hb9) hdg (by rw [hi, nI_clamp (n := k) (by omega)]; exact K H locs ls hP hS hl)
theorem z_dast (C : zc p c cc) (hI : gI n ad) {tys : List (ClassId × FieldType)} (hK : va_K D cl tys s) {q : Nat} (hq : q < n) {cA : ClassId} {len : Nat} {g : Nat → UInt64} (hf : f q = .inl (cA, len, .inr (.inr (.inr (.inl g))))) (t0 : Nat) (ht : tys[t0]? = some (cA, .double)) {i : Int32} {k : Nat} {x : UInt64} (hi : i = nI k) (hk : k < len) (hb9 : len < 2 ^ 31) {f' : Nat → va_E} (h1 : f' q = .inl (cA, len, .inr (.inr (.inr (.inl (vf_upd g k x)))))) (h2 : ∀ j, j < n → j ≠ q → f' j = f j) (hdg : decode cc pc = .ok (.dastore, 1)) (K : ZZ p l e R s m args below meth c D cl n ad nL cells slots Q f' L (pc + 1) st) : ZZ p l e R s m args below meth c D cl n ad nL cells slots Q f L pc (.double x :: .int i :: .ref (ad q) :: st) := fun H locs ls hP hS hl => va_dast C.1 C.2 hK hP (gD hI) hS q t0 (by rw [gW_get hq, hf]) ht (by rw [hi]; exact vp_in_nI hk hb9) hdg (fun H1 locs1 hP1 _ hS1 => K H1 locs1 ls (gP_set hq hP1 (by rw [h1, hi, nI_clamp (n := k) (by omega)]) h2) hS1 hl)
theorem z_alen (C : zc p c cc) {tys : List (ClassId × FieldType)} (hK : va_K D cl tys s) {q : Nat} (hq : q < n) {cA : ClassId} {len : Nat} {x : (Nat → Int32) ⊕ (Nat → Int64) ⊕ (Nat → UInt32) ⊕ (Nat → UInt64) ⊕ (Nat → Option Nat)} (hf : f q = .inl (cA, len, x)) {ty : FieldType} (t0 : Nat) (ht : tys[t0]? = some (cA, ty)) {v : Int32} (hv : Int32.ofNat len = v) (hdg : decode cc pc = .ok (.arraylength, 1)) (K : ZZ p l e R s m args below meth c D cl n ad nL cells slots Q f L (pc + 1) (.int v :: st)) : ZZ p l e R s m args below meth c D cl n ad nL cells slots Q f L pc (.ref (ad q) :: st) := fun H locs ls hP hS hl => va_alen C.1 C.2 hK hP q t0 (x := (len, x)) (by rw [gW_get hq, hf]) ht hv hdg (K H locs ls hP hS hl)
theorem z_aald (C : zc p c cc) {tys : List (ClassId × FieldType)} (hK : va_K D cl tys s) {q : Nat} (hq : q < n) {cA : ClassId} {len : Nat} {C0 : String} {g : Nat → Option Nat} (hf : f q = .inl (cA, len, .inr (.inr (.inr (.inr g))))) (t0 : Nat) (ht : tys[t0]? = some (cA, .object C0)) {i : Int32} {k : Nat} (hi : i = nI k) (hk : k < len) (hb9 : len < 2 ^ 31) {a : Nat} (hg : g k = some a) (hdg : decode cc pc = .ok (.aaload, 1)) (K : ZZ p l e R s m args below meth c D cl n ad nL cells slots Q f L (pc + 1) (.ref a :: st)) : ZZ p l e R s m args below meth c D cl n ad nL cells slots Q f L pc (.int i :: .ref (ad q) :: st) := fun H locs ls hP hS hl => va_aldq C.1 C.2 hK hP q t0 (by rw [gW_get hq, hf]) ht (by rw [hi]; exact vp_in_nI hk hb9) hdg (by rw [hi, nI_clamp (n := k) (by omega), hg]; exact K H locs ls hP hS hl)
theorem z_za (C : zc p c cc) {tys : List (ClassId × FieldType)} (hK : va_K D cl tys s) {q : Nat} (hq : q < n) {cA : ClassId} {len : Nat} {g : Nat → Int32} (hf : f q = .inl (cA, len, .inl g)) (t0 : Nat) (ht : tys[t0]? = some (cA, .boolean)) {i : Int32} {k : Nat} (hi : i = nI k) (hk : k < len) (hb9 : len < 2 ^ 31) (hdg : decode cc pc = .ok (.baload, 1)) (K : ZZ p l e R s m args below meth c D cl n ad nL cells slots Q f L (pc + 1) (.int (g k) :: st)) : ZZ p l e R s m args below meth c D cl n ad nL cells slots Q f L pc (.int i :: .ref (ad q) :: st) := fun H locs ls hP hS hl => va_zald C.1 C.2 hK hP q t0 (by rw [gW_get hq, hf]) ht (by rw [hi]; exact vp_in_nI hk hb9) hdg (by rw [hi, nI_clamp (n := k) (by omega)]; exact K H locs ls hP hS hl)
theorem z_zast (C : zc p c cc) (hI : gI n ad) {tys : List (ClassId × FieldType)} (hK : va_K D cl tys s) {q : Nat} (hq : q < n) {cA : ClassId} {len : Nat} {g : Nat → Int32} (hf : f q = .inl (cA, len, .inl g)) (t0 : Nat) (ht : tys[t0]? = some (cA, .boolean)) {i : Int32} {k : Nat} {x : Int32} (hi : i = nI k) (hk : k < len) (hb9 : len < 2 ^ 31) (hx : vp_nar .boolean x = x) {f' : Nat → va_E} (h1 : f' q = .inl (cA, len, .inl (upd g k x))) (h2 : ∀ j, j < n → j ≠ q → f' j = f j) (hdg : decode cc pc = .ok (.bastore, 1)) (K : ZZ p l e R s m args below meth c D cl n ad nL cells slots Q f' L (pc + 1) st) : ZZ p l e R s m args below meth c D cl n ad nL cells slots Q f L pc (.int x :: .int i :: .ref (ad q) :: st) := fun H locs ls hP hS hl => va_zast C.1 C.2 hK hP (gD hI) hS q t0 (by rw [gW_get hq, hf]) ht (by rw [hi]; exact vp_in_nI hk hb9) hdg (fun H1 locs1 hP1 _ hS1 => K H1 locs1 ls (gP_set hq hP1 (by rw [h1, hx, hi, nI_clamp (n := k) (by omega)]) h2) hS1 hl)
end ZK
theorem gA_sub {n : Nat} {ad : Nat → Nat} {a b : Nat} (h : a ≤ b) {q : Nat} (hq : gA n ad b q) : gA n ad a q := hq.elim Or.inl (fun z => Or.inr (Nat.le_trans h z))
def zP (D : va_G) (cl : List vw_C) (tys : List (ClassId × FieldType)) (n : Nat) (ad : Nat → Nat) (X : Nat → State → Prop) (f : Nat → va_E) (sz : Nat) (U : State) : Prop := U.heap.size = sz ∧ va_P D cl (gW n ad f) U.heap ∧ va_K D cl tys U ∧ X sz U
def zB {S : Type} (D : va_G) (cl : List vw_C) (n : Nat) (ad : Nat → Nat) (F : S → Nat → va_E) (u : S) (t : State) : Prop := va_P D cl (gW n ad (F u)) t.heap
/-- what a contract asks beside its world: it goes along with the run, and with the frames -/
def zXk (n : Nat) (ad : Nat → Nat) (X : Nat → State → Prop) : Prop := (∀ (s U : State) (locs : List Loc), X s.heap.size s → va_S (gA n ad s.heap.size) s.heap U.heap locs → s.WarmedH U.vm → X U.heap.size U) ∧ ∀ (sz : Nat) (U : State) (g : JFrame) (mk : MethodId) (a : Array Value), X sz U → X sz (U.calling g mk a)
theorem zP_blind {D : va_G} {cl : List vw_C} {tys : List (ClassId × FieldType)} {n : Nat} {ad : Nat → Nat} {X : Nat → State → Prop} (hXk : zXk n ad X) {f : Nat → va_E} {sz : Nat} {av : List Value} : FrameBlind (va_Pc av (zP D cl tys n ad X f sz)) := fun a U g mk q => by
  obtain ⟨q0, q1, qP, qK, qX⟩ := q
  exact ⟨q0, q1, qP, va_K.moved (u := U) (U := U.calling g mk a) (Vm.Alike.refl U.vm) qK, hXk.2 _ _ _ _ _ qX⟩
theorem z_met {l : Launch} {y : MethodName} {ws ws' : List Cond} {rm : Room} {Qc : Array Value → State → Outcome → State → Prop} {mc ms : Nat} {cc : ByteArray} {maxL : Nat} {ret : Option FieldType} {D : va_G} {cl : List vw_C} {tys : List (ClassId × FieldType)} {n : Nat} {ad : Nat → Nat} {X : Nat → State → Prop} {f : Nat → va_E} {sz : Nat} {av : List Value} (hy : plainName y.cls = true) (hw : ws = Cond.code y cc maxL ret :: ws') (hlen : (lg_sl av).length ≤ maxL)
    (body : ∀ p e s m args Q below meth c, zc p c cc → meth.sig.returnType = ret → c.maxLocals = maxL → s.vm.findClass y.cls = some m.cls → (∀ w ∈ ws, w.before args s = true) → meth.locks = false → va_K D cl tys s → X s.heap.size s → s.heap.size = sz → Q = MQ below Qc args s mc ms (gA n ad s.heap.size) → ZZ p l e rm s m args below meth c D cl n ad maxL 0 0 Q f (lv_args 0 av) 0 []) : Met l y ws rm (va_Pc av (zP D cl tys n ad X f sz)) Qc mc ms (gA n ad sz) := by
  refine Met.ofW (cc := cc) (maxL := maxL) (ret := ret) hy hw ?_
  intro p e s m args below meth c s₁ B hml hv
  obtain ⟨rfl, hsz, hP, hK, hX⟩ := hv
  rw [lg_entry_eq]
  subst hsz
  exact body p e s m av.toArray _ below meth c ⟨B.exec, B.bytes⟩ B.returns hml (findClass_of_methodNamed B.named) (atoms_spec (ws := ws) B.pre) B.notSynchronized hK hX rfl rfl s.heap [] _ hP va_S.rf (lv_entry av hlen)
section ZR
variable {p : Program} {l : Launch} {e : Env} {R : Room} {s : State} {m : MethodId} {args : Array Value} {below : List Frame} {meth : Method} {c : Code} {D : va_G} {cl : List vw_C} {n : Nat} {ad : Nat → Nat} {nL cells slots : Nat} {Q : State → Prop} {f : Nat → va_E} {L : List (Nat × Value)} {pc : Nat} {st : List Value} {cc : ByteArray}

theorem z_iret (C : zc p c cc) {S : Type} {post : Int32 → S → Prop} {F : S → Nat → va_E} (hr : meth.sig.returnType = some .int) (hlocks : meth.locks = false) {v : Int32} (hQ : Q = MQ below (va_Qi post (zB D cl n ad F) (gA n ad s.heap.size)) args s cells slots (gA n ad s.heap.size)) (u : S) (hp : post v u) (hF : ∀ k, k < n → F u k = f k) (hdg : decode cc pc = .ok (.ireturn, 1)) : ZZ p l e R s m args below meth c D cl n ad nL cells slots Q f L pc [.int v] := by
  subst hQ
  exact fun H locs ls hP hS hl => W.iret C.1 C.2 hr (fun t ht hW => ⟨⟨v, u, rfl, hp, by show va_P D cl (gW n ad (F u)) t.heap; rw [ht]; exact gP_cong hP hF⟩, hS.F ht⟩) hS.2.2 hdg hlocks
theorem z_zret (C : zc p c cc) {S : Type} {post : Int32 → S → Prop} {F : S → Nat → va_E} {ty : FieldType} (hr : meth.sig.returnType = some ty) (hlocks : meth.locks = false) {v : Int32} (hn : narrow ty (.int v) = .int v) (hQ : Q = MQ below (va_Qi post (zB D cl n ad F) (gA n ad s.heap.size)) args s cells slots (gA n ad s.heap.size)) (u : S) (hp : post v u) (hF : ∀ k, k < n → F u k = f k) (hdg : decode cc pc = .ok (.ireturn, 1)) : ZZ p l e R s m args below meth c D cl n ad nL cells slots Q f L pc [.int v] := by
  subst hQ
  exact fun H locs ls hP hS hl => W.zret C.1 C.2 hr hn (fun t ht hW => ⟨⟨v, u, rfl, hp, by show va_P D cl (gW n ad (F u)) t.heap; rw [ht]; exact gP_cong hP hF⟩, hS.F ht⟩) hS.2.2 hdg hlocks
theorem z_lret (C : zc p c cc) {S : Type} {post : Int64 → S → Prop} {F : S → Nat → va_E} (hr : meth.sig.returnType = some .long) (hlocks : meth.locks = false) {v : Int64} (hQ : Q = MQ below (va_Ql post (zB D cl n ad F) (gA n ad s.heap.size)) args s cells slots (gA n ad s.heap.size)) (u : S) (hp : post v u) (hF : ∀ k, k < n → F u k = f k) (hdg : decode cc pc = .ok (.lreturn, 1)) : ZZ p l e R s m args below meth c D cl n ad nL cells slots Q f L pc [.long v] := by
  subst hQ
  exact fun H locs ls hP hS hl => W.lret C.1 C.2 hr (fun t ht hW => ⟨⟨v, u, rfl, hp, by show va_P D cl (gW n ad (F u)) t.heap; rw [ht]; exact gP_cong hP hF⟩, hS.F ht⟩) hS.2.2 hdg hlocks
theorem z_dret (C : zc p c cc) {S : Type} {post : UInt64 → S → Prop} {F : S → Nat → va_E} (hr : meth.sig.returnType = some .double) (hlocks : meth.locks = false) {v : UInt64} (hQ : Q = MQ below (va_Qd post (zB D cl n ad F) (gA n ad s.heap.size)) args s cells slots (gA n ad s.heap.size)) (u : S) (hp : post v u) (hF : ∀ k, k < n → F u k = f k) (hdg : decode cc pc = .ok (.dreturn, 1)) : ZZ p l e R s m args below meth c D cl n ad nL cells slots Q f L pc [.double v] := by
  subst hQ
  exact fun H locs ls hP hS hl => W.dret C.1 C.2 hr (fun t ht hW => ⟨⟨v, u, rfl, hp, by show va_P D cl (gW n ad (F u)) t.heap; rw [ht]; exact gP_cong hP hF⟩, hS.F ht⟩) hS.2.2 hdg hlocks
theorem z_vret (C : zc p c cc) {S : Type} {post : S → Prop} {F : S → Nat → va_E} (hr : meth.sig.returnType = none) (hlocks : meth.locks = false) (hQ : Q = MQ below (va_Qv post (zB D cl n ad F) (gA n ad s.heap.size)) args s cells slots (gA n ad s.heap.size)) (u : S) (hp : post u) (hF : ∀ k, k < n → F u k = f k) (hdg : decode cc pc = .ok (.return_, 1)) : ZZ p l e R s m args below meth c D cl n ad nL cells slots Q f L pc [] := by
  subst hQ
  exact fun H locs ls hP hS hl => W.vret C.1 C.2 hr (fun t ht hW => ⟨⟨u, rfl, hp, by show va_P D cl (gW n ad (F u)) t.heap; rw [ht]; exact gP_cong hP hF⟩, hS.F ht⟩) hS.2.2 hdg hlocks
theorem z_aret (C : zc p c cc) {S : Type} {post : Option Nat → S → Prop} {F : S → Nat → va_E} {rt : FieldType} (hr : meth.sig.returnType = some rt) (hrt : ∃ n, rt = .object n) (hlocks : meth.locks = false) (r : Option Nat) {x : Value} (hx : va_rf r = x) (hQ : Q = MQ below (va_Qq post (zB D cl n ad F) (gA n ad s.heap.size)) args s cells slots (gA n ad s.heap.size)) (u : S) (hp : post r u) (hF : ∀ k, k < n → F u k = f k) (hdg : decode cc pc = .ok (.areturn, 1)) : ZZ p l e R s m args below meth c D cl n ad nL cells slots Q f L pc [x] := by
  subst hQ
  exact fun H locs ls hP hS hl => W.aret C.1 C.2 hr (Or.inl hrt) (by rw [← hx]; cases r with | none => exact Or.inl rfl | some a => exact Or.inr ⟨a, rfl⟩) (fun t ht hW => ⟨⟨r, u, by rw [hx], hp, by show va_P D cl (gW n ad (F u)) t.heap; rw [ht]; exact gP_cong hP hF⟩, hS.F ht⟩) hS.2.2 hdg hlocks
theorem z_callVi {X : Nat → State → Prop} (hXk : zXk n ad X) (C : zc p c cc) (hml : c.maxLocals = nL) {own : String} (hown : s.vm.findClass own = some m.cls) {Ts : List Cond} (hts : ∀ w ∈ Ts, w.before args s = true) {tys : List (ClassId × FieldType)} (hK : va_K D cl tys s) (hX : X s.heap.size s) {y : MethodName} {bytes : ByteArray} {maxL mc ms nA index : Nat} {ret : Option FieldType} {wsY : List Cond} {rm : Room} {S : Type} {F : S → Nat → va_E} {post : Int32 → S → Prop} {As : List Value} {q : Nat} {C0 : String} (hM : ∀ sz, Met l y wsY rm (va_Pc (.ref (ad q) :: As) (zP D cl tys n ad X f sz)) (va_Qi post (zB D cl n ad F) (gA n ad sz)) mc ms (gA n ad sz)) (cw : CallW R s args own C0 index y bytes maxL ret wsY rm mc ms nA) (hq : q < n) {ci N : Nat} {fs : List Value} {T : u_T} (hf : f q = .inr (ci, fs)) (hc : cl[ci]? = some (C0, T, N)) (hn : As.length = nA) {st0 : List Value} (hst : st0 = As.reverse ++ .ref (ad q) :: st) (hcat : (st.map fun v => v.category).sum ≤ 8) (hdg : decode cc pc = .ok (.invokevirtual index, 3)) (hroom : cells + mc ≤ R.cells ∧ slots + ms ≤ R.slots) (K : ∀ (r : Int32) (u : S), post r u → ZZ p l e R s m args below meth c D cl n ad nL (cells + mc) (slots + ms) Q (F u) L (pc + 3) (.int r :: st)) : ZZ p l e R s m args below meth c D cl n ad nL cells slots Q f L pc st0 := by
  intro H locs ls hP hS hl
  subst hst
  exact va_calli (va_runV (As := As) (rest := st) ⟨C.1, C.2, hml, hown, hts⟩ (hM H.size) cw ⟨zP_blind hXk, va_recv hK hP hc (by rw [gW_get hq, hf]), fun U hU hW => ⟨rfl, by rw [hU], by rw [hU]; exact hP, va_K.moved hW.alike hK, by have z := hXk.1 s U locs hX (by rw [hU]; exact hS) hW; rw [hU] at z; exact z⟩⟩ rfl hn hl.1 rfl (lv_room hcat) hdg hroom) hS (fun q _ h => gA_sub hS.1 h) (fun q h => gA_sub hS.1 h) (fun r u t H1 locs1 ht _ hw hB _ _ hS1 => K r u hw H1 locs1 ls (by have hB1 : va_P D cl (gW n ad (F u)) t.heap := hB; rw [ht] at hB1; exact hB1) hS1 hl)
theorem z_callSi {X : Nat → State → Prop} (hXk : zXk n ad X) (C : zc p c cc) (hml : c.maxLocals = nL) {own : String} (hown : s.vm.findClass own = some m.cls) {Ts : List Cond} (hts : ∀ w ∈ Ts, w.before args s = true) {tys : List (ClassId × FieldType)} (hK : va_K D cl tys s) (hX : X s.heap.size s) {y : MethodName} {bytes : ByteArray} {maxL mc ms nA index : Nat} {ret : Option FieldType} {wsY : List Cond} {rm : Room} {S : Type} {F : S → Nat → va_E} {post : Int32 → S → Prop} {As : List Value} (hM : ∀ sz, Met l y wsY rm (va_Pc As (zP D cl tys n ad X f sz)) (va_Qi post (zB D cl n ad F) (gA n ad sz)) mc ms (gA n ad sz)) (cw : CallB R s args own index y bytes maxL ret wsY rm mc ms nA ∧ (Cond.static y).before args s = true) (hn : As.length = nA) {st0 : List Value} (hst : st0 = As.reverse ++ st) (hcat : (st.map fun v => v.category).sum ≤ 8) (hdg : decode cc pc = .ok (.invokestatic index, 3)) (hroom : cells + mc ≤ R.cells ∧ slots + ms ≤ R.slots) (K : ∀ (r : Int32) (u : S), post r u → ZZ p l e R s m args below meth c D cl n ad nL (cells + mc) (slots + ms) Q (F u) L (pc + 3) (.int r :: st)) : ZZ p l e R s m args below meth c D cl n ad nL cells slots Q f L pc st0 := by
  intro H locs ls hP hS hl
  subst hst
  exact va_calli (va_runS (As := As) (rest := st) ⟨C.1, C.2, hml, hown, hts⟩ (hM H.size) cw ⟨zP_blind hXk, fun U hU hW => ⟨rfl, by rw [hU], by rw [hU]; exact hP, va_K.moved hW.alike hK, by have z := hXk.1 s U locs hX (by rw [hU]; exact hS) hW; rw [hU] at z; exact z⟩⟩ rfl hn hl.1 rfl (lv_room hcat) hdg hroom) hS (fun q _ h => gA_sub hS.1 h) (fun q h => gA_sub hS.1 h) (fun r u t H1 locs1 ht _ hw hB _ _ hS1 => K r u hw H1 locs1 ls (by have hB1 : va_P D cl (gW n ad (F u)) t.heap := hB; rw [ht] at hB1; exact hB1) hS1 hl)
theorem z_callSNi {X : Nat → State → Prop} (hXk : zXk n ad X) (C : zc p c cc) (hml : c.maxLocals = nL) {own : String} (hown : s.vm.findClass own = some m.cls) {Ts : List Cond} (hts : ∀ w ∈ Ts, w.before args s = true) {tys : List (ClassId × FieldType)} (hK : va_K D cl tys s) (hX : X s.heap.size s) {y : MethodName} {bytes : ByteArray} {maxL mc ms nA index : Nat} {ret : Option FieldType} {wsY : List Cond} {rm : Room} {S : Type} {F : S → Nat → va_E} {post : Int32 → S → Prop} {As : List Value} {host : String} (hM : ∀ sz, Met l y wsY rm (va_Pc As (zP D cl tys n ad X f sz)) (va_Qi post (zB D cl n ad F) (gA n ad sz)) mc ms (gA n ad sz)) (cw : va_CN R s args own index y host bytes maxL ret wsY rm mc ms nA ∧ (Cond.static y).before args s = true ∧ True) (hn : As.length = nA) {st0 : List Value} (hst : st0 = As.reverse ++ st) (hcat : (st.map fun v => v.category).sum ≤ 8) (hdg : decode cc pc = .ok (.invokestatic index, 3)) (hroom : cells + mc ≤ R.cells ∧ slots + ms ≤ R.slots) (K : ∀ (r : Int32) (u : S), post r u → ZZ p l e R s m args below meth c D cl n ad nL (cells + mc) (slots + ms) Q (F u) L (pc + 3) (.int r :: st)) : ZZ p l e R s m args below meth c D cl n ad nL cells slots Q f L pc st0 := by
  intro H locs ls hP hS hl
  subst hst
  exact va_calli (va_runSN (As := As) (rest := st) ⟨C.1, C.2, hml, hown, hts⟩ (hM H.size) cw ⟨zP_blind hXk, fun U hU hW => ⟨rfl, by rw [hU], by rw [hU]; exact hP, va_K.moved hW.alike hK, by have z := hXk.1 s U locs hX (by rw [hU]; exact hS) hW; rw [hU] at z; exact z⟩⟩ rfl hn hl.1 rfl (lv_room hcat) hdg hroom) hS (fun q _ h => gA_sub hS.1 h) (fun q h => gA_sub hS.1 h) (fun r u t H1 locs1 ht _ hw hB _ _ hS1 => K r u hw H1 locs1 ls (by have hB1 : va_P D cl (gW n ad (F u)) t.heap := hB; rw [ht] at hB1; exact hB1) hS1 hl)
theorem z_callVl {X : Nat → State → Prop} (hXk : zXk n ad X) (C : zc p c cc) (hml : c.maxLocals = nL) {own : String} (hown : s.vm.findClass own = some m.cls) {Ts : List Cond} (hts : ∀ w ∈ Ts, w.before args s = true) {tys : List (ClassId × FieldType)} (hK : va_K D cl tys s) (hX : X s.heap.size s) {y : MethodName} {bytes : ByteArray} {maxL mc ms nA index : Nat} {ret : Option FieldType} {wsY : List Cond} {rm : Room} {S : Type} {F : S → Nat → va_E} {post : Int64 → S → Prop} {As : List Value} {q : Nat} {C0 : String} (hM : ∀ sz, Met l y wsY rm (va_Pc (.ref (ad q) :: As) (zP D cl tys n ad X f sz)) (va_Ql post (zB D cl n ad F) (gA n ad sz)) mc ms (gA n ad sz)) (cw : CallW R s args own C0 index y bytes maxL ret wsY rm mc ms nA) (hq : q < n) {ci N : Nat} {fs : List Value} {T : u_T} (hf : f q = .inr (ci, fs)) (hc : cl[ci]? = some (C0, T, N)) (hn : As.length = nA) {st0 : List Value} (hst : st0 = As.reverse ++ .ref (ad q) :: st) (hcat : (st.map fun v => v.category).sum ≤ 8) (hdg : decode cc pc = .ok (.invokevirtual index, 3)) (hroom : cells + mc ≤ R.cells ∧ slots + ms ≤ R.slots) (K : ∀ (r : Int64) (u : S), post r u → ZZ p l e R s m args below meth c D cl n ad nL (cells + mc) (slots + ms) Q (F u) L (pc + 3) (.long r :: st)) : ZZ p l e R s m args below meth c D cl n ad nL cells slots Q f L pc st0 := by
  intro H locs ls hP hS hl
  subst hst
  exact va_calll (va_runV (As := As) (rest := st) ⟨C.1, C.2, hml, hown, hts⟩ (hM H.size) cw ⟨zP_blind hXk, va_recv hK hP hc (by rw [gW_get hq, hf]), fun U hU hW => ⟨rfl, by rw [hU], by rw [hU]; exact hP, va_K.moved hW.alike hK, by have z := hXk.1 s U locs hX (by rw [hU]; exact hS) hW; rw [hU] at z; exact z⟩⟩ rfl hn hl.1 rfl (lv_room hcat) hdg hroom) hS (fun q _ h => gA_sub hS.1 h) (fun q h => gA_sub hS.1 h) (fun r u t H1 locs1 ht _ hw hB _ _ hS1 => K r u hw H1 locs1 ls (by have hB1 : va_P D cl (gW n ad (F u)) t.heap := hB; rw [ht] at hB1; exact hB1) hS1 hl)
theorem z_callSl {X : Nat → State → Prop} (hXk : zXk n ad X) (C : zc p c cc) (hml : c.maxLocals = nL) {own : String} (hown : s.vm.findClass own = some m.cls) {Ts : List Cond} (hts : ∀ w ∈ Ts, w.before args s = true) {tys : List (ClassId × FieldType)} (hK : va_K D cl tys s) (hX : X s.heap.size s) {y : MethodName} {bytes : ByteArray} {maxL mc ms nA index : Nat} {ret : Option FieldType} {wsY : List Cond} {rm : Room} {S : Type} {F : S → Nat → va_E} {post : Int64 → S → Prop} {As : List Value} (hM : ∀ sz, Met l y wsY rm (va_Pc As (zP D cl tys n ad X f sz)) (va_Ql post (zB D cl n ad F) (gA n ad sz)) mc ms (gA n ad sz)) (cw : CallB R s args own index y bytes maxL ret wsY rm mc ms nA ∧ (Cond.static y).before args s = true) (hn : As.length = nA) {st0 : List Value} (hst : st0 = As.reverse ++ st) (hcat : (st.map fun v => v.category).sum ≤ 8) (hdg : decode cc pc = .ok (.invokestatic index, 3)) (hroom : cells + mc ≤ R.cells ∧ slots + ms ≤ R.slots) (K : ∀ (r : Int64) (u : S), post r u → ZZ p l e R s m args below meth c D cl n ad nL (cells + mc) (slots + ms) Q (F u) L (pc + 3) (.long r :: st)) : ZZ p l e R s m args below meth c D cl n ad nL cells slots Q f L pc st0 := by
  intro H locs ls hP hS hl
  subst hst
  exact va_calll (va_runS (As := As) (rest := st) ⟨C.1, C.2, hml, hown, hts⟩ (hM H.size) cw ⟨zP_blind hXk, fun U hU hW => ⟨rfl, by rw [hU], by rw [hU]; exact hP, va_K.moved hW.alike hK, by have z := hXk.1 s U locs hX (by rw [hU]; exact hS) hW; rw [hU] at z; exact z⟩⟩ rfl hn hl.1 rfl (lv_room hcat) hdg hroom) hS (fun q _ h => gA_sub hS.1 h) (fun q h => gA_sub hS.1 h) (fun r u t H1 locs1 ht _ hw hB _ _ hS1 => K r u hw H1 locs1 ls (by have hB1 : va_P D cl (gW n ad (F u)) t.heap := hB; rw [ht] at hB1; exact hB1) hS1 hl)
theorem z_callSNl {X : Nat → State → Prop} (hXk : zXk n ad X) (C : zc p c cc) (hml : c.maxLocals = nL) {own : String} (hown : s.vm.findClass own = some m.cls) {Ts : List Cond} (hts : ∀ w ∈ Ts, w.before args s = true) {tys : List (ClassId × FieldType)} (hK : va_K D cl tys s) (hX : X s.heap.size s) {y : MethodName} {bytes : ByteArray} {maxL mc ms nA index : Nat} {ret : Option FieldType} {wsY : List Cond} {rm : Room} {S : Type} {F : S → Nat → va_E} {post : Int64 → S → Prop} {As : List Value} {host : String} (hM : ∀ sz, Met l y wsY rm (va_Pc As (zP D cl tys n ad X f sz)) (va_Ql post (zB D cl n ad F) (gA n ad sz)) mc ms (gA n ad sz)) (cw : va_CN R s args own index y host bytes maxL ret wsY rm mc ms nA ∧ (Cond.static y).before args s = true ∧ True) (hn : As.length = nA) {st0 : List Value} (hst : st0 = As.reverse ++ st) (hcat : (st.map fun v => v.category).sum ≤ 8) (hdg : decode cc pc = .ok (.invokestatic index, 3)) (hroom : cells + mc ≤ R.cells ∧ slots + ms ≤ R.slots) (K : ∀ (r : Int64) (u : S), post r u → ZZ p l e R s m args below meth c D cl n ad nL (cells + mc) (slots + ms) Q (F u) L (pc + 3) (.long r :: st)) : ZZ p l e R s m args below meth c D cl n ad nL cells slots Q f L pc st0 := by
  intro H locs ls hP hS hl
  subst hst
  exact va_calll (va_runSN (As := As) (rest := st) ⟨C.1, C.2, hml, hown, hts⟩ (hM H.size) cw ⟨zP_blind hXk, fun U hU hW => ⟨rfl, by rw [hU], by rw [hU]; exact hP, va_K.moved hW.alike hK, by have z := hXk.1 s U locs hX (by rw [hU]; exact hS) hW; rw [hU] at z; exact z⟩⟩ rfl hn hl.1 rfl (lv_room hcat) hdg hroom) hS (fun q _ h => gA_sub hS.1 h) (fun q h => gA_sub hS.1 h) (fun r u t H1 locs1 ht _ hw hB _ _ hS1 => K r u hw H1 locs1 ls (by have hB1 : va_P D cl (gW n ad (F u)) t.heap := hB; rw [ht] at hB1; exact hB1) hS1 hl)
theorem z_callVd {X : Nat → State → Prop} (hXk : zXk n ad X) (C : zc p c cc) (hml : c.maxLocals = nL) {own : String} (hown : s.vm.findClass own = some m.cls) {Ts : List Cond} (hts : ∀ w ∈ Ts, w.before args s = true) {tys : List (ClassId × FieldType)} (hK : va_K D cl tys s) (hX : X s.heap.size s) {y : MethodName} {bytes : ByteArray} {maxL mc ms nA index : Nat} {ret : Option FieldType} {wsY : List Cond} {rm : Room} {S : Type} {F : S → Nat → va_E} {post : UInt64 → S → Prop} {As : List Value} {q : Nat} {C0 : String} (hM : ∀ sz, Met l y wsY rm (va_Pc (.ref (ad q) :: As) (zP D cl tys n ad X f sz)) (va_Qd post (zB D cl n ad F) (gA n ad sz)) mc ms (gA n ad sz)) (cw : CallW R s args own C0 index y bytes maxL ret wsY rm mc ms nA) (hq : q < n) {ci N : Nat} {fs : List Value} {T : u_T} (hf : f q = .inr (ci, fs)) (hc : cl[ci]? = some (C0, T, N)) (hn : As.length = nA) {st0 : List Value} (hst : st0 = As.reverse ++ .ref (ad q) :: st) (hcat : (st.map fun v => v.category).sum ≤ 8) (hdg : decode cc pc = .ok (.invokevirtual index, 3)) (hroom : cells + mc ≤ R.cells ∧ slots + ms ≤ R.slots) (K : ∀ (r : UInt64) (u : S), post r u → ZZ p l e R s m args below meth c D cl n ad nL (cells + mc) (slots + ms) Q (F u) L (pc + 3) (.double r :: st)) : ZZ p l e R s m args below meth c D cl n ad nL cells slots Q f L pc st0 := by
  intro H locs ls hP hS hl
  subst hst
  exact va_calld (va_runV (As := As) (rest := st) ⟨C.1, C.2, hml, hown, hts⟩ (hM H.size) cw ⟨zP_blind hXk, va_recv hK hP hc (by rw [gW_get hq, hf]), fun U hU hW => ⟨rfl, by rw [hU], by rw [hU]; exact hP, va_K.moved hW.alike hK, by have z := hXk.1 s U locs hX (by rw [hU]; exact hS) hW; rw [hU] at z; exact z⟩⟩ rfl hn hl.1 rfl (lv_room hcat) hdg hroom) hS (fun q _ h => gA_sub hS.1 h) (fun q h => gA_sub hS.1 h) (fun r u t H1 locs1 ht _ hw hB _ _ hS1 => K r u hw H1 locs1 ls (by have hB1 : va_P D cl (gW n ad (F u)) t.heap := hB; rw [ht] at hB1; exact hB1) hS1 hl)
theorem z_callSd {X : Nat → State → Prop} (hXk : zXk n ad X) (C : zc p c cc) (hml : c.maxLocals = nL) {own : String} (hown : s.vm.findClass own = some m.cls) {Ts : List Cond} (hts : ∀ w ∈ Ts, w.before args s = true) {tys : List (ClassId × FieldType)} (hK : va_K D cl tys s) (hX : X s.heap.size s) {y : MethodName} {bytes : ByteArray} {maxL mc ms nA index : Nat} {ret : Option FieldType} {wsY : List Cond} {rm : Room} {S : Type} {F : S → Nat → va_E} {post : UInt64 → S → Prop} {As : List Value} (hM : ∀ sz, Met l y wsY rm (va_Pc As (zP D cl tys n ad X f sz)) (va_Qd post (zB D cl n ad F) (gA n ad sz)) mc ms (gA n ad sz)) (cw : CallB R s args own index y bytes maxL ret wsY rm mc ms nA ∧ (Cond.static y).before args s = true) (hn : As.length = nA) {st0 : List Value} (hst : st0 = As.reverse ++ st) (hcat : (st.map fun v => v.category).sum ≤ 8) (hdg : decode cc pc = .ok (.invokestatic index, 3)) (hroom : cells + mc ≤ R.cells ∧ slots + ms ≤ R.slots) (K : ∀ (r : UInt64) (u : S), post r u → ZZ p l e R s m args below meth c D cl n ad nL (cells + mc) (slots + ms) Q (F u) L (pc + 3) (.double r :: st)) : ZZ p l e R s m args below meth c D cl n ad nL cells slots Q f L pc st0 := by
  intro H locs ls hP hS hl
  subst hst
  exact va_calld (va_runS (As := As) (rest := st) ⟨C.1, C.2, hml, hown, hts⟩ (hM H.size) cw ⟨zP_blind hXk, fun U hU hW => ⟨rfl, by rw [hU], by rw [hU]; exact hP, va_K.moved hW.alike hK, by have z := hXk.1 s U locs hX (by rw [hU]; exact hS) hW; rw [hU] at z; exact z⟩⟩ rfl hn hl.1 rfl (lv_room hcat) hdg hroom) hS (fun q _ h => gA_sub hS.1 h) (fun q h => gA_sub hS.1 h) (fun r u t H1 locs1 ht _ hw hB _ _ hS1 => K r u hw H1 locs1 ls (by have hB1 : va_P D cl (gW n ad (F u)) t.heap := hB; rw [ht] at hB1; exact hB1) hS1 hl)
theorem z_callSNd {X : Nat → State → Prop} (hXk : zXk n ad X) (C : zc p c cc) (hml : c.maxLocals = nL) {own : String} (hown : s.vm.findClass own = some m.cls) {Ts : List Cond} (hts : ∀ w ∈ Ts, w.before args s = true) {tys : List (ClassId × FieldType)} (hK : va_K D cl tys s) (hX : X s.heap.size s) {y : MethodName} {bytes : ByteArray} {maxL mc ms nA index : Nat} {ret : Option FieldType} {wsY : List Cond} {rm : Room} {S : Type} {F : S → Nat → va_E} {post : UInt64 → S → Prop} {As : List Value} {host : String} (hM : ∀ sz, Met l y wsY rm (va_Pc As (zP D cl tys n ad X f sz)) (va_Qd post (zB D cl n ad F) (gA n ad sz)) mc ms (gA n ad sz)) (cw : va_CN R s args own index y host bytes maxL ret wsY rm mc ms nA ∧ (Cond.static y).before args s = true ∧ True) (hn : As.length = nA) {st0 : List Value} (hst : st0 = As.reverse ++ st) (hcat : (st.map fun v => v.category).sum ≤ 8) (hdg : decode cc pc = .ok (.invokestatic index, 3)) (hroom : cells + mc ≤ R.cells ∧ slots + ms ≤ R.slots) (K : ∀ (r : UInt64) (u : S), post r u → ZZ p l e R s m args below meth c D cl n ad nL (cells + mc) (slots + ms) Q (F u) L (pc + 3) (.double r :: st)) : ZZ p l e R s m args below meth c D cl n ad nL cells slots Q f L pc st0 := by
  intro H locs ls hP hS hl
  subst hst
  exact va_calld (va_runSN (As := As) (rest := st) ⟨C.1, C.2, hml, hown, hts⟩ (hM H.size) cw ⟨zP_blind hXk, fun U hU hW => ⟨rfl, by rw [hU], by rw [hU]; exact hP, va_K.moved hW.alike hK, by have z := hXk.1 s U locs hX (by rw [hU]; exact hS) hW; rw [hU] at z; exact z⟩⟩ rfl hn hl.1 rfl (lv_room hcat) hdg hroom) hS (fun q _ h => gA_sub hS.1 h) (fun q h => gA_sub hS.1 h) (fun r u t H1 locs1 ht _ hw hB _ _ hS1 => K r u hw H1 locs1 ls (by have hB1 : va_P D cl (gW n ad (F u)) t.heap := hB; rw [ht] at hB1; exact hB1) hS1 hl)
theorem z_callVv {X : Nat → State → Prop} (hXk : zXk n ad X) (C : zc p c cc) (hml : c.maxLocals = nL) {own : String} (hown : s.vm.findClass own = some m.cls) {Ts : List Cond} (hts : ∀ w ∈ Ts, w.before args s = true) {tys : List (ClassId × FieldType)} (hK : va_K D cl tys s) (hX : X s.heap.size s) {y : MethodName} {bytes : ByteArray} {maxL mc ms nA index : Nat} {ret : Option FieldType} {wsY : List Cond} {rm : Room} {S : Type} {F : S → Nat → va_E} {post : S → Prop} {As : List Value} {q : Nat} {C0 : String} (hM : ∀ sz, Met l y wsY rm (va_Pc (.ref (ad q) :: As) (zP D cl tys n ad X f sz)) (va_Qv post (zB D cl n ad F) (gA n ad sz)) mc ms (gA n ad sz)) (cw : CallW R s args own C0 index y bytes maxL ret wsY rm mc ms nA) (hq : q < n) {ci N : Nat} {fs : List Value} {T : u_T} (hf : f q = .inr (ci, fs)) (hc : cl[ci]? = some (C0, T, N)) (hn : As.length = nA) {st0 : List Value} (hst : st0 = As.reverse ++ .ref (ad q) :: st) (hcat : (st.map fun v => v.category).sum ≤ 8) (hdg : decode cc pc = .ok (.invokevirtual index, 3)) (hroom : cells + mc ≤ R.cells ∧ slots + ms ≤ R.slots) (K : ∀ (u : S), post u → ZZ p l e R s m args below meth c D cl n ad nL (cells + mc) (slots + ms) Q (F u) L (pc + 3) (st)) : ZZ p l e R s m args below meth c D cl n ad nL cells slots Q f L pc st0 := by
  intro H locs ls hP hS hl
  subst hst
  exact va_callv (va_runV (As := As) (rest := st) ⟨C.1, C.2, hml, hown, hts⟩ (hM H.size) cw ⟨zP_blind hXk, va_recv hK hP hc (by rw [gW_get hq, hf]), fun U hU hW => ⟨rfl, by rw [hU], by rw [hU]; exact hP, va_K.moved hW.alike hK, by have z := hXk.1 s U locs hX (by rw [hU]; exact hS) hW; rw [hU] at z; exact z⟩⟩ rfl hn hl.1 rfl (lv_room hcat) hdg hroom) hS (fun q _ h => gA_sub hS.1 h) (fun q h => gA_sub hS.1 h) (fun u t H1 locs1 ht _ hw hB _ _ hS1 => K u hw H1 locs1 ls (by have hB1 : va_P D cl (gW n ad (F u)) t.heap := hB; rw [ht] at hB1; exact hB1) hS1 hl)
theorem z_callSv {X : Nat → State → Prop} (hXk : zXk n ad X) (C : zc p c cc) (hml : c.maxLocals = nL) {own : String} (hown : s.vm.findClass own = some m.cls) {Ts : List Cond} (hts : ∀ w ∈ Ts, w.before args s = true) {tys : List (ClassId × FieldType)} (hK : va_K D cl tys s) (hX : X s.heap.size s) {y : MethodName} {bytes : ByteArray} {maxL mc ms nA index : Nat} {ret : Option FieldType} {wsY : List Cond} {rm : Room} {S : Type} {F : S → Nat → va_E} {post : S → Prop} {As : List Value} (hM : ∀ sz, Met l y wsY rm (va_Pc As (zP D cl tys n ad X f sz)) (va_Qv post (zB D cl n ad F) (gA n ad sz)) mc ms (gA n ad sz)) (cw : CallB R s args own index y bytes maxL ret wsY rm mc ms nA ∧ (Cond.static y).before args s = true) (hn : As.length = nA) {st0 : List Value} (hst : st0 = As.reverse ++ st) (hcat : (st.map fun v => v.category).sum ≤ 8) (hdg : decode cc pc = .ok (.invokestatic index, 3)) (hroom : cells + mc ≤ R.cells ∧ slots + ms ≤ R.slots) (K : ∀ (u : S), post u → ZZ p l e R s m args below meth c D cl n ad nL (cells + mc) (slots + ms) Q (F u) L (pc + 3) (st)) : ZZ p l e R s m args below meth c D cl n ad nL cells slots Q f L pc st0 := by
  intro H locs ls hP hS hl
  subst hst
  exact va_callv (va_runS (As := As) (rest := st) ⟨C.1, C.2, hml, hown, hts⟩ (hM H.size) cw ⟨zP_blind hXk, fun U hU hW => ⟨rfl, by rw [hU], by rw [hU]; exact hP, va_K.moved hW.alike hK, by have z := hXk.1 s U locs hX (by rw [hU]; exact hS) hW; rw [hU] at z; exact z⟩⟩ rfl hn hl.1 rfl (lv_room hcat) hdg hroom) hS (fun q _ h => gA_sub hS.1 h) (fun q h => gA_sub hS.1 h) (fun u t H1 locs1 ht _ hw hB _ _ hS1 => K u hw H1 locs1 ls (by have hB1 : va_P D cl (gW n ad (F u)) t.heap := hB; rw [ht] at hB1; exact hB1) hS1 hl)
theorem z_callSNv {X : Nat → State → Prop} (hXk : zXk n ad X) (C : zc p c cc) (hml : c.maxLocals = nL) {own : String} (hown : s.vm.findClass own = some m.cls) {Ts : List Cond} (hts : ∀ w ∈ Ts, w.before args s = true) {tys : List (ClassId × FieldType)} (hK : va_K D cl tys s) (hX : X s.heap.size s) {y : MethodName} {bytes : ByteArray} {maxL mc ms nA index : Nat} {ret : Option FieldType} {wsY : List Cond} {rm : Room} {S : Type} {F : S → Nat → va_E} {post : S → Prop} {As : List Value} {host : String} (hM : ∀ sz, Met l y wsY rm (va_Pc As (zP D cl tys n ad X f sz)) (va_Qv post (zB D cl n ad F) (gA n ad sz)) mc ms (gA n ad sz)) (cw : va_CN R s args own index y host bytes maxL ret wsY rm mc ms nA ∧ (Cond.static y).before args s = true ∧ True) (hn : As.length = nA) {st0 : List Value} (hst : st0 = As.reverse ++ st) (hcat : (st.map fun v => v.category).sum ≤ 8) (hdg : decode cc pc = .ok (.invokestatic index, 3)) (hroom : cells + mc ≤ R.cells ∧ slots + ms ≤ R.slots) (K : ∀ (u : S), post u → ZZ p l e R s m args below meth c D cl n ad nL (cells + mc) (slots + ms) Q (F u) L (pc + 3) (st)) : ZZ p l e R s m args below meth c D cl n ad nL cells slots Q f L pc st0 := by
  intro H locs ls hP hS hl
  subst hst
  exact va_callv (va_runSN (As := As) (rest := st) ⟨C.1, C.2, hml, hown, hts⟩ (hM H.size) cw ⟨zP_blind hXk, fun U hU hW => ⟨rfl, by rw [hU], by rw [hU]; exact hP, va_K.moved hW.alike hK, by have z := hXk.1 s U locs hX (by rw [hU]; exact hS) hW; rw [hU] at z; exact z⟩⟩ rfl hn hl.1 rfl (lv_room hcat) hdg hroom) hS (fun q _ h => gA_sub hS.1 h) (fun q h => gA_sub hS.1 h) (fun u t H1 locs1 ht _ hw hB _ _ hS1 => K u hw H1 locs1 ls (by have hB1 : va_P D cl (gW n ad (F u)) t.heap := hB; rw [ht] at hB1; exact hB1) hS1 hl)
theorem z_callVq {X : Nat → State → Prop} (hXk : zXk n ad X) (C : zc p c cc) (hml : c.maxLocals = nL) {own : String} (hown : s.vm.findClass own = some m.cls) {Ts : List Cond} (hts : ∀ w ∈ Ts, w.before args s = true) {tys : List (ClassId × FieldType)} (hK : va_K D cl tys s) (hX : X s.heap.size s) {y : MethodName} {bytes : ByteArray} {maxL mc ms nA index : Nat} {ret : Option FieldType} {wsY : List Cond} {rm : Room} {S : Type} {F : S → Nat → va_E} {post : Option Nat → S → Prop} {As : List Value} {q : Nat} {C0 : String} (hM : ∀ sz, Met l y wsY rm (va_Pc (.ref (ad q) :: As) (zP D cl tys n ad X f sz)) (va_Qq post (zB D cl n ad F) (gA n ad sz)) mc ms (gA n ad sz)) (cw : CallW R s args own C0 index y bytes maxL ret wsY rm mc ms nA) (hq : q < n) {ci N : Nat} {fs : List Value} {T : u_T} (hf : f q = .inr (ci, fs)) (hc : cl[ci]? = some (C0, T, N)) (hn : As.length = nA) {st0 : List Value} (hst : st0 = As.reverse ++ .ref (ad q) :: st) (hcat : (st.map fun v => v.category).sum ≤ 8) (hdg : decode cc pc = .ok (.invokevirtual index, 3)) (hroom : cells + mc ≤ R.cells ∧ slots + ms ≤ R.slots) (K : ∀ (r : Option Nat) (u : S), post r u → ZZ p l e R s m args below meth c D cl n ad nL (cells + mc) (slots + ms) Q (F u) L (pc + 3) (va_rf r :: st)) : ZZ p l e R s m args below meth c D cl n ad nL cells slots Q f L pc st0 := by
  intro H locs ls hP hS hl
  subst hst
  exact va_callq (va_runV (As := As) (rest := st) ⟨C.1, C.2, hml, hown, hts⟩ (hM H.size) cw ⟨zP_blind hXk, va_recv hK hP hc (by rw [gW_get hq, hf]), fun U hU hW => ⟨rfl, by rw [hU], by rw [hU]; exact hP, va_K.moved hW.alike hK, by have z := hXk.1 s U locs hX (by rw [hU]; exact hS) hW; rw [hU] at z; exact z⟩⟩ rfl hn hl.1 rfl (lv_room hcat) hdg hroom) hS (fun q _ h => gA_sub hS.1 h) (fun q h => gA_sub hS.1 h) (fun r u t H1 locs1 ht _ hw hB _ _ hS1 => K r u hw H1 locs1 ls (by have hB1 : va_P D cl (gW n ad (F u)) t.heap := hB; rw [ht] at hB1; exact hB1) hS1 hl)
theorem z_callSq {X : Nat → State → Prop} (hXk : zXk n ad X) (C : zc p c cc) (hml : c.maxLocals = nL) {own : String} (hown : s.vm.findClass own = some m.cls) {Ts : List Cond} (hts : ∀ w ∈ Ts, w.before args s = true) {tys : List (ClassId × FieldType)} (hK : va_K D cl tys s) (hX : X s.heap.size s) {y : MethodName} {bytes : ByteArray} {maxL mc ms nA index : Nat} {ret : Option FieldType} {wsY : List Cond} {rm : Room} {S : Type} {F : S → Nat → va_E} {post : Option Nat → S → Prop} {As : List Value} (hM : ∀ sz, Met l y wsY rm (va_Pc As (zP D cl tys n ad X f sz)) (va_Qq post (zB D cl n ad F) (gA n ad sz)) mc ms (gA n ad sz)) (cw : CallB R s args own index y bytes maxL ret wsY rm mc ms nA ∧ (Cond.static y).before args s = true) (hn : As.length = nA) {st0 : List Value} (hst : st0 = As.reverse ++ st) (hcat : (st.map fun v => v.category).sum ≤ 8) (hdg : decode cc pc = .ok (.invokestatic index, 3)) (hroom : cells + mc ≤ R.cells ∧ slots + ms ≤ R.slots) (K : ∀ (r : Option Nat) (u : S), post r u → ZZ p l e R s m args below meth c D cl n ad nL (cells + mc) (slots + ms) Q (F u) L (pc + 3) (va_rf r :: st)) : ZZ p l e R s m args below meth c D cl n ad nL cells slots Q f L pc st0 := by
  intro H locs ls hP hS hl
  subst hst
  exact va_callq (va_runS (As := As) (rest := st) ⟨C.1, C.2, hml, hown, hts⟩ (hM H.size) cw ⟨zP_blind hXk, fun U hU hW => ⟨rfl, by rw [hU], by rw [hU]; exact hP, va_K.moved hW.alike hK, by have z := hXk.1 s U locs hX (by rw [hU]; exact hS) hW; rw [hU] at z; exact z⟩⟩ rfl hn hl.1 rfl (lv_room hcat) hdg hroom) hS (fun q _ h => gA_sub hS.1 h) (fun q h => gA_sub hS.1 h) (fun r u t H1 locs1 ht _ hw hB _ _ hS1 => K r u hw H1 locs1 ls (by have hB1 : va_P D cl (gW n ad (F u)) t.heap := hB; rw [ht] at hB1; exact hB1) hS1 hl)
theorem z_callSNq {X : Nat → State → Prop} (hXk : zXk n ad X) (C : zc p c cc) (hml : c.maxLocals = nL) {own : String} (hown : s.vm.findClass own = some m.cls) {Ts : List Cond} (hts : ∀ w ∈ Ts, w.before args s = true) {tys : List (ClassId × FieldType)} (hK : va_K D cl tys s) (hX : X s.heap.size s) {y : MethodName} {bytes : ByteArray} {maxL mc ms nA index : Nat} {ret : Option FieldType} {wsY : List Cond} {rm : Room} {S : Type} {F : S → Nat → va_E} {post : Option Nat → S → Prop} {As : List Value} {host : String} (hM : ∀ sz, Met l y wsY rm (va_Pc As (zP D cl tys n ad X f sz)) (va_Qq post (zB D cl n ad F) (gA n ad sz)) mc ms (gA n ad sz)) (cw : va_CN R s args own index y host bytes maxL ret wsY rm mc ms nA ∧ (Cond.static y).before args s = true ∧ True) (hn : As.length = nA) {st0 : List Value} (hst : st0 = As.reverse ++ st) (hcat : (st.map fun v => v.category).sum ≤ 8) (hdg : decode cc pc = .ok (.invokestatic index, 3)) (hroom : cells + mc ≤ R.cells ∧ slots + ms ≤ R.slots) (K : ∀ (r : Option Nat) (u : S), post r u → ZZ p l e R s m args below meth c D cl n ad nL (cells + mc) (slots + ms) Q (F u) L (pc + 3) (va_rf r :: st)) : ZZ p l e R s m args below meth c D cl n ad nL cells slots Q f L pc st0 := by
  intro H locs ls hP hS hl
  subst hst
  exact va_callq (va_runSN (As := As) (rest := st) ⟨C.1, C.2, hml, hown, hts⟩ (hM H.size) cw ⟨zP_blind hXk, fun U hU hW => ⟨rfl, by rw [hU], by rw [hU]; exact hP, va_K.moved hW.alike hK, by have z := hXk.1 s U locs hX (by rw [hU]; exact hS) hW; rw [hU] at z; exact z⟩⟩ rfl hn hl.1 rfl (lv_room hcat) hdg hroom) hS (fun q _ h => gA_sub hS.1 h) (fun q h => gA_sub hS.1 h) (fun r u t H1 locs1 ht _ hw hB _ _ hS1 => K r u hw H1 locs1 ls (by have hB1 : va_P D cl (gW n ad (F u)) t.heap := hB; rw [ht] at hB1; exact hB1) hS1 hl)
theorem z_imax (C : zc p c cc) (hml : c.maxLocals = nL) {own : String} {index : Nat} (hown : s.vm.findClass own = some m.cls) (hlink : (Cond.methodLink own index Lib.Math.max.name).before args s = true) (hstat : (Cond.static Lib.Math.max.name).before args s = true) (hini : (Cond.initialized "java/lang/Math").before args s = true) (hcode : (Cond.code Lib.Math.max.name Lib.Math.max.code 2 (some .int)).before args s = true) (hfr : 1 ≤ R.frames) (hlo : (st.map fun v => v.category).sum + 13 ≤ R.locals) (hc : cells ≤ R.cells) (hs : slots ≤ R.slots) {x y v : Int32} (hv : (if x < y then y else x) = v) (hdg : decode cc pc = .ok (.invokestatic index, 3)) (K : ZZ p l e R s m args below meth c D cl n ad nL cells slots Q f L (pc + 3) (.int v :: st)) : ZZ p l e R s m args below meth c D cl n ad nL cells slots Q f L pc (.int y :: .int x :: st) := fun H locs ls hP hS hl => va_mmax C.1 C.2 (hml.trans hl.1.symm) hown hlink hstat hini hcode hfr hlo hc hs hdg (by rw [hv]; exact K H locs ls hP hS hl)
end ZR
end
section
/-! The two worlds: the analyzer's (34 cells: 0..7 the rules, 8..15 their actions, then one each), the model's (12 cells). A state: what stands in cell q at place j, ints and longs apart. -/
abbrev xS : Type := (Nat → Nat → Int32) × (Nat → Nat → Int64)
def xs (u : xS) (q j : Nat) (v : Int32) : xS := (va_up u.1 q (upd (u.1 q) j v), u.2)
def xl (u : xS) (q j : Nat) (v : Int64) : xS := (u.1, va_up u.2 q (vp_updL (u.2 q) j v))
theorem upd_eq (f : Nat → Int32) (k : Nat) (x : Int32) (j : Nat) : upd f k x j = if j = k then x else f j := rfl
theorem xs_at (u : xS) (q j : Nat) (v : Int32) (q' j' : Nat) : (xs u q j v).1 q' j' = if q' = q ∧ j' = j then v else u.1 q' j' := by
  show (va_up u.1 q (upd (u.1 q) j v)) q' j' = _
  unfold va_up
  by_cases h : q' = q
  · subst h
    by_cases h2 : j' = j
    · subst h2; simp [upd]
    · simp [upd, h2]
  · simp [h]
theorem xl_at (u : xS) (q j : Nat) (v : Int64) (q' j' : Nat) : (xl u q j v).2 q' j' = if q' = q ∧ j' = j then v else u.2 q' j' := by
  show (va_up u.2 q (vp_updL (u.2 q) j v)) q' j' = _
  unfold va_up
  by_cases h : q' = q
  · subst h
    by_cases h2 : j' = j
    · subst h2; simp [vp_updL]
    · simp [vp_updL, h2]
  · simp [h]
theorem xs_s (u : xS) (q j : Nat) (v : Int32) : (xs u q j v).1 q j = v := by rw [xs_at]; simp
theorem xs_c {u : xS} {q j : Nat} {v : Int32} {q' : Nat} (h : q' ≠ q) (j' : Nat) : (xs u q j v).1 q' j' = u.1 q' j' := by rw [xs_at]; simp [h]
theorem xs_j {u : xS} {q j : Nat} {v : Int32} {q' j' : Nat} (h : j' ≠ j) : (xs u q j v).1 q' j' = u.1 q' j' := by rw [xs_at]; simp [h]
theorem xs_2 (u : xS) (q j : Nat) (v : Int32) : (xs u q j v).2 = u.2 := rfl
theorem xl_1 (u : xS) (q j : Nat) (v : Int64) : (xl u q j v).1 = u.1 := rfl
theorem xl_s (u : xS) (q j : Nat) (v : Int64) : (xl u q j v).2 q j = v := by rw [xl_at]; simp
theorem xl_c {u : xS} {q j : Nat} {v : Int64} {q' : Nat} (h : q' ≠ q) (j' : Nat) : (xl u q j v).2 q' j' = u.2 q' j' := by rw [xl_at]; simp [h]
theorem xl_j {u : xS} {q j : Nat} {v : Int64} {q' j' : Nat} (h : j' ≠ j) : (xl u q j v).2 q' j' = u.2 q' j' := by rw [xl_at]; simp [h]
theorem xs_r {u : xS} {q j : Nat} {v : Int32} {q' : Nat} (h : q' ≠ q) : (xs u q j v).1 q' = u.1 q' := by show va_up _ _ _ _ = _; simp [va_up, h]
theorem xs_rs (u : xS) (q j : Nat) (v : Int32) : (xs u q j v).1 q = upd (u.1 q) j v := by show va_up _ _ _ _ = _; simp [va_up]
theorem xl_r {u : xS} {q j : Nat} {v : Int64} {q' : Nat} (h : q' ≠ q) : (xl u q j v).2 q' = u.2 q' := by show va_up _ _ _ _ = _; simp [va_up, h]
theorem xl_rs (u : xS) (q j : Nat) (v : Int64) : (xl u q j v).2 q = vp_updL (u.2 q) j v := by show va_up _ _ _ _ = _; simp [va_up]
def rF (ad : Nat → Nat) (i : Nat) (r : Nat → Int32) : List Value := [.int (nI (2 ^ i)), .ref (ad (8 + i)), .int (r 2), .int (r 3), .int (r 4), .int (r 5), .int (r 6), .int (r 7), .int (r 8), .int (r 9), .int (r 10)]
def xK (ad : Nat → Nat) (cI cL cR : ClassId) (k : Nat) (r : Nat → Int32) (rl : Nat → Int64) : va_E := match k with
  | 16 => .inr (5, [.ref (ad 17), .ref (ad 18), .int (r 2)])
  | 17 => .inl (cR, 8, .inr (.inr (.inr (.inr (fun i => some (ad i))))))
  | 18 => .inl (cI, 12, .inl r)
  | 19 => .inr (2, [.ref (ad 16), .ref (ad 20)])
  | 20 => .inl (cI, 8, .inl r)
  | 21 => .inr (1, [.ref (ad 16), .ref (ad 22), .ref (ad 23), .ref (ad 24), .ref (ad 25), .ref (ad 26), .ref (ad 28), .int (r 7), .int (r 8), .int (r 9), .int (r 10), .int (r 11)])
  | 22 => .inl (cI, 1000, .inl r)
  | 23 => .inl (cI, 1000, .inl r)
  | 24 => .inl (cI, 8000, .inl r)
  | 25 => .inl (cI, 16384, .inl r)
  | 26 => .inr (0, [.ref (ad 27), .int (r 1), .int (r 2)])
  | 27 => .inl (cI, 64, .inl r)
  | 28 => .inr (3, [.ref (ad 29), .ref (ad 30), .ref (ad 31), .ref (ad 32), .int (r 4), .int (r 5), .int (r 6), .long (rl 7)])
  | 29 => .inl (cI, 1000, .inl r)
  | 30 => .inl (cI, 1000, .inl r)
  | 31 => .inl (cL, 1000, .inr (.inl rl))
  | 32 => .inl (cI, 1000, .inl r)
  | _ => .inr (6, [.ref (ad 16), .ref (ad 19), .ref (ad 21), .int (r 3)])
def xF (ad : Nat → Nat) (cI cL cR : ClassId) (u : xS) (k : Nat) : va_E := if k < 8 then .inr (4, rF ad k (u.1 k)) else if k < 16 then .inl (cI, 4, .inl (u.1 k)) else xK ad cI cL cR k (u.1 k) (u.2 k)
abbrev xT (cI cL cR : ClassId) : List (ClassId × FieldType) := [(cI, .int), (cL, .long), (cR, .object "TriggerAnalyzer$Rule")]
theorem xF_r {ad : Nat → Nat} {cI cL cR : ClassId} {u : xS} {i : Nat} (h : i < 8) : xF ad cI cL cR u i = .inr (4, rF ad i (u.1 i)) := if_pos h
theorem xF_a {ad : Nat → Nat} {cI cL cR : ClassId} {u : xS} {i : Nat} (h : i < 8) : xF ad cI cL cR u (8 + i) = .inl (cI, 4, .inl (u.1 (8 + i))) := by
  unfold xF
  rw [if_neg (by omega), if_pos (by omega)]
theorem xF_ne {ad : Nat → Nat} {cI cL cR : ClassId} {u : xS} {q j : Nat} {v : Int32} : ∀ k, k < 34 → k ≠ q → xF ad cI cL cR (xs u q j v) k = xF ad cI cL cR u k := by
  intro k _ hk
  unfold xF
  rw [xs_r hk, xs_2]
theorem xF_neL {ad : Nat → Nat} {cI cL cR : ClassId} {u : xS} {q j : Nat} {v : Int64} : ∀ k, k < 34 → k ≠ q → xF ad cI cL cR (xl u q j v) k = xF ad cI cL cR u k := by
  intro k _ hk
  unfold xF
  rw [xl_r hk, xl_1]

theorem xF_p2 {ad : Nat → Nat} {cI cL cR : ClassId} {u : xS} {i : Nat} {v : Int32} (h : i < 8) : xF ad cI cL cR (xs u i 2 v) i = .inr (4, (rF ad i (u.1 i)).set 2 (.int v)) := by rw [xF_r h, xs_rs]; rfl
theorem xF_p3 {ad : Nat → Nat} {cI cL cR : ClassId} {u : xS} {i : Nat} {v : Int32} (h : i < 8) : xF ad cI cL cR (xs u i 3 v) i = .inr (4, (rF ad i (u.1 i)).set 3 (.int v)) := by rw [xF_r h, xs_rs]; rfl
theorem xF_p4 {ad : Nat → Nat} {cI cL cR : ClassId} {u : xS} {i : Nat} {v : Int32} (h : i < 8) : xF ad cI cL cR (xs u i 4 v) i = .inr (4, (rF ad i (u.1 i)).set 4 (.int v)) := by rw [xF_r h, xs_rs]; rfl
theorem xF_p5 {ad : Nat → Nat} {cI cL cR : ClassId} {u : xS} {i : Nat} {v : Int32} (h : i < 8) : xF ad cI cL cR (xs u i 5 v) i = .inr (4, (rF ad i (u.1 i)).set 5 (.int v)) := by rw [xF_r h, xs_rs]; rfl
theorem xF_p6 {ad : Nat → Nat} {cI cL cR : ClassId} {u : xS} {i : Nat} {v : Int32} (h : i < 8) : xF ad cI cL cR (xs u i 6 v) i = .inr (4, (rF ad i (u.1 i)).set 6 (.int v)) := by rw [xF_r h, xs_rs]; rfl
theorem xF_p7 {ad : Nat → Nat} {cI cL cR : ClassId} {u : xS} {i : Nat} {v : Int32} (h : i < 8) : xF ad cI cL cR (xs u i 7 v) i = .inr (4, (rF ad i (u.1 i)).set 7 (.int v)) := by rw [xF_r h, xs_rs]; rfl
theorem xF_p8 {ad : Nat → Nat} {cI cL cR : ClassId} {u : xS} {i : Nat} {v : Int32} (h : i < 8) : xF ad cI cL cR (xs u i 8 v) i = .inr (4, (rF ad i (u.1 i)).set 8 (.int v)) := by rw [xF_r h, xs_rs]; rfl
theorem xF_p9 {ad : Nat → Nat} {cI cL cR : ClassId} {u : xS} {i : Nat} {v : Int32} (h : i < 8) : xF ad cI cL cR (xs u i 9 v) i = .inr (4, (rF ad i (u.1 i)).set 9 (.int v)) := by rw [xF_r h, xs_rs]; rfl
theorem xF_p10 {ad : Nat → Nat} {cI cL cR : ClassId} {u : xS} {i : Nat} {v : Int32} (h : i < 8) : xF ad cI cL cR (xs u i 10 v) i = .inr (4, (rF ad i (u.1 i)).set 10 (.int v)) := by rw [xF_r h, xs_rs]; rfl
theorem xF_pa {ad : Nat → Nat} {cI cL cR : ClassId} {u : xS} {i j : Nat} {v : Int32} (h : i < 8) : xF ad cI cL cR (xs u (8 + i) j v) (8 + i) = .inl (cI, 4, .inl (upd (u.1 (8 + i)) j v)) := by rw [xF_a h, xs_rs]
def xN (U : State) : Prop := va_Nw (.methodLinkNest RX4 31 yX6_triggeredIn RX6) U ∧ va_Nw (.methodLinkNest RX4 38 yX6_factsIn RX6) U ∧ va_Nw (.methodLinkNest RX5 54 yX6_triggeredIn RX6) U ∧ va_Nw (.methodLinkNest RX5 61 yX6_factsIn RX6) U ∧ va_Nw (.methodLinkNest RX5 64 yX6_situationOf RX6) U ∧ va_Nw (.methodLinkNest RX1 90 yX6_triggeredIn RX6) U ∧ va_Nw (.methodLinkNest RX1 93 yX6_factsIn RX6) U
def xE (n : Nat) (ad : Nat → Nat) (sz : Nat) (U : State) : Prop := vx_Zq Bundle.tN "UNASSIGNED_STACK" Bundle.steD (gA n ad sz) U U.heap ∧ vx_Zq Bundle.tN "SUPPRESSED_SENTINEL" Bundle.listD (gA n ad sz) U U.heap
def xX (n : Nat) (ad : Nat → Nat) (sz : Nat) (U : State) : Prop := xN U ∧ xE n ad sz U
theorem xE_go {n : Nat} {ad : Nat → Nat} {s U : State} {locs : List Loc} (h : xE n ad s.heap.size s) (hS : va_S (gA n ad s.heap.size) s.heap U.heap locs) (hW : s.WarmedH U.vm) : xE n ad U.heap.size U :=
  ⟨((h.1.kept hS.2.1).narrow (fun q hq => gA_sub hS.1 hq)).moved hW.alike, ((h.2.kept hS.2.1).narrow (fun q hq => gA_sub hS.1 hq)).moved hW.alike⟩
theorem xX_ok {n : Nat} {ad : Nat → Nat} : zXk n ad (xX n ad) := by
  refine ⟨fun s U locs h hS hW => ⟨?_, xE_go h.2 hS hW⟩, fun sz U g mk a h => ⟨?_, ?_⟩⟩
  · obtain ⟨⟨h1, h2, h3, h4, h5, h6, h7⟩, -⟩ := h
    exact ⟨h1.warmM hW, h2.warmM hW, h3.warmM hW, h4.warmM hW, h5.warmM hW, h6.warmM hW, h7.warmM hW⟩
  · obtain ⟨⟨h1, h2, h3, h4, h5, h6, h7⟩, -⟩ := h
    exact ⟨h1.same rfl rfl, h2.same rfl rfl, h3.same rfl rfl, h4.same rfl rfl, h5.same rfl rfl, h6.same rfl rfl, h7.same rfl rfl⟩
  · exact ⟨h.2.1.moved (u := U) (U := U.calling g mk a) (Vm.Alike.refl U.vm), h.2.2.moved (u := U) (U := U.calling g mk a) (Vm.Alike.refl U.vm)⟩
def mF (ad : Nat → Nat) (cI cL cB : ClassId) (u : xS) (k : Nat) : va_E := match k with
  | 0 => .inr (7, [.int (u.1 0 0), .int (u.1 0 1), .ref (ad 1), .ref (ad 2), .ref (ad 3), .ref (ad 4), .ref (ad 5), .ref (ad 6), .ref (ad 7), .int (u.1 0 9), .int (u.1 0 10), .int (u.1 0 11), .int (u.1 0 12), .int (u.1 0 13), .ref (ad 8), .ref (ad 9), .ref (ad 10), .ref (ad 11)])
  | 1 => .inl (cI, 8, .inl (u.1 1))
  | 2 => .inl (cI, 8, .inl (u.1 2))
  | 3 => .inl (cI, 8, .inl (u.1 3))
  | 4 => .inl (cI, 8, .inl (u.1 4))
  | 5 => .inl (cI, 32, .inl (u.1 5))
  | 6 => .inl (cB, 8, .inl (u.1 6))
  | 7 => .inl (cI, 8, .inl (u.1 7))
  | 8 => .inl (cI, 1000, .inl (u.1 8))
  | 9 => .inl (cI, 8000, .inl (u.1 9))
  | 10 => .inl (cI, 1000, .inl (u.1 10))
  | _ => .inl (cL, 1000, .inr (.inl (u.2 11)))
abbrev mT (cI cL cB : ClassId) : List (ClassId × FieldType) := [(cI, .int), (cL, .long), (cB, .boolean)]
theorem mF_ne {ad : Nat → Nat} {cI cL cB : ClassId} {u : xS} {q j : Nat} {v : Int32} : ∀ k, k < 12 → k ≠ q → mF ad cI cL cB (xs u q j v) k = mF ad cI cL cB u k := by
  intro k h1 hk
  have e : ∀ i, k = i → (xs u q j v).1 i = u.1 i := fun i h => xs_r (by omega)
  match k, h1, e with
  | 0, _, e => unfold mF; rw [e 0 rfl]; rfl
  | 1, _, e => unfold mF; rw [e 1 rfl]; rfl
  | 2, _, e => unfold mF; rw [e 2 rfl]; rfl
  | 3, _, e => unfold mF; rw [e 3 rfl]; rfl
  | 4, _, e => unfold mF; rw [e 4 rfl]; rfl
  | 5, _, e => unfold mF; rw [e 5 rfl]; rfl
  | 6, _, e => unfold mF; rw [e 6 rfl]; rfl
  | 7, _, e => unfold mF; rw [e 7 rfl]; rfl
  | 8, _, e => unfold mF; rw [e 8 rfl]; rfl
  | 9, _, e => unfold mF; rw [e 9 rfl]; rfl
  | 10, _, e => unfold mF; rw [e 10 rfl]; rfl
  | 11, _, _ => rfl
theorem mF_neL {ad : Nat → Nat} {cI cL cB : ClassId} {u : xS} {j : Nat} {v : Int64} : ∀ k, k < 12 → k ≠ 11 → mF ad cI cL cB (xl u 11 j v) k = mF ad cI cL cB u k := by
  intro k h1 hk
  match k, h1, hk with
  | 0, _, _ => rfl
  | 1, _, _ => rfl
  | 2, _, _ => rfl
  | 3, _, _ => rfl
  | 4, _, _ => rfl
  | 5, _, _ => rfl
  | 6, _, _ => rfl
  | 7, _, _ => rfl
  | 8, _, _ => rfl
  | 9, _, _ => rfl
  | 10, _, _ => rfl
  | 11, _, h => exact absurd rfl h
def mX (_ : Nat) (_ : State) : Prop := True
theorem mX_ok {n : Nat} {ad : Nat → Nat} : zXk n ad mX := ⟨fun _ _ _ _ _ _ => trivial, fun _ _ _ _ _ _ => trivial⟩
abbrev XP (D : va_G) (ad : Nat → Nat) (cI cL cR : ClassId) (u : xS) (av : List Value) (sz : Nat) : Array Value → State → Prop := va_Pc av (zP D vwCl (xT cI cL cR) 34 ad (xX 34 ad) (xF ad cI cL cR u) sz)
abbrev XB (D : va_G) (ad : Nat → Nat) (cI cL cR : ClassId) : xS → State → Prop := zB D vwCl 34 ad (xF ad cI cL cR)
abbrev MP (D : va_G) (ad : Nat → Nat) (cI cL cB : ClassId) (u : xS) (av : List Value) (sz : Nat) : Array Value → State → Prop := va_Pc av (zP D vwCl (mT cI cL cB) 12 ad mX (mF ad cI cL cB u) sz)
abbrev MB (D : va_G) (ad : Nat → Nat) (cI cL cB : ClassId) : xS → State → Prop := zB D vwCl 12 ad (mF ad cI cL cB)
end
section
def bt (x : Int32) (i : Nat) : Bool := x.toBitVec.getLsbD i
theorem b_ext {x y : Int32} (h : ∀ i, i < 32 → bt x i = bt y i) : x = y := Int32.toBitVec_inj.mp (BitVec.eq_of_getLsbD_eq (fun i hi => h i hi))
theorem b_or (x y : Int32) (i : Nat) : bt (x ||| y) i = (bt x i || bt y i) := by unfold bt; rw [Int32.toBitVec_or, BitVec.getLsbD_or]
theorem b_and (x y : Int32) (i : Nat) : bt (x &&& y) i = (bt x i && bt y i) := by unfold bt; rw [Int32.toBitVec_and, BitVec.getLsbD_and]
theorem b_xor (x y : Int32) (i : Nat) : bt (x ^^^ y) i = (bt x i ^^ bt y i) := by unfold bt; rw [Int32.toBitVec_xor, BitVec.getLsbD_xor]
theorem b_big {x : Int32} {i : Nat} (h : 32 ≤ i) : bt x i = false := BitVec.getLsbD_of_ge _ _ h
theorem b_255 (i : Nat) : bt 255 i = decide (i < 8) := by
  rcases Nat.lt_or_ge i 32 with h | h
  · exact (by decide +kernel : ∀ i, i < 32 → bt 255 i = decide (i < 8)) i h
  · rw [b_big h, decide_eq_false (by omega)]
theorem b_65535 (i : Nat) : bt 65535 i = decide (i < 16) := by
  rcases Nat.lt_or_ge i 32 with h | h
  · exact (by decide +kernel : ∀ i, i < 32 → bt 65535 i = decide (i < 16)) i h
  · rw [b_big h, decide_eq_false (by omega)]
theorem b_m1 : ∀ i, i < 32 → bt (-1) i = true := by decide +kernel
theorem b_0 (i : Nat) : bt 0 i = false := BitVec.getLsbD_zero
theorem s_l : ∀ n, n < 32 → ((nI n &&& 31).toBitVec.smod 32).toNat = n := by decide +kernel
theorem s_u : ∀ n, n < 32 → (((nI n).toUInt32 &&& Int32.toUInt32 31).toBitVec % 32).toNat = n := by decide +kernel
theorem b_shl (n : Nat) (hn : n < 32) (x : Int32) {i : Nat} (hi : i < 32) : bt (x <<< (nI n &&& 31)) i = (decide (n ≤ i) && bt x (i - n)) := by
  unfold bt
  rw [Int32.toBitVec_shiftLeft]
  show (x.toBitVec <<< ((nI n &&& 31).toBitVec.smod 32).toNat).getLsbD i = _
  rw [s_l n hn, BitVec.getLsbD_shiftLeft]
  rcases Nat.lt_or_ge i n with h | h
  · simp [h, Nat.not_le.mpr h]
  · simp [hi, h, Nat.not_lt.mpr h]
theorem b_ushr (n : Nat) (hn : n < 32) (x : Int32) (i : Nat) : bt ((x.toUInt32 >>> ((nI n).toUInt32 &&& Int32.toUInt32 31)).toInt32) i = bt x (n + i) := by
  show (x.toUInt32 >>> ((nI n).toUInt32 &&& Int32.toUInt32 31)).toBitVec.getLsbD i = x.toUInt32.toBitVec.getLsbD (n + i)
  rw [UInt32.toBitVec_shiftRight]
  show (x.toUInt32.toBitVec >>> (((nI n).toUInt32 &&& Int32.toUInt32 31).toBitVec % 32).toNat).getLsbD i = _
  rw [s_u n hn, BitVec.getLsbD_ushiftRight]
theorem b_sshr (n : Nat) (hn : n < 32) (x : Int32) {i : Nat} (hi : i < 32) : bt (x >>> (nI n &&& 31)) i = if n + i < 32 then bt x (n + i) else bt x 31 := by
  unfold bt
  rw [Int32.toBitVec_shiftRight]
  show (x.toBitVec.sshiftRight ((nI n &&& 31).toBitVec.smod 32).toNat).getLsbD i = _
  rw [s_l n hn, BitVec.getLsbD_sshiftRight, BitVec.msb_eq_getLsbD_last]
  simp [hi]
theorem b_shl8 (x : Int32) {i : Nat} (hi : i < 32) : bt (x <<< ((8 : Int32) &&& 31)) i = (decide (8 ≤ i) && bt x (i - 8)) := b_shl 8 (by omega) x hi
theorem b_shl16 (x : Int32) {i : Nat} (hi : i < 32) : bt (x <<< ((16 : Int32) &&& 31)) i = (decide (16 ≤ i) && bt x (i - 16)) := b_shl 16 (by omega) x hi
theorem b_shl24 (x : Int32) {i : Nat} (hi : i < 32) : bt (x <<< ((24 : Int32) &&& 31)) i = (decide (24 ≤ i) && bt x (i - 24)) := b_shl 24 (by omega) x hi
theorem b_sshr8 (x : Int32) {i : Nat} (hi : i < 32) : bt (x >>> ((8 : Int32) &&& 31)) i = if 8 + i < 32 then bt x (8 + i) else bt x 31 := b_sshr 8 (by omega) x hi
/-! ===== nI under and, xor, >>>, one bit, 65535 ===== -/
theorem nx_and (a b : Nat) : nI a &&& nI b = nI (a &&& b) := by
  apply Int32.toBitVec_inj.1
  show BitVec.ofNat 32 a &&& BitVec.ofNat 32 b = BitVec.ofNat 32 (a &&& b)
  apply BitVec.eq_of_getLsbD_eq
  intro i hi
  simp [hi]
theorem nx_xor (a b : Nat) : nI a ^^^ nI b = nI (a ^^^ b) := by
  apply Int32.toBitVec_inj.1
  show BitVec.ofNat 32 a ^^^ BitVec.ofNat 32 b = BitVec.ofNat 32 (a ^^^ b)
  apply BitVec.eq_of_getLsbD_eq
  intro i hi
  simp [hi]
/-! plain facts on numbers and arrays, to paste: each family by itself; over the kit's rows on nI and upd -/
/-! ===== order of ints, in all its forms, and through longs ===== -/
theorem fa_lt (a b : Int32) : a < b ↔ a.toInt < b.toInt := Int32.lt_iff_toInt_lt
theorem fa_le (a b : Int32) : a ≤ b ↔ a.toInt ≤ b.toInt := Int32.le_iff_toInt_le
theorem fa_eq (a b : Int32) : a = b ↔ a.toInt = b.toInt := Int32.toInt_inj.symm
theorem fa_lt64 (a b : Int64) : a < b ↔ a.toInt < b.toInt := Int64.lt_iff_toInt_lt
theorem fa_le64 (a b : Int64) : a ≤ b ↔ a.toInt ≤ b.toInt := Int64.le_iff_toInt_le
theorem fa_eq64 (a b : Int64) : a = b ↔ a.toInt = b.toInt := Int64.toInt_inj.symm
/-- a comparison of two ints taken as longs -/
theorem fa_wide_lt (a b : Int32) : a.toInt64 < b.toInt64 ↔ a < b := by rw [fa_lt64, fa_lt, Int32.toInt_toInt64, Int32.toInt_toInt64]
theorem fa_wide_le (a b : Int32) : a.toInt64 ≤ b.toInt64 ↔ a ≤ b := by rw [fa_le64, fa_le, Int32.toInt_toInt64, Int32.toInt_toInt64]
theorem fa_wide_eq (a b : Int32) : a.toInt64 = b.toInt64 ↔ a = b := by rw [fa_eq64, fa_eq, Int32.toInt_toInt64, Int32.toInt_toInt64]
/-- one strict comparison gives all the others -/
theorem fa_of_lt {a b : Int32} (h : a < b) : a ≤ b ∧ ¬ b ≤ a ∧ ¬ b < a ∧ a ≠ b ∧ b ≠ a := by
  rw [fa_lt] at h
  refine ⟨?_, ?_, ?_, ?_, ?_⟩
  · rw [fa_le]; omega
  · rw [fa_le]; omega
  · rw [fa_lt]; omega
  · intro e; rw [fa_eq] at e; omega
  · intro e; rw [fa_eq] at e; omega
theorem fa_of_nlt {a b : Int32} (h : ¬ a < b) : b ≤ a := by
  rw [fa_lt] at h
  rw [fa_le]
  omega
theorem fa_of_nle {a b : Int32} (h : ¬ a ≤ b) : b < a := by
  rw [fa_le] at h
  rw [fa_lt]
  omega
theorem fa_le_ne {a b : Int32} (h : a ≤ b) (h2 : a ≠ b) : a < b := by
  rw [fa_le] at h
  rw [fa_lt]
  have h3 : a.toInt ≠ b.toInt := fun e => h2 ((fa_eq a b).mpr e)
  omega
theorem fa_three (a b : Int32) : a < b ∨ a = b ∨ b < a := by
  rw [fa_lt, fa_lt, fa_eq]
  omega
theorem fa_trans {a b c : Int32} (h : a < b) (h2 : b ≤ c) : a < c := by
  rw [fa_lt] at *
  rw [fa_le] at h2
  omega
/-! ===== small literals as numbers ===== -/
theorem fa_lit (n : Nat) : (OfNat.ofNat n : Int32) = nI n := rfl
theorem fa_litL (n : Nat) : (OfNat.ofNat n : Int64) = lN n := rfl
/-! ===== bits of a number: 'or', masks, one bit ===== -/
theorem fa_and (a b : Nat) : nI a &&& nI b = nI (a &&& b) := by
  apply Int32.toBitVec_inj.1
  show BitVec.ofNat 32 a &&& BitVec.ofNat 32 b = BitVec.ofNat 32 (a &&& b)
  apply BitVec.eq_of_getLsbD_eq
  intro i hi
  simp [hi]
theorem fa_or (a b : Nat) : nI a ||| nI b = nI (a ||| b) := by
  apply Int32.toBitVec_inj.1
  show BitVec.ofNat 32 a ||| BitVec.ofNat 32 b = BitVec.ofNat 32 (a ||| b)
  apply BitVec.eq_of_getLsbD_eq
  intro i hi
  simp [hi]
/-- a remainder by a power of two, as a mask -/
theorem fa_mask (n k : Nat) : nI n &&& nI (2 ^ k - 1) = nI (n % 2 ^ k) := by rw [fa_and, Nat.and_two_pow_sub_one_eq_mod]
/-- 'or' of a high part and a low one that don't meet is their sum -/
theorem fa_or_sum {a k : Nat} (b : Nat) (h : a < 2 ^ k) : nI (2 ^ k * b) ||| nI a = nI (2 ^ k * b + a) := by rw [fa_or, Nat.two_pow_add_eq_or_of_lt h]
/-- one bit, by 'and' with a power of two -/
theorem fa_bit {n j : Nat} (hj : j < 31) : nI n &&& nI (2 ^ j) = 0 ↔ n.testBit j = false := by
  have h2 : (2 : Nat) ^ j < 2 ^ 31 := Nat.pow_lt_pow_right (by decide) hj
  have hle : n &&& 2 ^ j ≤ 2 ^ j := Nat.and_le_right
  have e : n &&& 2 ^ j = 0 ↔ n.testBit j = false := by
    constructor
    · intro h
      have h1 : (n &&& 2 ^ j).testBit j = false := by rw [h]; simp
      rw [Nat.testBit_and] at h1
      first | simpa using h1 | simpa [Nat.testBit_two_pow_self] using h1 | simpa [Nat.testBit_two_pow] using h1
    · intro h
      apply Nat.eq_of_testBit_eq
      intro i
      rw [Nat.testBit_and]
      by_cases hi : j = i
      · subst hi; simp [h]
      · first | (simp [Nat.testBit_two_pow, hi]; done) | (simp [Nat.testBit_two_pow_of_ne hi]; done)
  rw [fa_and]
  constructor
  · intro h
    apply e.mp
    rcases Nat.eq_zero_or_pos (n &&& 2 ^ j) with z | z
    · exact z
    · exact absurd h (nI_ne0 z (Nat.lt_of_le_of_lt hle h2))
  · intro h
    rw [e.mpr h]; exact nI_0
/-- a remainder by a power of two of a number that isn't negative, as Java divides -/
theorem fa_rem {a k : Nat} (ha : a < 2 ^ 31) (hk : k < 31) : nI a - nI a / nI (2 ^ k) * nI (2 ^ k) = nI (a % 2 ^ k) := pk_rem ha (Nat.two_pow_pos k) (Nat.pow_lt_pow_right (by decide) hk)
/-! ===== cuts to a byte, a short ===== -/
theorem fa_byte_xor (x y : Int32) : (x ^^^ y).toInt8 = x.toInt8 ^^^ y.toInt8 := by
  apply Int8.toBitVec_inj.1
  apply BitVec.eq_of_getLsbD_eq
  intro i hi
  first | (simp [hi]; done) | (simp [hi, BitVec.getLsbD_setWidth, BitVec.getLsbD_signExtend]; done)
theorem fa_short_xor (x y : Int32) : (x ^^^ y).toInt16 = x.toInt16 ^^^ y.toInt16 := by
  apply Int16.toBitVec_inj.1
  apply BitVec.eq_of_getLsbD_eq
  intro i hi
  first | (simp [hi]; done) | (simp [hi, BitVec.getLsbD_setWidth, BitVec.getLsbD_signExtend]; done)
/-- the cut to a byte sees the low byte alone -/
theorem fa_byte_low (x : Int32) : (x &&& 255).toInt8 = x.toInt8 := by
  apply Int8.toBitVec_inj.1
  apply BitVec.eq_of_getLsbD_eq
  intro i hi
  have h2 : (255 : Int32).toBitVec.getLsbD i = true := by
    have : ∀ j : Fin 8, (255 : Int32).toBitVec.getLsbD j.val = true := by decide +kernel
    exact this ⟨i, hi⟩
  have h4 : (x &&& 255).toBitVec.getLsbD i = x.toBitVec.getLsbD i := by
    show (x.toBitVec &&& (255 : Int32).toBitVec).getLsbD i = _
    rw [BitVec.getLsbD_and, h2, Bool.and_true]
  have h3 : i < 32 := by omega
  first
    | (show (((x &&& 255).toBitVec).signExtend 8).getLsbD i = (x.toBitVec.signExtend 8).getLsbD i; rw [BitVec.getLsbD_signExtend, BitVec.getLsbD_signExtend, if_pos h3, if_pos h3, h4])
    | (show (((x &&& 255).toBitVec).setWidth 8).getLsbD i = (x.toBitVec.setWidth 8).getLsbD i; rw [BitVec.getLsbD_setWidth, BitVec.getLsbD_setWidth, h4])
    | (simp [hi, h3, h4]; done)
theorem fa_short_low (x : Int32) : (x &&& 65535).toInt16 = x.toInt16 := by
  apply Int16.toBitVec_inj.1
  apply BitVec.eq_of_getLsbD_eq
  intro i hi
  have h2 : (65535 : Int32).toBitVec.getLsbD i = true := by
    have : ∀ j : Fin 16, (65535 : Int32).toBitVec.getLsbD j.val = true := by decide +kernel
    exact this ⟨i, hi⟩
  have h4 : (x &&& 65535).toBitVec.getLsbD i = x.toBitVec.getLsbD i := by
    show (x.toBitVec &&& (65535 : Int32).toBitVec).getLsbD i = _
    rw [BitVec.getLsbD_and, h2, Bool.and_true]
  have h3 : i < 32 := by omega
  first
    | (show (((x &&& 65535).toBitVec).signExtend 16).getLsbD i = (x.toBitVec.signExtend 16).getLsbD i; rw [BitVec.getLsbD_signExtend, BitVec.getLsbD_signExtend, if_pos h3, if_pos h3, h4])
    | (show (((x &&& 65535).toBitVec).setWidth 16).getLsbD i = (x.toBitVec.setWidth 16).getLsbD i; rw [BitVec.getLsbD_setWidth, BitVec.getLsbD_setWidth, h4])
    | (simp [hi, h3, h4]; done)
/-- a small number is its own byte, its own short -/
theorem fa_byte_small {n : Nat} (h : n < 128) : (nI n).toInt8.toInt32 = nI n := by
  have : ∀ j : Fin 128, (nI j.val).toInt8.toInt32 = nI j.val := by decide +kernel
  exact this ⟨n, h⟩
/-! ===== absolute difference ===== -/
theorem fa_absdiff {a b : Nat} (ha : a < 2 ^ 31) (hb : b < 2 ^ 31) : (if nI a < nI b then nI b - nI a else nI a - nI b) = nI (if a < b then b - a else a - b) := by
  by_cases h : a < b
  · rw [if_pos (nI_lt h hb), if_pos h]
    exact pk_sub (Nat.le_of_lt h)
  · rw [if_neg (nI_nlt (Nat.le_of_not_lt h) ha), if_neg h]
    exact pk_sub (Nat.le_of_not_lt h)
/-! ===== an array behind i stores, a conditional store, a row copied ===== -/
/-- f where k < i, what stood there else -/
def fa_fill {α : Type} (f g : Nat → α) (i : Nat) : Nat → α := fun k => if k < i then f k else g k
theorem fa_fill_0 {α : Type} (f g : Nat → α) : fa_fill f g 0 = g := funext fun k => if_neg (Nat.not_lt_zero k)
theorem fa_fill_in {α : Type} {f g : Nat → α} {i k : Nat} (h : k < i) : fa_fill f g i k = f k := if_pos h
theorem fa_fill_out {α : Type} {f g : Nat → α} {i k : Nat} (h : i ≤ k) : fa_fill f g i k = g k := if_neg (Nat.not_lt.mpr h)
theorem fa_fill_succ (f g : Nat → Int32) (i : Nat) : upd (fa_fill f g i) i (f i) = fa_fill f g (i + 1) := by
  funext k
  by_cases e : k = i
  · subst e
    rw [pk_us]
    exact (if_pos (Nat.lt_succ_self k)).symm
  · rw [pk_un e]
    by_cases h : k < i
    · rw [fa_fill_in h, fa_fill_in (Nat.lt_succ_of_lt h)]
    · rw [fa_fill_out (Nat.le_of_not_lt h), fa_fill_out (by omega)]
/-- a store that changes nothing -/
theorem fa_upd_same {f : Nat → Int32} {i : Nat} {x : Int32} (h : f i = x) : upd f i x = f := by
  funext k
  by_cases e : k = i
  · subst e
    rw [pk_us, h]
  · rw [pk_un e]
/-- a store under a condition, told as one -/
theorem fa_upd_if (c : Prop) [Decidable c] (f : Nat → Int32) (i : Nat) (x : Int32) : (if c then upd f i x else f) = upd f i (if c then x else f i) := by
  by_cases h : c
  · rw [if_pos h, if_pos h]
  · rw [if_neg h, if_neg h, fa_upd_same rfl]
/-- two stores at one place, at two -/
theorem fa_upd_twice (f : Nat → Int32) (i : Nat) (x y : Int32) : upd (upd f i x) i y = upd f i y := by
  funext k
  by_cases e : k = i
  · subst e
    rw [pk_us, pk_us]
  · rw [pk_un e, pk_un e, pk_un e]
theorem fa_upd_swap (f : Nat → Int32) {i j : Nat} (h : i ≠ j) (x y : Int32) : upd (upd f i x) j y = upd (upd f j y) i x := by
  funext k
  by_cases e : k = i
  · subst e
    rw [pk_un h, pk_us, pk_us]
  · by_cases e2 : k = j
    · subst e2
      rw [pk_us, pk_un e, pk_us]
    · rw [pk_un e2, pk_un e, pk_un e, pk_un e2]
/-! ===== the first index with a property; a count ===== -/
/-- the first k < n with p k, n if there is none -/
def fa_first (p : Nat → Bool) : Nat → Nat
  | 0 => 0
  | n + 1 => if fa_first p n < n then fa_first p n else if p n then n else n + 1
theorem fa_first_le (p : Nat → Bool) : ∀ n, fa_first p n ≤ n
  | 0 => Nat.le_refl 0
  | n + 1 => by
    have ih := fa_first_le p n
    unfold fa_first
    split
    · omega
    · split
      · omega
      · omega
theorem fa_first_no (p : Nat → Bool) : ∀ n k, k < fa_first p n → p k = false
  | 0, k, h => absurd h (Nat.not_lt_zero k)
  | n + 1, k, h => by
    have ih := fa_first_no p n
    have hl := fa_first_le p n
    unfold fa_first at h
    split at h
    · exact ih k h
    · rename_i h1
      split at h
      · exact ih k (by omega)
      · rename_i h2
        by_cases e : k = n
        · subst e
          exact Bool.eq_false_iff.mpr h2
        · exact ih k (by omega)
theorem fa_first_yes (p : Nat → Bool) : ∀ n, fa_first p n < n → p (fa_first p n) = true
  | 0, h => absurd h (Nat.not_lt_zero _)
  | n + 1, h => by
    have ih := fa_first_yes p n
    have hl := fa_first_le p n
    unfold fa_first at h ⊢
    split at h
    · rename_i h1
      rw [if_pos h1]
      exact ih h1
    · rename_i h1
      rw [if_neg h1]
      split at h
      · rename_i h2
        rw [if_pos h2]
        exact h2
      · omega
/-- how many k < n have p k -/
def fa_cnt (p : Nat → Bool) : Nat → Nat
  | 0 => 0
  | n + 1 => fa_cnt p n + if p n then 1 else 0
theorem fa_cnt_le (p : Nat → Bool) : ∀ n, fa_cnt p n ≤ n
  | 0 => Nat.le_refl 0
  | n + 1 => by
    have ih := fa_cnt_le p n
    unfold fa_cnt
    split
    · omega
    · omega
theorem fa_cnt_yes {p : Nat → Bool} {n : Nat} (h : p n = true) : fa_cnt p (n + 1) = fa_cnt p n + 1 := by rw [fa_cnt, if_pos h]
theorem fa_cnt_no {p : Nat → Bool} {n : Nat} (h : p n = false) : fa_cnt p (n + 1) = fa_cnt p n := by rw [fa_cnt, if_neg (by rw [h]; decide)]; rfl
theorem fa_cnt_cong {p q : Nat → Bool} : ∀ {n : Nat}, (∀ k, k < n → p k = q k) → fa_cnt p n = fa_cnt q n
  | 0, _ => rfl
  | n + 1, h => by rw [fa_cnt, fa_cnt, fa_cnt_cong (fun k hk => h k (Nat.lt_succ_of_lt hk)), h n (Nat.lt_succ_self n)]
/-! ===== an answer carried into a post; a branch on a boolean answer ===== -/
theorem fa_post {α : Type} {P : α → Prop} {x y : α} (h : x = y) (hp : P y) : P x := h ▸ hp
theorem fa_post2 {α β : Type} {P : α → β → Prop} {x y : α} {u v : β} (h : x = y) (h2 : u = v) (hp : P y v) : P x u := h ▸ h2 ▸ hp
theorem fa_bool {r : Int32} {b : Bool} (h : r = if b then 1 else 0) : (r = 0 ↔ b = false) ∧ (¬ r = 0 ↔ b = true) := by
  subst h
  cases b
  · exact ⟨⟨fun _ => rfl, fun _ => rfl⟩, ⟨fun h => absurd rfl h, fun h => absurd h (by decide)⟩⟩
  · exact ⟨⟨fun h => absurd h (by decide), fun h => absurd h (by decide)⟩, ⟨fun _ => rfl, fun _ => by decide⟩⟩
/-- a boolean's narrowing changes nothing -/
theorem fa_bool_and {r : Int32} (h : r = 0 ∨ r = 1) : r &&& 1 = r := by
  rcases h with rfl | rfl
  · decide
  · decide
theorem fa_bool_prop {c : Prop} [Decidable c] {r : Int32} (h : r = if c then 1 else 0) : (r = 0 ↔ ¬ c) ∧ (¬ r = 0 ↔ c) := by
  subst h
  by_cases hc : c
  · rw [if_pos hc]
    exact ⟨⟨fun h => absurd h (by decide), fun h => absurd hc h⟩, ⟨fun _ => hc, fun _ => by decide⟩⟩
  · rw [if_neg hc]
    exact ⟨⟨fun _ => hc, fun _ => rfl⟩, ⟨fun h => absurd rfl h, fun h => absurd h hc⟩⟩
end
section
/-! The rules as numbers: B i 0 the event, B i 1 must, B i 2 mustNot, B i 3 on, B i 4 the number of actions, B i 5 the rules below, B i (6 + k) action k. A situation of the analyzer: 64 * triggered + facts. -/
def mks (p : Nat → Bool) : Nat → Nat
  | 0 => 0
  | k + 1 => mks p k ||| (if p k then 2 ^ k else 0)
theorem mks_bit (p : Nat → Bool) : ∀ k i, (mks p k).testBit i = (decide (i < k) && p i)
  | 0, i => by simp [mks]
  | k + 1, i => by
    unfold mks
    rw [Nat.testBit_or, mks_bit p k i]
    by_cases h : p k
    · rw [if_pos h, Nat.testBit_two_pow]
      by_cases h2 : k = i
      · subst h2; simp [h]
      · have e : decide (i < k + 1) = decide (i < k) := by
          by_cases h3 : i < k
          · rw [decide_eq_true h3, decide_eq_true (by omega)]
          · rw [decide_eq_false h3, decide_eq_false (by omega)]
        rw [e, decide_eq_false h2, Bool.or_false]
    · rw [if_neg h, Nat.zero_testBit, Bool.or_false]
      by_cases h2 : i = k
      · subst h2; simp [h]
      · have e : decide (i < k + 1) = decide (i < k) := by
          by_cases h3 : i < k
          · rw [decide_eq_true h3, decide_eq_true (by omega)]
          · rw [decide_eq_false h3, decide_eq_false (by omega)]
        rw [e]
theorem mks_lt (p : Nat → Bool) (k : Nat) : mks p k < 2 ^ k := by
  refine Nat.lt_pow_two_of_testBit _ (fun i hi => ?_)
  rw [mks_bit, decide_eq_false (by omega), Bool.false_and]
theorem mks_cong {p q : Nat → Bool} : ∀ {k : Nat}, (∀ i, i < k → p i = q i) → mks p k = mks q k
  | 0, _ => rfl
  | k + 1, h => by unfold mks; rw [mks_cong (fun i hi => h i (by omega)), h k (by omega)]
def orf (g : Nat → Nat) : Nat → Nat
  | 0 => 0
  | k + 1 => orf g k ||| g k
def clr (t i : Nat) : Nat := mks (fun j => t.testBit j && decide (j ≠ i)) 8
def lis (B : Nat → Nat → Nat) (e : Nat) : Nat := mks (fun i => decide (B i 3 = 1) && decide (B i 0 = e)) 8
def abv (B : Nat → Nat → Nat) (i : Nat) : Nat := mks (fun j => (B j 5).testBit i) 8
def sfm (B : Nat → Nat → Nat) (i : Nat) : Nat := orf (fun k => if B i (6 + k) % 2 = 1 then 2 ^ (B i (6 + k) / 2) else 0) (B i 4)
def ufm (B : Nat → Nat → Nat) (i : Nat) : Nat := orf (fun k => if B i (6 + k) % 2 = 1 then 0 else 2 ^ (B i (6 + k) / 2)) (B i 4)
def hol (B : Nat → Nat → Nat) (i f : Nat) : Bool := decide (f &&& B i 1 = B i 1) && decide (f &&& B i 2 = 0)
def chg (B : Nat → Nat → Nat) (x a : Nat) : Nat := if x.testBit (a / 2) = decide (a % 2 = 1) then x else 64 * (x / 64 ||| lis B a) + (x % 64 ^^^ 2 ^ (a / 2))
def plys (B : Nat → Nat → Nat) (i y : Nat) : Nat → Nat
  | 0 => y
  | k + 1 => chg B (plys B i y k) (B i (6 + k))
def ply (B : Nat → Nat → Nat) (i x : Nat) : Nat := if hol B i (x % 64) then plys B i (64 * clr (x / 64) i + x % 64) (B i 4) else 64 * clr (x / 64) i + x % 64
def rdy1 (B : Nat → Nat → Nat) (i t : Nat) : Bool := t.testBit i && decide (t &&& abv B i = 0)
def rdy (B : Nat → Nat → Nat) (t : Nat) : Nat := mks (fun i => rdy1 B i t) 8
def gB (n : Nat) (B : Nat → Nat → Nat) : Prop := n ≤ 8 ∧ (∀ i, i < 8 → B i 0 < 12 ∧ B i 1 < 64 ∧ B i 2 < 64 ∧ B i 3 ≤ 1 ∧ B i 4 ≤ 4 ∧ B i 5 < 256 ∧ ∀ k, k < 4 → B i (6 + k) < 12) ∧ (∀ i, n ≤ i → i < 8 → B i 3 = 0 ∧ B i 4 = 0 ∧ B i 5 = 0 ∧ ∀ j, j < 8 → (B j 5).testBit i = false) ∧ (∀ i, i < 8 → (B i 5).testBit i = false) ∧ ∀ i j k, i < 8 → j < 8 → k < 8 → (B i 5).testBit j = true → (B j 5).testBit k = true → (B i 5).testBit k = true
def xR (u : xS) (n : Nat) (B : Nat → Nat → Nat) : Prop :=
  gB n B ∧ u.1 16 2 = nI n ∧ (∀ i, i < 8 → u.1 i 2 = nI (B i 0) ∧ u.1 i 3 = nI (B i 1) ∧ u.1 i 4 = nI (B i 2) ∧ u.1 i 5 = nI (B i 3) ∧ u.1 i 6 = nI (B i 4) ∧ u.1 i 7 = nI (sfm B i) ∧ u.1 i 8 = nI (ufm B i) ∧ u.1 i 9 = nI (B i 5) ∧ u.1 i 10 = nI (abv B i) ∧ ∀ k, k < B i 4 → u.1 (8 + i) k = nI (B i (6 + k))) ∧ ∀ e, e < 12 → u.1 18 e = nI (lis B e)
/-- Int32 of small numbers -/
theorem zi_0 {n : Nat} (h : n < 2 ^ 31) : nI n = 0 ↔ n = 0 := nI_eq h (by decide)
theorem zi_bv (n : Nat) : (nI n).toBitVec = BitVec.ofNat 32 n := rfl
theorem zi_bt {n i : Nat} (h : i < 32) : bt (nI n) i = n.testBit i := by
  unfold bt
  rw [zi_bv, BitVec.getLsbD_ofNat]
  simp [h]
theorem zi_shl1 {k : Nat} (hk : k < 31) : (1 : Int32) <<< (nI k &&& 31) = nI (2 ^ k) := by
  refine b_ext fun i hi => ?_
  rw [b_shl k (by omega) 1 hi, zi_bt hi, Nat.testBit_two_pow]
  rcases Nat.lt_or_ge i k with h | h
  · rw [decide_eq_false (by omega), Bool.false_and, decide_eq_false (by omega)]
  · rw [decide_eq_true h, Bool.true_and, show (1 : Int32) = nI (2 ^ 0) from rfl, zi_bt (by omega), Nat.testBit_two_pow]
    by_cases h2 : k = i
    · rw [decide_eq_true h2, decide_eq_true (by omega)]
    · rw [decide_eq_false h2, decide_eq_false (by omega)]
theorem zi_facts (x : Nat) : nI x &&& 63 = nI (x % 64) := fa_mask x 6
theorem zi_trig {x : Nat} (h : x < 2 ^ 31) : nI x >>> ((6 : Int32) &&& 31) = nI (x / 64) := pk_shrN h _ 6 (by decide)
theorem zi_half {x : Nat} (h : x < 2 ^ 31) : nI x >>> ((1 : Int32) &&& 31) = nI (x / 2) := pk_shrN h _ 1 (by decide)
theorem zi_sit {t f : Nat} (hf : f < 64) (ht : t < 65536) : nI t <<< ((6 : Int32) &&& 31) ||| nI f = nI (64 * t + f) := by
  rw [pk_shlN _ 6 (by decide) (by omega), Nat.mul_comm t]
  exact fa_or_sum (k := 6) t hf
theorem zi_clr {t i : Nat} (ht : t < 256) (hi : i < 8) : nI t &&& (nI (2 ^ i) ^^^ (-1)) = nI (clr t i) := by
  refine b_ext fun j hj => ?_
  rw [b_and, b_xor, b_m1 j hj, zi_bt hj, zi_bt hj, zi_bt hj, clr, mks_bit, Nat.testBit_two_pow]
  rcases Nat.lt_or_ge j 8 with h | h
  · rw [decide_eq_true h, Bool.true_and]
    by_cases h2 : i = j
    · subst h2; simp
    · have h3 : j ≠ i := fun e => h2 e.symm
      simp [h2, h3]
  · have e : t.testBit j = false := Nat.testBit_lt_two_pow (Nat.lt_of_lt_of_le ht (Nat.pow_le_pow_right (by decide : 0 < 2) (by omega : 8 ≤ j)))
    rw [e]; simp
theorem zi_b01 (b : Prop) [Decidable b] : vp_nar .boolean (if b then 1 else 0) = if b then 1 else 0 := by
  by_cases h : b <;> simp [h] <;> rfl
theorem clr_lt (t i : Nat) : clr t i < 256 := mks_lt _ 8
theorem lis_lt (B : Nat → Nat → Nat) (e : Nat) : lis B e < 256 := mks_lt _ 8
theorem abv_lt (B : Nat → Nat → Nat) (i : Nat) : abv B i < 256 := mks_lt _ 8
theorem rdy_lt (B : Nat → Nat → Nat) (t : Nat) : rdy B t < 256 := mks_lt _ 8
theorem xR_n {u : xS} {n : Nat} {B : Nat → Nat → Nat} (h : xR u n B) : u.1 16 2 = nI n := h.2.1
theorem xR_2 {u : xS} {n : Nat} {B : Nat → Nat → Nat} (h : xR u n B) {i : Nat} (hi : i < 8) : u.1 i 2 = nI (B i 0) := (h.2.2.1 i hi).1
theorem xR_3 {u : xS} {n : Nat} {B : Nat → Nat → Nat} (h : xR u n B) {i : Nat} (hi : i < 8) : u.1 i 3 = nI (B i 1) := (h.2.2.1 i hi).2.1
theorem xR_4 {u : xS} {n : Nat} {B : Nat → Nat → Nat} (h : xR u n B) {i : Nat} (hi : i < 8) : u.1 i 4 = nI (B i 2) := (h.2.2.1 i hi).2.2.1
theorem xR_5 {u : xS} {n : Nat} {B : Nat → Nat → Nat} (h : xR u n B) {i : Nat} (hi : i < 8) : u.1 i 5 = nI (B i 3) := (h.2.2.1 i hi).2.2.2.1
theorem xR_6 {u : xS} {n : Nat} {B : Nat → Nat → Nat} (h : xR u n B) {i : Nat} (hi : i < 8) : u.1 i 6 = nI (B i 4) := (h.2.2.1 i hi).2.2.2.2.1
theorem xR_7 {u : xS} {n : Nat} {B : Nat → Nat → Nat} (h : xR u n B) {i : Nat} (hi : i < 8) : u.1 i 7 = nI (sfm B i) := (h.2.2.1 i hi).2.2.2.2.2.1
theorem xR_8 {u : xS} {n : Nat} {B : Nat → Nat → Nat} (h : xR u n B) {i : Nat} (hi : i < 8) : u.1 i 8 = nI (ufm B i) := (h.2.2.1 i hi).2.2.2.2.2.2.1
theorem xR_9 {u : xS} {n : Nat} {B : Nat → Nat → Nat} (h : xR u n B) {i : Nat} (hi : i < 8) : u.1 i 9 = nI (B i 5) := (h.2.2.1 i hi).2.2.2.2.2.2.2.1
theorem xR_10 {u : xS} {n : Nat} {B : Nat → Nat → Nat} (h : xR u n B) {i : Nat} (hi : i < 8) : u.1 i 10 = nI (abv B i) := (h.2.2.1 i hi).2.2.2.2.2.2.2.2.1
theorem xR_a {u : xS} {n : Nat} {B : Nat → Nat → Nat} (h : xR u n B) {i k : Nat} (hi : i < 8) (hk : k < B i 4) : u.1 (8 + i) k = nI (B i (6 + k)) := (h.2.2.1 i hi).2.2.2.2.2.2.2.2.2 k hk
theorem xR_l {u : xS} {n : Nat} {B : Nat → Nat → Nat} (h : xR u n B) {e : Nat} (he : e < 12) : u.1 18 e = nI (lis B e) := h.2.2.2 e he
theorem gB_8 {n : Nat} {B : Nat → Nat → Nat} (h : gB n B) : n ≤ 8 := h.1
theorem gB_0 {n : Nat} {B : Nat → Nat → Nat} (h : gB n B) {i : Nat} (hi : i < 8) : B i 0 < 12 := (h.2.1 i hi).1
theorem gB_1 {n : Nat} {B : Nat → Nat → Nat} (h : gB n B) {i : Nat} (hi : i < 8) : B i 1 < 64 := (h.2.1 i hi).2.1
theorem gB_2 {n : Nat} {B : Nat → Nat → Nat} (h : gB n B) {i : Nat} (hi : i < 8) : B i 2 < 64 := (h.2.1 i hi).2.2.1
theorem gB_3 {n : Nat} {B : Nat → Nat → Nat} (h : gB n B) {i : Nat} (hi : i < 8) : B i 3 ≤ 1 := (h.2.1 i hi).2.2.2.1
theorem gB_4 {n : Nat} {B : Nat → Nat → Nat} (h : gB n B) {i : Nat} (hi : i < 8) : B i 4 ≤ 4 := (h.2.1 i hi).2.2.2.2.1
theorem gB_5 {n : Nat} {B : Nat → Nat → Nat} (h : gB n B) {i : Nat} (hi : i < 8) : B i 5 < 256 := (h.2.1 i hi).2.2.2.2.2.1
theorem gB_6 {n : Nat} {B : Nat → Nat → Nat} (h : gB n B) {i k : Nat} (hi : i < 8) (hk : k < 4) : B i (6 + k) < 12 := (h.2.1 i hi).2.2.2.2.2.2 k hk
theorem z1f {P : Prop} [Decidable P] (c : (if P then (1 : Int32) else 0) = 0) : ¬ P := fun h => by rw [if_pos h] at c; exact absurd c (by decide)
theorem z1t {P : Prop} [Decidable P] (c : ¬ (if P then (1 : Int32) else 0) = 0) : P := by
  by_cases h : P
  · exact h
  · rw [if_neg h] at c; exact absurd rfl c
theorem zi_bitT {n j : Nat} (hj : j < 31) (c : ¬ nI (n &&& 2 ^ j) = 0) : n.testBit j = true := by
  rw [← fa_and] at c
  cases h : n.testBit j with
  | true => rfl
  | false => exact absurd ((fa_bit hj).mpr h) c
theorem zi_bitF {n j : Nat} (hj : j < 31) (c : nI (n &&& 2 ^ j) = 0) : n.testBit j = false := by
  rw [← fa_and] at c
  exact (fa_bit hj).mp c
theorem and_lt {a b m : Nat} (h : b < m) : a &&& b < m := Nat.lt_of_le_of_lt Nat.and_le_right h
theorem sfm_lt {n : Nat} {B : Nat → Nat → Nat} (h : gB n B) {i : Nat} (hi : i < 8) : sfm B i < 64 ∧ ufm B i < 64 := by
  have key : ∀ (g : Nat → Nat) (k : Nat), (∀ j, j < k → g j < 64) → orf g k < 64 := by
    intro g k
    induction k with
    | zero => intro _; exact (by decide : 0 < 64)
    | succ k ih => intro hg; exact Nat.or_lt_two_pow (n := 6) (ih fun j hj => hg j (by omega)) (hg k (by omega))
  have p6 : ∀ k, k < B i 4 → 2 ^ (B i (6 + k) / 2) < 64 := fun k hk => by
    have h1 : B i (6 + k) < 12 := gB_6 h hi (by have := gB_4 h hi; omega)
    exact Nat.pow_lt_pow_right (m := B i (6 + k) / 2) (n := 6) (by decide) (by omega)
  refine ⟨key _ _ fun j hj => ?_, key _ _ fun j hj => ?_⟩
  · show (if _ then _ else _) < 64
    split
    · exact p6 j hj
    · decide
  · show (if _ then _ else _) < 64
    split
    · decide
    · exact p6 j hj
theorem zge_t {a b : Nat} (ha : a < 2 ^ 31) (hb : b < 2 ^ 31) (c : nI b ≤ nI a) : b ≤ a := (nI_leI hb ha).mp c
theorem zge_f {a b : Nat} (ha : a < 2 ^ 31) (hb : b < 2 ^ 31) (c : ¬ nI b ≤ nI a) : a < b := Nat.lt_of_not_le (fun h => c ((nI_leI hb ha).mpr h))
theorem zlt_t {a b : Nat} (ha : a < 2 ^ 31) (hb : b < 2 ^ 31) (c : nI a < nI b) : a < b := (nI_ltI ha hb).mp c
theorem zlt_f {a b : Nat} (ha : a < 2 ^ 31) (hb : b < 2 ^ 31) (c : ¬ nI a < nI b) : b ≤ a := Nat.le_of_not_lt (fun h => c ((nI_ltI ha hb).mpr h))
theorem zeq_t {a b : Nat} (ha : a < 2 ^ 31) (hb : b < 2 ^ 31) (c : nI a = nI b) : a = b := (nI_eq ha hb).mp c
theorem zeq_f {a b : Nat} (c : ¬ nI a = nI b) : a ≠ b := fun h => c (by rw [h])
theorem z0_t {a : Nat} (ha : a < 2 ^ 31) (c : nI a = 0) : a = 0 := (zi_0 ha).mp c
theorem z0_f {a : Nat} (c : ¬ nI a = 0) : a ≠ 0 := fun h => c (by rw [h]; rfl)
theorem zneg {a : Nat} (ha : a < 2 ^ 31) (c : nI a < 0) : False := nI_pos ha c
theorem znonneg {a : Nat} (ha : a < 2 ^ 31) (c : ¬ 0 ≤ nI a) : False := c (nI_pos' ha)
theorem zpos_t {a : Nat} (ha : a < 2 ^ 31) (c : 0 < nI a) : 0 < a := zlt_t (a := 0) (by decide) ha c
theorem zpos_f {a : Nat} (ha : a < 2 ^ 31) (c : ¬ 0 < nI a) : a = 0 := by have := zlt_f (a := 0) (by decide) ha c; omega
theorem zle0_t {a : Nat} (ha : a < 2 ^ 31) (c : nI a ≤ 0) : a = 0 := by have := zge_t (b := a) (a := 0) (by decide) ha c; omega
theorem zle0_f {a : Nat} (ha : a < 2 ^ 31) (c : ¬ nI a ≤ 0) : 0 < a := zge_f (b := a) (a := 0) (by decide) ha c
/-- the checksum's part of one rule, and of all -/
def dact (B : Nat → Nat → Nat) (i : Nat) (d : Int64) : Nat → Int64
  | 0 => d
  | k + 1 => dact B i d k * 31 + (nI (B i (6 + k))).toInt64
def drul (B : Nat → Nat → Nat) (i : Nat) (s : Int64) : Int64 := (dact B i ((((s * 31 + (nI (B i 0)).toInt64) * 31 + (nI (B i 1)).toInt64) * 31 + (nI (B i 2)).toInt64) * 31 + (nI (B i 4)).toInt64) (B i 4) * 31 + (nI (B i 3)).toInt64) * 31 + (nI (B i 5)).toInt64
def dbok (B : Nat → Nat → Nat) (s : Int64) : Nat → Int64
  | 0 => s
  | k + 1 => drul B k (dbok B s k)
/-- the rules that a rule's first k actions are events of -/
def trgs (B : Nat → Nat → Nat) (i : Nat) : Nat → Nat
  | 0 => 0
  | k + 1 => trgs B i k ||| lis B (B i (6 + k))
def trg (B : Nat → Nat → Nat) (i : Nat) : Nat := if B i 3 = 0 then 0 else trgs B i (B i 4)
theorem trgs_lt (B : Nat → Nat → Nat) (i : Nat) : ∀ k, trgs B i k < 256
  | 0 => (by decide : 0 < 256)
  | k + 1 => Nat.or_lt_two_pow (n := 8) (trgs_lt B i k) (lis_lt _ _)
theorem trg_lt (B : Nat → Nat → Nat) (i : Nat) : trg B i < 256 := by
  unfold trg
  split
  · decide
  · exact trgs_lt B i _
theorem pow_lt8 {i : Nat} (hi : i < 8) : 2 ^ i < 256 := Nat.pow_lt_pow_right (m := i) (n := 8) (by decide) hi
theorem pow_lt6 {i : Nat} (hi : i < 6) : 2 ^ i < 64 := Nat.pow_lt_pow_right (m := i) (n := 6) (by decide) hi
theorem chg_lt {B : Nat → Nat → Nat} {x a : Nat} (hx : x < 16384) (ha : a < 12) : chg B x a < 16384 := by
  unfold chg
  split
  · exact hx
  · have h1 : x / 64 ||| lis B a < 256 := Nat.or_lt_two_pow (n := 8) (by omega) (lis_lt B a)
    have h2 : x % 64 ^^^ 2 ^ (a / 2) < 64 := Nat.xor_lt_two_pow (n := 6) (by omega) (pow_lt6 (by omega))
    omega
theorem plys_lt {n : Nat} {B : Nat → Nat → Nat} (h : gB n B) {i y : Nat} (hi : i < 8) (hy : y < 16384) : ∀ k, k ≤ B i 4 → plys B i y k < 16384
  | 0, _ => hy
  | k + 1, hk => chg_lt (plys_lt h hi hy k (by omega)) (gB_6 h hi (by have := gB_4 h hi; omega))
theorem ply_lt {n : Nat} {B : Nat → Nat → Nat} (h : gB n B) {i x : Nat} (hi : i < 8) (hx : x < 16384) : ply B i x < 16384 := by
  have h0 : 64 * clr (x / 64) i + x % 64 < 16384 := by have := clr_lt (x / 64) i; omega
  unfold ply
  split
  · exact plys_lt h hi h0 _ (Nat.le_refl _)
  · exact h0
def ord1 (v : xS) (up lo k : Nat) : xS := if up.testBit k = true then xs v k 9 (v.1 k 9 ||| nI lo) else v
def ord2 (v : xS) (up lo k : Nat) : xS := if lo.testBit k = true then xs v k 10 (v.1 k 10 ||| nI up) else v
def ordS (u : xS) (up lo : Nat) : Nat → xS
  | 0 => u
  | k + 1 => ord2 (ord1 (ordS u up lo k) up lo k) up lo k
theorem lis_bits {n : Nat} {B : Nat → Nat → Nat} (h : gB n B) (e : Nat) : lis B e < 2 ^ n := by
  refine Nat.lt_pow_two_of_testBit _ (fun i hi => ?_)
  unfold lis
  rw [mks_bit]
  rcases Nat.lt_or_ge i 8 with q | q
  · have := (h.2.2.1 i hi q).1
    rw [decide_eq_true q, this]; rfl
  · rw [decide_eq_false (by omega), Bool.false_and]
theorem clr_bits {t i n : Nat} (ht : t < 2 ^ n) : clr t i < 2 ^ n := by
  refine Nat.lt_pow_two_of_testBit _ (fun j hj => ?_)
  unfold clr
  rw [mks_bit, Nat.testBit_lt_two_pow (Nat.lt_of_lt_of_le ht (Nat.pow_le_pow_right (by decide) hj)), Bool.false_and, Bool.and_false]
theorem chg_bits {n : Nat} {B : Nat → Nat → Nat} (h : gB n B) {x a : Nat} (hx : x < 64 * 2 ^ n) (ha : a < 12) : chg B x a < 64 * 2 ^ n := by
  unfold chg
  split
  · exact hx
  · have h0 : x / 64 < 2 ^ n := by omega
    have h1 : x / 64 ||| lis B a < 2 ^ n := Nat.or_lt_two_pow h0 (lis_bits h a)
    have h2 : x % 64 ^^^ 2 ^ (a / 2) < 64 := Nat.xor_lt_two_pow (n := 6) (by omega) (pow_lt6 (by omega))
    omega
theorem plys_bits {n : Nat} {B : Nat → Nat → Nat} (h : gB n B) {i y : Nat} (hi : i < 8) (hy : y < 64 * 2 ^ n) : ∀ k, k ≤ B i 4 → plys B i y k < 64 * 2 ^ n
  | 0, _ => hy
  | k + 1, hk => chg_bits h (plys_bits h hi hy k (by omega)) (gB_6 h hi (by have := gB_4 h hi; omega))
theorem ply_bits {n : Nat} {B : Nat → Nat → Nat} (h : gB n B) {i x : Nat} (hi : i < 8) (hx : x < 64 * 2 ^ n) : ply B i x < 64 * 2 ^ n := by
  have hc : clr (x / 64) i < 2 ^ n := clr_bits (by omega)
  have h0 : 64 * clr (x / 64) i + x % 64 < 64 * 2 ^ n := by omega
  unfold ply
  split
  · exact plys_bits h hi h0 _ (Nat.le_refl _)
  · exact h0
end
section
/-! plain facts to paste, each family by itself; over the kit's nI, lN and upd -/
/-! ===== drawers: more things than places ===== -/
theorem fb_holes : ∀ (m n : Nat) (f : Nat → Nat), (∀ i, i < n → f i < m) → (∀ i j, i < j → j < n → f i ≠ f j) → n ≤ m := by
  intro m
  induction m with
  | zero =>
    intro n f h1 _
    rcases Nat.eq_zero_or_pos n with h | h
    · omega
    · exact absurd (h1 0 h) (Nat.not_lt_zero _)
  | succ m ih =>
    intro n f h1 h2
    by_cases hx : ∃ i, i < n ∧ f i = m
    · obtain ⟨a, ha, hfa⟩ := hx
      have hg := ih (n - 1) (fun i => if i < a then f i else f (i + 1)) (by
        intro i hi
        by_cases q : i < a
        · simp only [if_pos q]
          have b1 := h1 i (by omega)
          have b2 := h2 i a q ha
          omega
        · simp only [if_neg q]
          have b1 := h1 (i + 1) (by omega)
          have b2 := h2 a (i + 1) (by omega) (by omega)
          omega) (by
        intro i j hij hj
        by_cases q : i < a
        · by_cases r : j < a
          · simp only [if_pos q, if_pos r]
            exact h2 i j hij (by omega)
          · simp only [if_pos q, if_neg r]
            exact h2 i (j + 1) (by omega) (by omega)
        · have r : ¬ j < a := by omega
          simp only [if_neg q, if_neg r]
          exact h2 (i + 1) (j + 1) (by omega) (by omega))
      omega
    · have hg := ih n f (fun i hi => by
        have b1 := h1 i hi
        have b2 : f i ≠ m := fun e => hx ⟨i, hi, e⟩
        omega) h2
      omega
/-- two of them in one place -/
theorem fb_twice {m n : Nat} {f : Nat → Nat} (h : ∀ i, i < n → f i < m) (hm : m < n) : ∃ i j, i < j ∧ j < n ∧ f i = f j := by
  refine Classical.byContradiction fun hx => ?_
  have := fb_holes m n f h (fun i j hij hj e => hx ⟨i, j, hij, hj, e⟩)
  omega
/-- as many as places, none twice: each place is taken -/
theorem fb_onto {n : Nat} {f : Nat → Nat} (h : ∀ i, i < n → f i < n) (h2 : ∀ i j, i < j → j < n → f i ≠ f j) {y : Nat} (hy : y < n) : ∃ i, i < n ∧ f i = y := by
  refine Classical.byContradiction fun hx => ?_
  have hne : ∀ i, i < n → f i ≠ y := fun i hi e => hx ⟨i, hi, e⟩
  have := fb_holes (n - 1) n (fun i => if f i < y then f i else f i - 1) (by
    intro i hi
    have b1 := h i hi
    have b2 := hne i hi
    by_cases q : f i < y
    · simp only [if_pos q]; omega
    · simp only [if_neg q]; omega) (by
    intro i j hij hj
    have b1 := hne i (by omega)
    have b2 := hne j hj
    have b3 := h2 i j hij hj
    by_cases q : f i < y
    · by_cases r : f j < y
      · simp only [if_pos q, if_pos r]; exact b3
      · simp only [if_pos q, if_neg r]; omega
    · by_cases r : f j < y
      · simp only [if_neg q, if_pos r]; omega
      · simp only [if_neg q, if_neg r]; omega)
  omega
/-! ===== how many places have a property ===== -/
def fb_ct (p : Nat → Bool) : Nat → Nat
  | 0 => 0
  | n + 1 => fb_ct p n + (if p n then 1 else 0)
theorem fb_ct_succ (p : Nat → Bool) (n : Nat) : fb_ct p (n + 1) = fb_ct p n + (if p n then 1 else 0) := rfl
theorem fb_ct_le (p : Nat → Bool) : ∀ n, fb_ct p n ≤ n
  | 0 => Nat.le_refl _
  | n + 1 => by
    have h := fb_ct_le p n
    rw [fb_ct_succ]
    split <;> omega
theorem fb_ct_step (p : Nat → Bool) (m : Nat) : ∀ n, fb_ct p m ≤ fb_ct p (m + n)
  | 0 => Nat.le_refl _
  | n + 1 => by
    have h := fb_ct_step p m n
    show fb_ct p m ≤ fb_ct p (m + n + 1)
    rw [fb_ct_succ]
    omega
theorem fb_ct_mono (p : Nat → Bool) {m n : Nat} (h : m ≤ n) : fb_ct p m ≤ fb_ct p n := by
  have := fb_ct_step p m (n - m)
  rwa [Nat.add_sub_cancel' h] at this
theorem fb_ct_cong {p q : Nat → Bool} : ∀ {n : Nat}, (∀ k, k < n → p k = q k) → fb_ct p n = fb_ct q n
  | 0, _ => rfl
  | n + 1, h => by
    rw [fb_ct_succ, fb_ct_succ, fb_ct_cong (fun k hk => h k (by omega)), h n (by omega)]
/-- one place changed -/
theorem fb_ct_out (p : Nat → Bool) (b : Bool) {i n : Nat} (h : n ≤ i) : fb_ct (fun k => if k = i then b else p k) n = fb_ct p n :=
  fb_ct_cong fun k hk => if_neg (by omega)
theorem fb_ct_upd (p : Nat → Bool) (b : Bool) {i : Nat} : ∀ {n : Nat}, i < n → fb_ct (fun k => if k = i then b else p k) n + (if p i then 1 else 0) = fb_ct p n + (if b then 1 else 0)
  | 0, h => absurd h (Nat.not_lt_zero i)
  | n + 1, h => by
    rw [fb_ct_succ, fb_ct_succ]
    rcases Nat.lt_or_ge i n with q | q
    · have := fb_ct_upd p b q
      have e : (if n = i then b else p n) = p n := if_neg (by omega)
      rw [e]
      omega
    · have e : i = n := by omega
      subst e
      rw [fb_ct_out p b (Nat.le_refl _)]
      simp only [if_true]
      omega
theorem fb_ct_sub {p q : Nat → Bool} : ∀ {n : Nat}, (∀ k, k < n → p k = true → q k = true) → fb_ct p n ≤ fb_ct q n
  | 0, _ => Nat.le_refl _
  | n + 1, h => by
    have h1 := fb_ct_sub (n := n) (p := p) (q := q) (fun k hk => h k (by omega))
    have h2 := h n (by omega)
    rw [fb_ct_succ, fb_ct_succ]
    cases hp : p n <;> cases hq : q n <;> simp_all <;> omega
theorem fb_ct_or {p q : Nat → Bool} : ∀ {n : Nat}, (∀ k, k < n → ¬ (p k = true ∧ q k = true)) → fb_ct (fun k => p k || q k) n = fb_ct p n + fb_ct q n
  | 0, _ => rfl
  | n + 1, h => by
    have h1 := fb_ct_or (n := n) (p := p) (q := q) (fun k hk => h k (by omega))
    have h2 := h n (by omega)
    rw [fb_ct_succ, fb_ct_succ, fb_ct_succ, h1]
    cases hp : p n <;> cases hq : q n <;> simp_all <;> omega
theorem fb_ct_not (p : Nat → Bool) : ∀ n, fb_ct p n + fb_ct (fun k => !p k) n = n
  | 0 => rfl
  | n + 1 => by
    have h := fb_ct_not p n
    rw [fb_ct_succ, fb_ct_succ]
    cases p n <;> simp <;> omega
theorem fb_ct_split (p : Nat → Bool) (m : Nat) : ∀ n, fb_ct p (m + n) = fb_ct p m + fb_ct (fun k => p (m + k)) n
  | 0 => rfl
  | n + 1 => by
    have h := fb_ct_split p m n
    show fb_ct p (m + n + 1) = _
    rw [fb_ct_succ, fb_ct_succ, h, Nat.add_assoc]
theorem fb_ct_zero {p : Nat → Bool} : ∀ {n : Nat}, fb_ct p n = 0 ↔ ∀ k, k < n → p k = false
  | 0 => ⟨fun _ k hk => absurd hk (Nat.not_lt_zero k), fun _ => rfl⟩
  | n + 1 => by
    have h := fb_ct_zero (p := p) (n := n)
    rw [fb_ct_succ]
    constructor
    · intro e k hk
      have e1 : fb_ct p n = 0 := by omega
      rcases Nat.lt_or_ge k n with q | q
      · exact h.mp e1 k q
      · have ek : k = n := by omega
        subst ek
        cases hp : p k
        · rfl
        · simp [hp] at e
    · intro a
      rw [h.mpr (fun k hk => a k (by omega)), a n (by omega)]
      rfl
theorem fb_ct_pos {p : Nat → Bool} {n : Nat} : 0 < fb_ct p n ↔ ∃ k, k < n ∧ p k = true := by
  constructor
  · intro h
    refine Classical.byContradiction fun hx => ?_
    have := fb_ct_zero.mpr (fun k hk => by
      cases hp : p k
      · rfl
      · exact absurd ⟨k, hk, hp⟩ hx : ∀ k, k < n → p k = false)
    omega
  · rintro ⟨k, hk, hp⟩
    rcases Nat.eq_zero_or_pos (fb_ct p n) with e | e
    · have := fb_ct_zero.mp e k hk
      rw [this] at hp
      cases hp
    · exact e
theorem fb_ct_all {p : Nat → Bool} {n : Nat} : fb_ct p n = n ↔ ∀ k, k < n → p k = true := by
  have h := fb_ct_not p n
  constructor
  · intro e k hk
    have z : fb_ct (fun k => !p k) n = 0 := by omega
    have := fb_ct_zero.mp z k hk
    cases hp : p k
    · simp [hp] at this
    · rfl
  · intro a
    have z : fb_ct (fun k => !p k) n = 0 := fb_ct_zero.mpr (fun k hk => by simp [a k hk])
    omega
/-- the k-th place with the property -/
theorem fb_ct_kth {p : Nat → Bool} {k : Nat} : ∀ {n : Nat}, k < fb_ct p n → ∃ i, i < n ∧ p i = true ∧ fb_ct p i = k
  | 0, h => absurd h (Nat.not_lt_zero k)
  | n + 1, h => by
    rcases Nat.lt_or_ge k (fb_ct p n) with q | q
    · obtain ⟨i, h1, h2⟩ := fb_ct_kth q
      exact ⟨i, by omega, h2⟩
    · rw [fb_ct_succ] at h
      cases hp : p n
      · simp [hp] at h; omega
      · simp [hp] at h
        exact ⟨n, by omega, hp, by omega⟩
theorem fb_ct_kth_one {p : Nat → Bool} {i j : Nat} (hi : p i = true) (hj : p j = true) (e : fb_ct p i = fb_ct p j) : i = j := by
  have key : ∀ a b : Nat, a < b → p a = true → fb_ct p a < fb_ct p b := by
    intro a b hab ha
    have h := fb_ct_mono p (show a + 1 ≤ b from hab)
    rw [fb_ct_succ, ha] at h
    simp at h
    omega
  rcases Nat.lt_trichotomy i j with q | q | q
  · have := key i j q hi; omega
  · exact q
  · have := key j i q hj; omega
/-! ===== sums over a range: one place changed, parts, bounds ===== -/
def fb_sm (f : Nat → Nat) : Nat → Nat
  | 0 => 0
  | n + 1 => fb_sm f n + f n
theorem fb_sm_succ (f : Nat → Nat) (n : Nat) : fb_sm f (n + 1) = fb_sm f n + f n := rfl
theorem fb_sm_cong {f g : Nat → Nat} : ∀ {n : Nat}, (∀ k, k < n → f k = g k) → fb_sm f n = fb_sm g n
  | 0, _ => rfl
  | n + 1, h => by rw [fb_sm_succ, fb_sm_succ, fb_sm_cong (fun k hk => h k (by omega)), h n (by omega)]
theorem fb_sm_out (f : Nat → Nat) (v : Nat) {i n : Nat} (h : n ≤ i) : fb_sm (fun k => if k = i then v else f k) n = fb_sm f n :=
  fb_sm_cong fun k hk => if_neg (by omega)
theorem fb_sm_upd (f : Nat → Nat) (v : Nat) {i : Nat} : ∀ {n : Nat}, i < n → fb_sm (fun k => if k = i then v else f k) n + f i = fb_sm f n + v
  | 0, h => absurd h (Nat.not_lt_zero i)
  | n + 1, h => by
    rw [fb_sm_succ, fb_sm_succ]
    rcases Nat.lt_or_ge i n with q | q
    · have := fb_sm_upd f v q
      have e : (if n = i then v else f n) = f n := if_neg (by omega)
      rw [e]
      omega
    · have e : i = n := by omega
      subst e
      rw [fb_sm_out f v (Nat.le_refl _)]
      simp only [if_true]
      omega
theorem fb_sm_add (f g : Nat → Nat) : ∀ n, fb_sm (fun k => f k + g k) n = fb_sm f n + fb_sm g n
  | 0 => rfl
  | n + 1 => by
    have h := fb_sm_add f g n
    rw [fb_sm_succ, fb_sm_succ, fb_sm_succ, h]
    omega
theorem fb_sm_le {f g : Nat → Nat} : ∀ {n : Nat}, (∀ k, k < n → f k ≤ g k) → fb_sm f n ≤ fb_sm g n
  | 0, _ => Nat.le_refl _
  | n + 1, h => by
    have h1 := fb_sm_le (n := n) (f := f) (g := g) (fun k hk => h k (by omega))
    have h2 := h n (by omega)
    rw [fb_sm_succ, fb_sm_succ]
    omega
theorem fb_sm_const (c : Nat) : ∀ n, fb_sm (fun _ => c) n = n * c
  | 0 => by rw [Nat.zero_mul]; rfl
  | n + 1 => by rw [fb_sm_succ, fb_sm_const c n, Nat.succ_mul]
theorem fb_sm_bound {f : Nat → Nat} {c n : Nat} (h : ∀ k, k < n → f k ≤ c) : fb_sm f n ≤ n * c := by
  rw [← fb_sm_const c n]
  exact fb_sm_le h
theorem fb_sm_mono (f : Nat → Nat) (m : Nat) : ∀ n, fb_sm f m ≤ fb_sm f (m + n)
  | 0 => Nat.le_refl _
  | n + 1 => by
    have h := fb_sm_mono f m n
    show fb_sm f m ≤ fb_sm f (m + n + 1)
    rw [fb_sm_succ]
    omega
theorem fb_sm_part (f : Nat → Nat) {i n : Nat} (h : i < n) : fb_sm f i + f i ≤ fb_sm f n := by
  have := fb_sm_mono f (i + 1) (n - (i + 1))
  rw [fb_sm_succ, show i + 1 + (n - (i + 1)) = n by omega] at this
  exact this
theorem fb_sm_split (f : Nat → Nat) (m : Nat) : ∀ n, fb_sm f (m + n) = fb_sm f m + fb_sm (fun k => f (m + k)) n
  | 0 => rfl
  | n + 1 => by
    have h := fb_sm_split f m n
    show fb_sm f (m + n + 1) = _
    rw [fb_sm_succ, fb_sm_succ, h, Nat.add_assoc]
theorem fb_sm_zero {f : Nat → Nat} {n : Nat} (h : fb_sm f n = 0) : ∀ k, k < n → f k = 0 := fun k hk => by
  have := fb_sm_part f hk
  omega
/-- the same over whole numbers -/
def fb_si (f : Nat → Int) : Nat → Int
  | 0 => 0
  | n + 1 => fb_si f n + f n
theorem fb_si_succ (f : Nat → Int) (n : Nat) : fb_si f (n + 1) = fb_si f n + f n := rfl
theorem fb_si_cong {f g : Nat → Int} : ∀ {n : Nat}, (∀ k, k < n → f k = g k) → fb_si f n = fb_si g n
  | 0, _ => rfl
  | n + 1, h => by rw [fb_si_succ, fb_si_succ, fb_si_cong (fun k hk => h k (by omega)), h n (by omega)]
theorem fb_si_out (f : Nat → Int) (v : Int) {i n : Nat} (h : n ≤ i) : fb_si (fun k => if k = i then v else f k) n = fb_si f n :=
  fb_si_cong fun k hk => if_neg (by omega)
theorem fb_si_upd (f : Nat → Int) (v : Int) {i : Nat} : ∀ {n : Nat}, i < n → fb_si (fun k => if k = i then v else f k) n = fb_si f n - f i + v
  | 0, h => absurd h (Nat.not_lt_zero i)
  | n + 1, h => by
    rw [fb_si_succ, fb_si_succ]
    rcases Nat.lt_or_ge i n with q | q
    · have := fb_si_upd f v q
      have e : (if n = i then v else f n) = f n := if_neg (by omega)
      rw [e]
      omega
    · have e : i = n := by omega
      subst e
      rw [fb_si_out f v (Nat.le_refl _)]
      simp only [if_true]
      omega
theorem fb_si_add (f g : Nat → Int) : ∀ n, fb_si (fun k => f k + g k) n = fb_si f n + fb_si g n
  | 0 => rfl
  | n + 1 => by
    have h := fb_si_add f g n
    rw [fb_si_succ, fb_si_succ, fb_si_succ, h]
    omega
theorem fb_si_sub (f g : Nat → Int) : ∀ n, fb_si (fun k => f k - g k) n = fb_si f n - fb_si g n
  | 0 => rfl
  | n + 1 => by
    have h := fb_si_sub f g n
    rw [fb_si_succ, fb_si_succ, fb_si_succ, h]
    omega
theorem fb_si_mul (c : Int) (f : Nat → Int) : ∀ n, fb_si (fun k => c * f k) n = c * fb_si f n
  | 0 => (Int.mul_zero c).symm
  | n + 1 => by
    have h := fb_si_mul c f n
    rw [fb_si_succ, fb_si_succ, h, Int.mul_add]
theorem fb_si_split (f : Nat → Int) (m : Nat) : ∀ n, fb_si f (m + n) = fb_si f m + fb_si (fun k => f (m + k)) n
  | 0 => (Int.add_zero _).symm
  | n + 1 => by
    have h := fb_si_split f m n
    show fb_si f (m + n + 1) = _
    rw [fb_si_succ, fb_si_succ, h, Int.add_assoc]
theorem fb_si_nat (f : Nat → Nat) : ∀ n, fb_si (fun k => (f k : Int)) n = (fb_sm f n : Int)
  | 0 => rfl
  | n + 1 => by
    have h := fb_si_nat f n
    rw [fb_si_succ, fb_sm_succ, h]
    omega
theorem fb_si_bound {f : Nat → Int} {c : Int} (hc : 0 ≤ c) : ∀ {n : Nat}, (∀ k, k < n → -c ≤ f k ∧ f k ≤ c) → -(n * c) ≤ fb_si f n ∧ fb_si f n ≤ n * c
  | 0, _ => by simp [fb_si]
  | n + 1, h => by
    have h1 := fb_si_bound (n := n) (f := f) hc (fun k hk => h k (by omega))
    have h2 := h n (by omega)
    have e : ((n + 1 : Nat) : Int) * c = n * c + c := by rw [Int.natCast_add, Int.add_mul]; simp
    rw [fb_si_succ, e]
    omega
/-! ===== bits of a long that isn't negative ===== -/
theorem fb_andL (a b : Nat) : lN a &&& lN b = lN (a &&& b) := by
  apply Int64.toBitVec_inj.1
  show BitVec.ofNat 64 a &&& BitVec.ofNat 64 b = BitVec.ofNat 64 (a &&& b)
  apply BitVec.eq_of_getLsbD_eq
  intro i hi
  simp [hi]
theorem fb_orL (a b : Nat) : lN a ||| lN b = lN (a ||| b) := by
  apply Int64.toBitVec_inj.1
  show BitVec.ofNat 64 a ||| BitVec.ofNat 64 b = BitVec.ofNat 64 (a ||| b)
  apply BitVec.eq_of_getLsbD_eq
  intro i hi
  simp [hi]
theorem fb_xorL (a b : Nat) : lN a ^^^ lN b = lN (a ^^^ b) := by
  apply Int64.toBitVec_inj.1
  show BitVec.ofNat 64 a ^^^ BitVec.ofNat 64 b = BitVec.ofNat 64 (a ^^^ b)
  apply BitVec.eq_of_getLsbD_eq
  intro i hi
  simp [hi]
theorem fb_xorI (a b : Nat) : nI a ^^^ nI b = nI (a ^^^ b) := by
  apply Int32.toBitVec_inj.1
  show BitVec.ofNat 32 a ^^^ BitVec.ofNat 32 b = BitVec.ofNat 32 (a ^^^ b)
  apply BitVec.eq_of_getLsbD_eq
  intro i hi
  simp [hi]
theorem fb_maskL (n k : Nat) : lN n &&& lN (2 ^ k - 1) = lN (n % 2 ^ k) := by rw [fb_andL, Nat.and_two_pow_sub_one_eq_mod]
theorem fb_or_sumL {a k : Nat} (b : Nat) (h : a < 2 ^ k) : lN (2 ^ k * b) ||| lN a = lN (2 ^ k * b + a) := by rw [fb_orL, Nat.two_pow_add_eq_or_of_lt h]
theorem fb_lN_inj {a b : Nat} (ha : a < 2 ^ 63) (hb : b < 2 ^ 63) : lN a = lN b ↔ a = b := by
  constructor
  · intro h
    have h1 : (BitVec.ofNat 64 a).toNat = (BitVec.ofNat 64 b).toNat := congrArg (fun x : Int64 => x.toBitVec.toNat) h
    rw [BitVec.toNat_ofNat, BitVec.toNat_ofNat, Nat.mod_eq_of_lt (by omega), Nat.mod_eq_of_lt (by omega)] at h1
    exact h1
  · rintro rfl; rfl
theorem fb_bit_nat (n j : Nat) : n &&& 2 ^ j = 0 ↔ n.testBit j = false := by
  constructor
  · intro h
    have h1 : (n &&& 2 ^ j).testBit j = false := by rw [h]; simp
    rw [Nat.testBit_and] at h1
    simpa using h1
  · intro h
    apply Nat.eq_of_testBit_eq
    intro i
    rw [Nat.testBit_and]
    by_cases hi : j = i
    · subst hi; simp [h]
    · first | (simp [Nat.testBit_two_pow, hi]; done) | (simp [Nat.testBit_two_pow_of_ne hi]; done)
/-- one bit of a long -/
theorem fb_bitL {n j : Nat} (hj : j < 63) : lN n &&& lN (2 ^ j) = 0 ↔ n.testBit j = false := by
  have h2 : (2 : Nat) ^ j < 2 ^ 63 := Nat.pow_lt_pow_right (by decide) hj
  have hle : n &&& 2 ^ j ≤ 2 ^ j := Nat.and_le_right
  rw [fb_andL, ← fb_bit_nat, show (0 : Int64) = lN 0 from rfl]
  exact fb_lN_inj (by omega) (by decide)
/-- a bit set, a bit taken off -/
theorem fb_bit_set (n j i : Nat) : (n ||| 2 ^ j).testBit i = (n.testBit i || decide (i = j)) := by
  rw [Nat.testBit_or]
  by_cases h : j = i
  · subst h; simp
  · have h2 : ¬ i = j := fun e => h e.symm
    first | (simp [Nat.testBit_two_pow, h, h2]; done) | (simp [Nat.testBit_two_pow_of_ne h, h2]; done)
theorem fb_bit_flip (n j i : Nat) : (n ^^^ 2 ^ j).testBit i = (n.testBit i ^^ decide (i = j)) := by
  rw [Nat.testBit_xor]
  by_cases h : j = i
  · subst h; simp
  · have h2 : ¬ i = j := fun e => h e.symm
    first | (simp [Nat.testBit_two_pow, h, h2]; done) | (simp [Nat.testBit_two_pow_of_ne h, h2]; done)
/-! ===== a stretch of an array written over by a function ===== -/
def fb_put {α : Type} (f g : Nat → α) (a n : Nat) : Nat → α := fun k => if a ≤ k ∧ k < a + n then g (k - a) else f k
theorem fb_put_0 {α : Type} (f g : Nat → α) (a : Nat) : fb_put f g a 0 = f := funext fun k => if_neg (by omega)
theorem fb_put_in {α : Type} {f g : Nat → α} {a n k : Nat} (h1 : a ≤ k) (h2 : k < a + n) : fb_put f g a n k = g (k - a) := if_pos ⟨h1, h2⟩
theorem fb_put_out {α : Type} {f g : Nat → α} {a n k : Nat} (h : k < a ∨ a + n ≤ k) : fb_put f g a n k = f k := if_neg (by omega)
theorem fb_put_succ (f g : Nat → Int32) (a n : Nat) : upd (fb_put f g a n) (a + n) (g n) = fb_put f g a (n + 1) := by
  funext k
  by_cases h : k = a + n
  · subst h
    simp [upd, fb_put]
  · by_cases h1 : a ≤ k ∧ k < a + n
    · have h2 : a ≤ k ∧ k < a + (n + 1) := by omega
      simp only [upd, fb_put, if_neg h, if_pos h1, if_pos h2]
    · have h2 : ¬ (a ≤ k ∧ k < a + (n + 1)) := by omega
      simp only [upd, fb_put, if_neg h, if_neg h1, if_neg h2]
/-- .. from the far end down -/
theorem fb_put_down (f g : Nat → Int32) {a n m : Nat} (h : m < n) : upd (fb_put f (fun k => g (k + (m + 1))) (a + (m + 1)) (n - (m + 1))) (a + m) (g m) = fb_put f (fun k => g (k + m)) (a + m) (n - m) := by
  funext k
  by_cases h0 : k = a + m
  · subst h0
    simp only [upd, if_true]
    rw [fb_put_in (by omega) (by omega)]
    exact congrArg g (by omega)
  · simp only [upd, if_neg h0]
    by_cases h1 : a + (m + 1) ≤ k ∧ k < a + (m + 1) + (n - (m + 1))
    · rw [fb_put_in h1.1 h1.2, fb_put_in (by omega) (by omega)]
      exact congrArg g (by omega)
    · rw [fb_put_out (by omega), fb_put_out (by omega)]
theorem fb_put_cong {α : Type} {f f2 g g2 : Nat → α} {a n : Nat} (hf : ∀ k, (k < a ∨ a + n ≤ k) → f k = f2 k) (hg : ∀ k, k < n → g k = g2 k) : fb_put f g a n = fb_put f2 g2 a n := by
  funext k
  by_cases h : a ≤ k ∧ k < a + n
  · rw [fb_put_in h.1 h.2, fb_put_in h.1 h.2, hg _ (by omega)]
  · rw [fb_put_out (by omega), fb_put_out (by omega), hf _ (by omega)]
/-! ===== the least, the first, the best so far; that there is one alone ===== -/
theorem fb_first {p : Nat → Prop} [DecidablePred p] : ∀ {n : Nat}, (∃ i, i < n ∧ p i) → ∃ i, i < n ∧ p i ∧ ∀ j, j < i → ¬ p j
  | 0, h => by obtain ⟨i, hi, -⟩ := h; exact absurd hi (Nat.not_lt_zero i)
  | n + 1, h => by
    by_cases q : ∃ i, i < n ∧ p i
    · obtain ⟨i, h1, h2⟩ := fb_first q
      exact ⟨i, by omega, h2⟩
    · obtain ⟨i, h1, h2⟩ := h
      have e : i = n := by
        rcases Nat.lt_or_ge i n with r | r
        · exact absurd ⟨i, r, h2⟩ q
        · omega
      subst e
      exact ⟨i, by omega, h2, fun j hj hp => q ⟨j, hj, hp⟩⟩
theorem fb_first_one {p : Nat → Prop} {i j : Nat} (hi : p i) (hi2 : ∀ k, k < i → ¬ p k) (hj : p j) (hj2 : ∀ k, k < j → ¬ p k) : i = j := by
  rcases Nat.lt_trichotomy i j with q | q | q
  · exact absurd hi (hj2 i q)
  · exact q
  · exact absurd hj (hi2 j q)
theorem fb_last {p : Nat → Prop} [DecidablePred p] : ∀ {n : Nat}, (∃ i, i < n ∧ p i) → ∃ i, i < n ∧ p i ∧ ∀ j, i < j → j < n → ¬ p j
  | 0, h => by obtain ⟨i, hi, -⟩ := h; exact absurd hi (Nat.not_lt_zero i)
  | n + 1, h => by
    by_cases q : p n
    · exact ⟨n, by omega, q, fun j h1 h2 => by omega⟩
    · obtain ⟨i, h1, h2⟩ := h
      have hi : i < n := by
        rcases Nat.lt_or_ge i n with r | r
        · exact r
        · have e : i = n := by omega
          subst e
          exact absurd h2 q
      obtain ⟨i2, a1, a2, a3⟩ := fb_last (n := n) ⟨i, hi, h2⟩
      refine ⟨i2, by omega, a2, fun j b1 b2 => ?_⟩
      rcases Nat.lt_or_ge j n with r | r
      · exact a3 j b1 r
      · have e : j = n := by omega
        subst e
        exact q
/-- the first greatest -/
theorem fb_best (f : Nat → Int) : ∀ {n : Nat}, 0 < n → ∃ i, i < n ∧ (∀ j, j < n → f j ≤ f i) ∧ ∀ j, j < i → f j < f i
  | 0, h => absurd h (Nat.lt_irrefl 0)
  | 1, _ => ⟨0, by omega, fun j hj => by have e : j = 0 := by omega
                                         subst e; exact Int.le_refl _, fun j hj => absurd hj (Nat.not_lt_zero j)⟩
  | n + 2, _ => by
    obtain ⟨i, h1, h2, h3⟩ := fb_best f (n := n + 1) (by omega)
    by_cases q : f i < f (n + 1)
    · refine ⟨n + 1, by omega, fun j hj => ?_, fun j hj => ?_⟩
      · rcases Nat.lt_or_ge j (n + 1) with r | r
        · have := h2 j r; omega
        · have e : j = n + 1 := by omega
          subst e; exact Int.le_refl _
      · have := h2 j hj; omega
    · refine ⟨i, by omega, fun j hj => ?_, h3⟩
      rcases Nat.lt_or_ge j (n + 1) with r | r
      · exact h2 j r
      · have e : j = n + 1 := by omega
        subst e; omega
theorem fb_best_one {f : Nat → Int} {n i j : Nat} (hi : i < n) (hi2 : ∀ k, k < n → f k ≤ f i) (hi3 : ∀ k, k < i → f k < f i) (hj : j < n) (hj2 : ∀ k, k < n → f k ≤ f j) (hj3 : ∀ k, k < j → f k < f j) : i = j := by
  rcases Nat.lt_trichotomy i j with q | q | q
  · have a := hj3 i q
    have b := hi2 j hj
    omega
  · exact q
  · have a := hi3 j q
    have b := hj2 i hi
    omega
/-- the first least -/
theorem fb_low (f : Nat → Int) {n : Nat} (h : 0 < n) : ∃ i, i < n ∧ (∀ j, j < n → f i ≤ f j) ∧ ∀ j, j < i → f i < f j := by
  obtain ⟨i, h1, h2, h3⟩ := fb_best (fun k => -f k) h
  exact ⟨i, h1, fun j hj => by have := h2 j hj; omega, fun j hj => by have := h3 j hj; omega⟩
/-! ===== signed ints as whole numbers, within bounds ===== -/
theorem fb_rng (x : Int32) : -2147483648 ≤ x.toInt ∧ x.toInt < 2147483648 := by
  have h1 := Int32.le_toInt x
  have h2 := Int32.toInt_lt x
  omega
theorem fb_bmod {z : Int} (h1 : -2147483648 ≤ z) (h2 : z < 2147483648) : z.bmod (2 ^ 32) = z := by
  rw [Int.bmod_eq_of_le (by omega) (by omega)]
theorem fb_addI {x y : Int32} (h1 : -2147483648 ≤ x.toInt + y.toInt) (h2 : x.toInt + y.toInt < 2147483648) : (x + y).toInt = x.toInt + y.toInt := by
  rw [Int32.toInt_add, fb_bmod h1 h2]
theorem fb_subI {x y : Int32} (h1 : -2147483648 ≤ x.toInt - y.toInt) (h2 : x.toInt - y.toInt < 2147483648) : (x - y).toInt = x.toInt - y.toInt := by
  rw [Int32.toInt_sub, fb_bmod h1 h2]
theorem fb_mulI {x y : Int32} (h1 : -2147483648 ≤ x.toInt * y.toInt) (h2 : x.toInt * y.toInt < 2147483648) : (x * y).toInt = x.toInt * y.toInt := by
  rw [Int32.toInt_mul, fb_bmod h1 h2]
theorem fb_negI {x : Int32} (h : x.toInt ≠ -2147483648) : (-x).toInt = -x.toInt := by
  have := fb_rng x
  rw [Int32.toInt_neg, fb_bmod (by omega) (by omega)]
theorem fb_ofI {z : Int} (h1 : -2147483648 ≤ z) (h2 : z < 2147483648) : (Int32.ofInt z).toInt = z := by
  rw [Int32.toInt_ofInt, fb_bmod h1 h2]
theorem fb_asI (x : Int32) : Int32.ofInt x.toInt = x := Int32.ofInt_toInt x
theorem fb_rngL (x : Int64) : -9223372036854775808 ≤ x.toInt ∧ x.toInt < 9223372036854775808 := by
  have h1 := Int64.le_toInt x
  have h2 := Int64.toInt_lt x
  omega
theorem fb_bmodL {z : Int} (h1 : -9223372036854775808 ≤ z) (h2 : z < 9223372036854775808) : z.bmod (2 ^ 64) = z := by
  rw [Int.bmod_eq_of_le (by omega) (by omega)]
theorem fb_addL {x y : Int64} (h1 : -9223372036854775808 ≤ x.toInt + y.toInt) (h2 : x.toInt + y.toInt < 9223372036854775808) : (x + y).toInt = x.toInt + y.toInt := by
  rw [Int64.toInt_add, fb_bmodL h1 h2]
theorem fb_subL {x y : Int64} (h1 : -9223372036854775808 ≤ x.toInt - y.toInt) (h2 : x.toInt - y.toInt < 9223372036854775808) : (x - y).toInt = x.toInt - y.toInt := by
  rw [Int64.toInt_sub, fb_bmodL h1 h2]
theorem fb_mulL {x y : Int64} (h1 : -9223372036854775808 ≤ x.toInt * y.toInt) (h2 : x.toInt * y.toInt < 9223372036854775808) : (x * y).toInt = x.toInt * y.toInt := by
  rw [Int64.toInt_mul, fb_bmodL h1 h2]
/-! ===== cuts of what is narrow already ===== -/
theorem fb_byte {x : Int32} (h1 : -128 ≤ x.toInt) (h2 : x.toInt < 128) : x.toInt8.toInt32 = x := by
  apply Int32.toInt_inj.1
  rw [Int8.toInt_toInt32, Int32.toInt_toInt8, Int.bmod_eq_of_le (by omega) (by omega)]
theorem fb_short {x : Int32} (h1 : -32768 ≤ x.toInt) (h2 : x.toInt < 32768) : x.toInt16.toInt32 = x := by
  apply Int32.toInt_inj.1
  rw [Int16.toInt_toInt32, Int32.toInt_toInt16, Int.bmod_eq_of_le (by omega) (by omega)]
theorem fb_byte_rng (x : Int32) : -128 ≤ x.toInt8.toInt32.toInt ∧ x.toInt8.toInt32.toInt < 128 := by
  rw [Int8.toInt_toInt32]
  have h1 := Int8.le_toInt x.toInt8
  have h2 := Int8.toInt_lt x.toInt8
  omega
theorem fb_short_rng (x : Int32) : -32768 ≤ x.toInt16.toInt32.toInt ∧ x.toInt16.toInt32.toInt < 32768 := by
  rw [Int16.toInt_toInt32]
  have h1 := Int16.le_toInt x.toInt16
  have h2 := Int16.toInt_lt x.toInt16
  omega
theorem fb_byte_twice (x : Int32) : x.toInt8.toInt32.toInt8.toInt32 = x.toInt8.toInt32 := fb_byte (fb_byte_rng x).1 (fb_byte_rng x).2
theorem fb_short_twice (x : Int32) : x.toInt16.toInt32.toInt16.toInt32 = x.toInt16.toInt32 := fb_short (fb_short_rng x).1 (fb_short_rng x).2
theorem fb_char {n : Nat} (h : n < 65536) : (nI n).toUInt32.toUInt16.toUInt32.toInt32 = nI n := by
  apply Int32.toBitVec_inj.1
  apply BitVec.eq_of_toNat_eq
  have e1 : (nI n).toBitVec.toNat = n := by
    show (BitVec.ofNat 32 n).toNat = n
    rw [BitVec.toNat_ofNat, Nat.mod_eq_of_lt (by omega)]
  have e2 : ((nI n).toUInt32.toUInt16.toUInt32).toNat = n := by
    rw [UInt16.toNat_toUInt32, UInt32.toNat_toUInt16]
    show (nI n).toBitVec.toNat % 2 ^ 16 = n
    rw [e1, Nat.mod_eq_of_lt (by omega)]
  rw [e1]
  exact e2
theorem zi_max {a b : Nat} (ha : a < 2 ^ 31) (hb : b < 2 ^ 31) : (if nI a < nI b then nI b else nI a) = nI (Nat.max a b) := by
  by_cases h : nI a < nI b
  · rw [if_pos h]
    have := (nI_ltI ha hb).mp h
    rw [show Nat.max a b = b from Nat.max_eq_right (by omega)]
  · rw [if_neg h]
    have h2 : ¬ a < b := fun z => h ((nI_ltI ha hb).mpr z)
    rw [show Nat.max a b = a from Nat.max_eq_left (by omega)]
end
section
set_option maxHeartbeats 4000000 in
set_option maxRecDepth 100000 in
theorem c_X6_factsIn (l : Launch) (D : va_G) (ad : Nat → Nat) (cI cL cR : ClassId) (hI : gI 34 ad) (u : xS) (x : Nat) : ∀ sz, Met l yX6_factsIn wsX6_factsIn ({ frames := 0, cells := 0, slots := 0, locals := 0 }) (XP D ad cI cL cR u [.int (nI x)] sz) (va_Qi (fun r u' => r = nI (x % 64) ∧ u' = u) (XB D ad cI cL cR) (gA 34 ad sz)) 0 0 (gA 34 ad sz) := by
  intro sz
  refine z_met (cc := cX6_factsIn) (maxL := 1) (ret := (some .int)) (by decide) rfl (Nat.le_of_ble_eq_true rfl) ?_
  intro pq lq sq mq aq Qq bq hmq cq C hr hml hown hts hlocks hK hX hsz hQ
  subst hsz
  refine z_sub (L' := [(0, .int (nI x))]) [0] rfl ?_
  refine z_iload_n C dX6_factsIn_0 0 rfl ?_
  refine z_bipush (v := nI 63) C (by decide) dX6_factsIn_1 ?_
  refine z_iand C dX6_factsIn_3 ?_
  refine z_topi (y := nI (x % 64)) (zi_facts x) ?_
  exact z_iret C hr hlocks hQ u (⟨rfl, rfl⟩) (fun _ _ => rfl) dX6_factsIn_4

set_option maxHeartbeats 4000000 in
set_option maxRecDepth 100000 in
theorem c_X6_triggeredIn (l : Launch) (D : va_G) (ad : Nat → Nat) (cI cL cR : ClassId) (hI : gI 34 ad) (u : xS) (x : Nat) (hx : x < 2 ^ 31) : ∀ sz, Met l yX6_triggeredIn wsX6_triggeredIn ({ frames := 0, cells := 0, slots := 0, locals := 0 }) (XP D ad cI cL cR u [.int (nI x)] sz) (va_Qi (fun r u' => r = nI (x / 64) ∧ u' = u) (XB D ad cI cL cR) (gA 34 ad sz)) 0 0 (gA 34 ad sz) := by
  intro sz
  refine z_met (cc := cX6_triggeredIn) (maxL := 1) (ret := (some .int)) (by decide) rfl (Nat.le_of_ble_eq_true rfl) ?_
  intro pq lq sq mq aq Qq bq hmq cq C hr hml hown hts hlocks hK hX hsz hQ
  subst hsz
  refine z_sub (L' := [(0, .int (nI x))]) [0] rfl ?_
  refine z_iload_n C dX6_triggeredIn_0 0 rfl ?_
  refine z_bipush (v := nI 6) C (by decide) dX6_triggeredIn_1 ?_
  refine z_ishr C dX6_triggeredIn_3 ?_
  refine z_topi (y := nI (x / 64)) (zi_trig hx) ?_
  exact z_iret C hr hlocks hQ u (⟨rfl, rfl⟩) (fun _ _ => rfl) dX6_triggeredIn_4

set_option maxHeartbeats 4000000 in
set_option maxRecDepth 100000 in
theorem c_X6_situationOf (l : Launch) (D : va_G) (ad : Nat → Nat) (cI cL cR : ClassId) (hI : gI 34 ad) (u : xS) (f t : Nat) (hf : f < 64) (ht : t < 65536) : ∀ sz, Met l yX6_situationOf wsX6_situationOf ({ frames := 0, cells := 0, slots := 0, locals := 0 }) (XP D ad cI cL cR u [.int (nI f), .int (nI t)] sz) (va_Qi (fun r u' => r = nI (64 * t + f) ∧ u' = u) (XB D ad cI cL cR) (gA 34 ad sz)) 0 0 (gA 34 ad sz) := by
  intro sz
  refine z_met (cc := cX6_situationOf) (maxL := 2) (ret := (some .int)) (by decide) rfl (Nat.le_of_ble_eq_true rfl) ?_
  intro pq lq sq mq aq Qq bq hmq cq C hr hml hown hts hlocks hK hX hsz hQ
  subst hsz
  refine z_sub (L' := [(0, .int (nI f)), (1, .int (nI t))]) [0, 1] rfl ?_
  refine z_iload_n C dX6_situationOf_0 1 rfl ?_
  refine z_bipush (v := nI 6) C (by decide) dX6_situationOf_1 ?_
  refine z_ishl C dX6_situationOf_3 ?_
  refine z_iload_n C dX6_situationOf_4 0 rfl ?_
  refine z_ior C dX6_situationOf_5 ?_
  refine z_topi (y := nI (64 * t + f)) (zi_sit hf ht) ?_
  exact z_iret C hr hlocks hQ u (⟨rfl, rfl⟩) (fun _ _ => rfl) dX6_situationOf_6

set_option maxHeartbeats 4000000 in
set_option maxRecDepth 100000 in
theorem c_X6_changeCode (l : Launch) (D : va_G) (ad : Nat → Nat) (cI cL cR : ClassId) (hI : gI 34 ad) (u : xS) (f : Nat) (b : Int32) : ∀ sz, Met l yX6_changeCode wsX6_changeCode ({ frames := 0, cells := 0, slots := 0, locals := 0 }) (XP D ad cI cL cR u [.int (nI f), .int (b)] sz) (va_Qi (fun r u' => r = nI (2 * f + if b = 0 then 0 else 1) ∧ u' = u) (XB D ad cI cL cR) (gA 34 ad sz)) 0 0 (gA 34 ad sz) := by
  intro sz
  refine z_met (cc := cX6_changeCode) (maxL := 2) (ret := (some .int)) (by decide) rfl (Nat.le_of_ble_eq_true rfl) ?_
  intro pq lq sq mq aq Qq bq hmq cq C hr hml hown hts hlocks hK hX hsz hQ
  subst hsz
  refine z_sub (L' := [(0, .int (nI f)), (1, .int (b))]) [0, 1] rfl ?_
  refine z_iconst (v := nI 2) C (by decide) dX6_changeCode_0 ?_
  refine z_iload_n C dX6_changeCode_1 0 rfl ?_
  refine z_imul C dX6_changeCode_2 ?_
  refine z_topi (y := nI (2 * f)) (pk_mul 2 f) ?_
  refine z_iload_n C dX6_changeCode_3 1 rfl ?_
  refine z_if_eq (tgt := 11) C dX6_changeCode_4 (by decide) (fun zc4 => ?_) (fun zc4 => ?_)
  · skip
    refine z_iconst (v := nI 0) C (by decide) dX6_changeCode_11 ?_
    refine z_iadd C dX6_changeCode_12 ?_
    refine z_topi (y := nI ((2 * f) + 0)) (nI_add (2 * f) 0) ?_
    exact z_iret C hr hlocks hQ u (⟨by rw [if_pos zc4], rfl⟩) (fun _ _ => rfl) dX6_changeCode_13
  · skip
    refine z_iconst (v := nI 1) C (by decide) dX6_changeCode_7 ?_
    refine z_goto (tgt := 12) C dX6_changeCode_8 (by decide) ?_
    refine z_iadd C dX6_changeCode_12 ?_
    refine z_topi (y := nI ((2 * f) + 1)) (nI_add (2 * f) 1) ?_
    exact z_iret C hr hlocks hQ u (⟨by rw [if_neg zc4], rfl⟩) (fun _ _ => rfl) dX6_changeCode_13

set_option maxHeartbeats 4000000 in
set_option maxRecDepth 100000 in
theorem c_X4_isFull (l : Launch) (D : va_G) (ad : Nat → Nat) (cI cL cR : ClassId) (hI : gI 34 ad) (u : xS) (n : Nat) (B : Nat → Nat → Nat) (hR : xR u n B) (i : Nat) (hi : i < 8) : ∀ sz, Met l yX4_isFull wsX4_isFull ({ frames := 0, cells := 0, slots := 0, locals := 0 }) (XP D ad cI cL cR u [.ref (ad i)] sz) (va_Qi (fun r u' => r = (if 4 ≤ B i 4 then 1 else 0) ∧ u' = u) (XB D ad cI cL cR) (gA 34 ad sz)) 0 0 (gA 34 ad sz) := by
  intro sz
  refine z_met (cc := cX4_isFull) (maxL := 1) (ret := (some .boolean)) (by decide) rfl (Nat.le_of_ble_eq_true rfl) ?_
  intro pq lq sq mq aq Qq bq hmq cq C hr hml hown hts hlocks hK hX hsz hQ
  subst hsz
  have hT4 : ∀ w ∈ wsX40, w.before aq sq = true := fun w h => hts w ((by decide +kernel : ∀ w ∈ wsX40, w ∈ wsX4_isFull) w h)
  refine z_sub (L' := [(0, .ref (ad i))]) [0] rfl ?_
  have g4 : B i 4 ≤ 4 := gB_4 hR.1 hi
  refine z_aload_n C dX4_isFull_0 0 rfl ?_
  refine z_get (q := i) C (T := TX4) (N := 11) (ci := 4) (own := RX4) (index := 19) (v := .int (u.1 i 6)) hT4 hown hK (by omega) (xF_r hi) rfl 6 (by decide) (hts (.fieldLink RX4 19 "TriggerAnalyzer$Rule" "actionCount" "I") (by decide +kernel)) (fun _ h9 => h9) rfl dX4_isFull_1 ?_
  refine z_topi (y := nI (B i 4)) (xR_6 hR (by omega)) ?_
  refine z_aload_n C dX4_isFull_4 0 rfl ?_
  refine z_get (q := i) C (T := TX4) (N := 11) (ci := 4) (own := RX4) (index := 9) (v := .ref (ad (8 + i))) hT4 hown hK (by omega) (xF_r hi) rfl 1 (by decide) (hts (.fieldLink RX4 9 "TriggerAnalyzer$Rule" "actions" "[I") (by decide +kernel)) (fun _ h9 => h9) rfl dX4_isFull_5 ?_
  refine z_alen (q := 8 + i) (len := 4) C hK (by omega) (xF_a hi) 0 rfl (v := nI 4) (by decide) dX4_isFull_8 ?_
  refine z_icmp_lt (tgt := 16) C dX4_isFull_9 (by decide) (fun zc9 => ?_) (fun zc9 => ?_)
  · skip
    have zn9 := zlt_t (a := B i 4) (b := 4) (by omega) (by omega) zc9
    refine z_iconst (v := nI 0) C (by decide) dX4_isFull_16 ?_
    exact z_zret C hr hlocks rfl hQ u (⟨by rw [if_neg (by omega)]; rfl, rfl⟩) (fun _ _ => rfl) dX4_isFull_17
  · skip
    have zn9 := zlt_f (a := B i 4) (b := 4) (by omega) (by omega) zc9
    refine z_iconst (v := nI 1) C (by decide) dX4_isFull_12 ?_
    refine z_goto (tgt := 17) C dX4_isFull_13 (by decide) ?_
    exact z_zret C hr hlocks rfl hQ u (⟨by rw [if_pos (by omega)]; rfl, rfl⟩) (fun _ _ => rfl) dX4_isFull_17

set_option maxHeartbeats 4000000 in
set_option maxRecDepth 100000 in
theorem c_X4_append (l : Launch) (D : va_G) (ad : Nat → Nat) (cI cL cR : ClassId) (hI : gI 34 ad) (u : xS) (i : Nat) (hi : i < 8) (c : Nat) (hc : c < 4) (h6 : u.1 i 6 = nI c) (a : Nat) (ha : a < 12) : ∀ sz, Met l yX4_append wsX4_append ({ frames := 0, cells := 0, slots := 0, locals := 0 }) (XP D ad cI cL cR u [.ref (ad i), .int (nI a)] sz) (va_Qv (fun u' => u' = (if a % 2 = 1 then xs (xs (xs u (8 + i) c (nI a)) i 6 (nI (c + 1))) i 7 (u.1 i 7 ||| nI (2 ^ (a / 2))) else xs (xs (xs u (8 + i) c (nI a)) i 6 (nI (c + 1))) i 8 (u.1 i 8 ||| nI (2 ^ (a / 2))))) (XB D ad cI cL cR) (gA 34 ad sz)) 0 0 (gA 34 ad sz) := by
  intro sz
  refine z_met (cc := cX4_append) (maxL := 3) (ret := none) (by decide) rfl (Nat.le_of_ble_eq_true rfl) ?_
  intro pq lq sq mq aq Qq bq hmq cq C hr hml hown hts hlocks hK hX hsz hQ
  subst hsz
  have hT4 : ∀ w ∈ wsX40, w.before aq sq = true := fun w h => hts w ((by decide +kernel : ∀ w ∈ wsX40, w ∈ wsX4_append) w h)
  refine z_sub (L' := [(0, .ref (ad i)), (1, .int (nI a))]) [0, 1] rfl ?_
  refine z_aload_n C dX4_append_0 0 rfl ?_
  refine z_get (q := i) C (T := TX4) (N := 11) (ci := 4) (own := RX4) (index := 19) (v := .int (u.1 i 6)) hT4 hown hK (by omega) (xF_r hi) rfl 6 (by decide) (hts (.fieldLink RX4 19 "TriggerAnalyzer$Rule" "actionCount" "I") (by decide +kernel)) (fun _ h9 => h9) rfl dX4_append_1 ?_
  refine z_topi (y := nI c) (h6) ?_
  refine z_if_lt (tgt := 19) C dX4_append_4 (by decide) (fun zc4 => ?_) (fun zc4 => ?_)
  · skip
    exact (zneg (by omega) zc4).elim
  · skip
    refine z_aload_n C dX4_append_7 0 rfl ?_
    refine z_get (q := i) C (T := TX4) (N := 11) (ci := 4) (own := RX4) (index := 19) (v := .int (u.1 i 6)) hT4 hown hK (by omega) (xF_r hi) rfl 6 (by decide) (hts (.fieldLink RX4 19 "TriggerAnalyzer$Rule" "actionCount" "I") (by decide +kernel)) (fun _ h9 => h9) rfl dX4_append_8 ?_
    refine z_topi (y := nI c) (h6) ?_
    refine z_aload_n C dX4_append_11 0 rfl ?_
    refine z_get (q := i) C (T := TX4) (N := 11) (ci := 4) (own := RX4) (index := 9) (v := .ref (ad (8 + i))) hT4 hown hK (by omega) (xF_r hi) rfl 1 (by decide) (hts (.fieldLink RX4 9 "TriggerAnalyzer$Rule" "actions" "[I") (by decide +kernel)) (fun _ h9 => h9) rfl dX4_append_12 ?_
    refine z_alen (q := 8 + i) (len := 4) C hK (by omega) (xF_a hi) 0 rfl (v := nI 4) (by decide) dX4_append_15 ?_
    refine z_icmp_lt (tgt := 20) C dX4_append_16 (by decide) (fun zc16 => ?_) (fun zc16 => ?_)
    · skip
      have zn16 := zlt_t (a := c) (b := 4) (by omega) (by omega) zc16
      refine z_aload_n C dX4_append_20 0 rfl ?_
      refine z_get (q := i) C (T := TX4) (N := 11) (ci := 4) (own := RX4) (index := 9) (v := .ref (ad (8 + i))) hT4 hown hK (by omega) (xF_r hi) rfl 1 (by decide) (hts (.fieldLink RX4 9 "TriggerAnalyzer$Rule" "actions" "[I") (by decide +kernel)) (fun _ h9 => h9) rfl dX4_append_21 ?_
      refine z_aload_n C dX4_append_24 0 rfl ?_
      refine z_get (q := i) C (T := TX4) (N := 11) (ci := 4) (own := RX4) (index := 19) (v := .int (u.1 i 6)) hT4 hown hK (by omega) (xF_r hi) rfl 6 (by decide) (hts (.fieldLink RX4 19 "TriggerAnalyzer$Rule" "actionCount" "I") (by decide +kernel)) (fun _ h9 => h9) rfl dX4_append_25 ?_
      refine z_topi (y := nI c) (h6) ?_
      refine z_iload_n C dX4_append_28 1 rfl ?_
      refine z_iast (q := 8 + i) (len := 4) (k := c) C hI hK (by omega) (xF_a hi) 0 rfl (rfl) (by omega) (by decide) (f' := xF ad cI cL cR ((xs u (8 + i) c (nI a)))) (xF_pa hi) xF_ne dX4_append_29 ?_
      refine z_aload_n C dX4_append_30 0 rfl ?_
      refine z_dup C rfl dX4_append_31 ?_
      refine z_get (q := i) C (T := TX4) (N := 11) (ci := 4) (own := RX4) (index := 19) (v := .int ((xs u (8 + i) c (nI a)).1 i 6)) hT4 hown hK (by omega) (xF_r hi) rfl 6 (by decide) (hts (.fieldLink RX4 19 "TriggerAnalyzer$Rule" "actionCount" "I") (by decide +kernel)) (fun _ h9 => h9) rfl dX4_append_32 ?_
      refine z_topi (y := u.1 i 6) (xs_c (by omega) _) ?_
      refine z_topi (y := nI c) (h6) ?_
      refine z_iconst (v := nI 1) C (by decide) dX4_append_35 ?_
      refine z_iadd C dX4_append_36 ?_
      refine z_topi (y := nI (c + 1)) (nI_add c 1) ?_
      refine z_put (q := i) C hI tyX4 (T := TX4) (N := 11) (ci := 4) (own := RX4) (index := 19) hT4 hown hK (by omega) (xF_r hi) rfl 6 (by decide) (hts (.fieldLink RX4 19 "TriggerAnalyzer$Rule" "actionCount" "I") (by decide +kernel)) (fun _ h9 => h9) tyX4_ok nmX4 rfl rfl rfl (Nat.le_of_ble_eq_true rfl) (f' := xF ad cI cL cR ((xs ((xs u (8 + i) c (nI a))) i 6 (nI (c + 1))))) (xF_p6 hi) xF_ne dX4_append_37 ?_
      refine z_iconst (v := nI 1) C (by decide) dX4_append_40 ?_
      refine z_iload_n C dX4_append_41 1 rfl ?_
      refine z_iconst (v := nI 1) C (by decide) dX4_append_42 ?_
      refine z_ishr C dX4_append_43 ?_
      refine z_topi (y := nI (a / 2)) (zi_half (by omega)) ?_
      refine z_ishl C dX4_append_44 ?_
      refine z_topi (y := nI (2 ^ (a / 2))) (zi_shl1 (by omega)) ?_
      refine z_istore_n (L' := [(2, .int (nI (2 ^ (a / 2)))), (0, .ref (ad i)), (1, .int (nI a))]) C dX4_append_45 (by decide) rfl ?_
      refine z_iload_n C dX4_append_46 2 rfl ?_
      refine z_iconst (v := nI 1) C (by decide) dX4_append_47 ?_
      refine z_iand C dX4_append_48 ?_
      refine z_topi (y := nI (a % 2)) (fa_mask a 1) ?_
      refine z_iconst (v := nI 1) C (by decide) dX4_append_49 ?_
      refine z_icmp_ne (tgt := 66) C dX4_append_50 (by decide) (fun zc50 => ?_) (fun zc50 => ?_)
      · skip
        have zn50 := zeq_f (a := a % 2) (b := 1) zc50
        refine z_aload_n C dX4_append_66 1 rfl ?_
        refine z_dup C rfl dX4_append_67 ?_
        refine z_get (q := i) C (T := TX4) (N := 11) (ci := 4) (own := RX4) (index := 25) (v := .int ((xs ((xs u (8 + i) c (nI a))) i 6 (nI (c + 1))).1 i 8)) hT4 hown hK (by omega) (xF_r hi) rfl 8 (by decide) (hts (.fieldLink RX4 25 "TriggerAnalyzer$Rule" "unsetFacts" "I") (by decide +kernel)) (fun _ h9 => h9) rfl dX4_append_68 ?_
        refine z_topi (y := u.1 i 8) ((xs_j (by decide)).trans (xs_c (by omega) _)) ?_
        refine z_iload_n C dX4_append_71 0 rfl ?_
        refine z_ior C dX4_append_72 ?_
        refine z_put (q := i) C hI tyX4 (T := TX4) (N := 11) (ci := 4) (own := RX4) (index := 25) hT4 hown hK (by omega) (xF_r hi) rfl 8 (by decide) (hts (.fieldLink RX4 25 "TriggerAnalyzer$Rule" "unsetFacts" "I") (by decide +kernel)) (fun _ h9 => h9) tyX4_ok nmX4 rfl rfl rfl (Nat.le_of_ble_eq_true rfl) (f' := xF ad cI cL cR ((xs ((xs ((xs u (8 + i) c (nI a))) i 6 (nI (c + 1)))) i 8 ((u.1 i 8) ||| (nI (2 ^ (a / 2))))))) (xF_p8 hi) xF_ne dX4_append_73 ?_
        exact z_vret C hr hlocks hQ ((xs ((xs ((xs u (8 + i) c (nI a))) i 6 (nI (c + 1)))) i 8 ((u.1 i 8) ||| (nI (2 ^ (a / 2)))))) (by rw [if_neg zn50]) (fun _ _ => rfl) dX4_append_76
      · skip
        have zn50 := zeq_t (a := a % 2) (b := 1) (by omega) (by omega) zc50
        refine z_aload_n C dX4_append_53 1 rfl ?_
        refine z_dup C rfl dX4_append_54 ?_
        refine z_get (q := i) C (T := TX4) (N := 11) (ci := 4) (own := RX4) (index := 22) (v := .int ((xs ((xs u (8 + i) c (nI a))) i 6 (nI (c + 1))).1 i 7)) hT4 hown hK (by omega) (xF_r hi) rfl 7 (by decide) (hts (.fieldLink RX4 22 "TriggerAnalyzer$Rule" "setFacts" "I") (by decide +kernel)) (fun _ h9 => h9) rfl dX4_append_55 ?_
        refine z_topi (y := u.1 i 7) ((xs_j (by decide)).trans (xs_c (by omega) _)) ?_
        refine z_iload_n C dX4_append_58 0 rfl ?_
        refine z_ior C dX4_append_59 ?_
        refine z_put (q := i) C hI tyX4 (T := TX4) (N := 11) (ci := 4) (own := RX4) (index := 22) hT4 hown hK (by omega) (xF_r hi) rfl 7 (by decide) (hts (.fieldLink RX4 22 "TriggerAnalyzer$Rule" "setFacts" "I") (by decide +kernel)) (fun _ h9 => h9) tyX4_ok nmX4 rfl rfl rfl (Nat.le_of_ble_eq_true rfl) (f' := xF ad cI cL cR ((xs ((xs ((xs u (8 + i) c (nI a))) i 6 (nI (c + 1)))) i 7 ((u.1 i 7) ||| (nI (2 ^ (a / 2))))))) (xF_p7 hi) xF_ne dX4_append_60 ?_
        refine z_goto (tgt := 76) C dX4_append_63 (by decide) ?_
        exact z_vret C hr hlocks hQ ((xs ((xs ((xs u (8 + i) c (nI a))) i 6 (nI (c + 1)))) i 7 ((u.1 i 7) ||| (nI (2 ^ (a / 2)))))) (by rw [if_pos zn50]) (fun _ _ => rfl) dX4_append_76
    · skip
      have zn16 := zlt_f (a := c) (b := 4) (by omega) (by omega) zc16
      exact False.elim (by omega)

set_option maxHeartbeats 4000000 in
set_option maxRecDepth 100000 in
theorem c_X4_actionAt (l : Launch) (D : va_G) (ad : Nat → Nat) (cI cL cR : ClassId) (hI : gI 34 ad) (u : xS) (n : Nat) (B : Nat → Nat → Nat) (hR : xR u n B) (i : Nat) (hi : i < 8) (k : Nat) (hk : k < B i 4) : ∀ sz, Met l yX4_actionAt wsX4_actionAt ({ frames := 0, cells := 0, slots := 0, locals := 0 }) (XP D ad cI cL cR u [.ref (ad i), .int (nI k)] sz) (va_Qi (fun r u' => r = nI (B i (6 + k)) ∧ u' = u) (XB D ad cI cL cR) (gA 34 ad sz)) 0 0 (gA 34 ad sz) := by
  intro sz
  refine z_met (cc := cX4_actionAt) (maxL := 2) (ret := (some .int)) (by decide) rfl (Nat.le_of_ble_eq_true rfl) ?_
  intro pq lq sq mq aq Qq bq hmq cq C hr hml hown hts hlocks hK hX hsz hQ
  subst hsz
  have hT4 : ∀ w ∈ wsX40, w.before aq sq = true := fun w h => hts w ((by decide +kernel : ∀ w ∈ wsX40, w ∈ wsX4_actionAt) w h)
  refine z_sub (L' := [(0, .ref (ad i)), (1, .int (nI k))]) [0, 1] rfl ?_
  have g4 : B i 4 ≤ 4 := gB_4 hR.1 hi
  refine z_iload_n C dX4_actionAt_0 1 rfl ?_
  refine z_if_lt (tgt := 22) C dX4_actionAt_1 (by decide) (fun zc1 => ?_) (fun zc1 => ?_)
  · skip
    exact (zneg (by omega) zc1).elim
  · skip
    refine z_iload_n C dX4_actionAt_4 1 rfl ?_
    refine z_aload_n C dX4_actionAt_5 0 rfl ?_
    refine z_get (q := i) C (T := TX4) (N := 11) (ci := 4) (own := RX4) (index := 9) (v := .ref (ad (8 + i))) hT4 hown hK (by omega) (xF_r hi) rfl 1 (by decide) (hts (.fieldLink RX4 9 "TriggerAnalyzer$Rule" "actions" "[I") (by decide +kernel)) (fun _ h9 => h9) rfl dX4_actionAt_6 ?_
    refine z_alen (q := 8 + i) (len := 4) C hK (by omega) (xF_a hi) 0 rfl (v := nI 4) (by decide) dX4_actionAt_9 ?_
    refine z_icmp_ge (tgt := 22) C dX4_actionAt_10 (by decide) (fun zc10 => ?_) (fun zc10 => ?_)
    · skip
      have zn10 := zge_t (a := k) (b := 4) (by omega) (by omega) zc10
      exact False.elim (by omega)
    · skip
      have zn10 := zge_f (a := k) (b := 4) (by omega) (by omega) zc10
      refine z_aload_n C dX4_actionAt_13 0 rfl ?_
      refine z_get (q := i) C (T := TX4) (N := 11) (ci := 4) (own := RX4) (index := 9) (v := .ref (ad (8 + i))) hT4 hown hK (by omega) (xF_r hi) rfl 1 (by decide) (hts (.fieldLink RX4 9 "TriggerAnalyzer$Rule" "actions" "[I") (by decide +kernel)) (fun _ h9 => h9) rfl dX4_actionAt_14 ?_
      refine z_iload_n C dX4_actionAt_17 1 rfl ?_
      refine z_iald (q := 8 + i) (len := 4) (k := k) C hK (by omega) (xF_a hi) 0 rfl (rfl) (by omega) (by decide) dX4_actionAt_18 ?_
      refine z_topi (y := nI (B i (6 + k))) (xR_a hR hi hk) ?_
      refine z_goto (tgt := 23) C dX4_actionAt_19 (by decide) ?_
      exact z_iret C hr hlocks hQ u (⟨rfl, rfl⟩) (fun _ _ => rfl) dX4_actionAt_23

set_option maxHeartbeats 4000000 in
set_option maxRecDepth 100000 in
theorem c_X4_isOver (l : Launch) (D : va_G) (ad : Nat → Nat) (cI cL cR : ClassId) (hI : gI 34 ad) (u : xS) (n : Nat) (B : Nat → Nat → Nat) (hR : xR u n B) (i : Nat) (hi : i < 8) (j : Nat) (hj : j < 8) : ∀ sz, Met l yX4_isOver wsX4_isOver ({ frames := 0, cells := 0, slots := 0, locals := 0 }) (XP D ad cI cL cR u [.ref (ad i), .ref (ad j)] sz) (va_Qi (fun r u' => r = (if (B i 5).testBit j = true then 1 else 0) ∧ u' = u) (XB D ad cI cL cR) (gA 34 ad sz)) 0 0 (gA 34 ad sz) := by
  intro sz
  refine z_met (cc := cX4_isOver) (maxL := 2) (ret := (some .boolean)) (by decide) rfl (Nat.le_of_ble_eq_true rfl) ?_
  intro pq lq sq mq aq Qq bq hmq cq C hr hml hown hts hlocks hK hX hsz hQ
  subst hsz
  have hT4 : ∀ w ∈ wsX40, w.before aq sq = true := fun w h => hts w ((by decide +kernel : ∀ w ∈ wsX40, w ∈ wsX4_isOver) w h)
  refine z_sub (L' := [(0, .ref (ad i)), (1, .ref (ad j))]) [0, 1] rfl ?_
  refine z_aload_n C dX4_isOver_0 0 rfl ?_
  refine z_get (q := i) C (T := TX4) (N := 11) (ci := 4) (own := RX4) (index := 28) (v := .int (u.1 i 9)) hT4 hown hK (by omega) (xF_r hi) rfl 9 (by decide) (hts (.fieldLink RX4 28 "TriggerAnalyzer$Rule" "below" "I") (by decide +kernel)) (fun _ h9 => h9) rfl dX4_isOver_1 ?_
  refine z_topi (y := nI (B i 5)) (xR_9 hR (by omega)) ?_
  refine z_aload_n C dX4_isOver_4 1 rfl ?_
  refine z_get (q := j) C (T := TX4) (N := 11) (ci := 4) (own := RX4) (index := 15) (v := .int (nI (2 ^ j))) hT4 hown hK (by omega) (xF_r hj) rfl 0 (by decide) (hts (.fieldLink RX4 15 "TriggerAnalyzer$Rule" "bit" "I") (by decide +kernel)) (fun _ h9 => h9) rfl dX4_isOver_5 ?_
  refine z_iand C dX4_isOver_8 ?_
  refine z_topi (y := nI ((B i 5) &&& (2 ^ j))) (fa_and (B i 5) (2 ^ j)) ?_
  refine z_if_eq (tgt := 16) C dX4_isOver_9 (by decide) (fun zc9 => ?_) (fun zc9 => ?_)
  · skip
    have h := zi_bitF (by omega) zc9
    refine z_iconst (v := nI 0) C (by decide) dX4_isOver_16 ?_
    exact z_zret C hr hlocks rfl hQ u (⟨by rw [h]; rfl, rfl⟩) (fun _ _ => rfl) dX4_isOver_17
  · skip
    have h := zi_bitT (by omega) zc9
    refine z_iconst (v := nI 1) C (by decide) dX4_isOver_12 ?_
    refine z_goto (tgt := 17) C dX4_isOver_13 (by decide) ?_
    exact z_zret C hr hlocks rfl hQ u (⟨by rw [h]; rfl, rfl⟩) (fun _ _ => rfl) dX4_isOver_17

set_option maxHeartbeats 4000000 in
set_option maxRecDepth 100000 in
theorem c_X4_isReadyIn (l : Launch) (D : va_G) (ad : Nat → Nat) (cI cL cR : ClassId) (hI : gI 34 ad) (u : xS) (n : Nat) (B : Nat → Nat → Nat) (hR : xR u n B) (i : Nat) (hi : i < 8) (x : Nat) (hx : x < 16384) : ∀ sz, Met l yX4_isReadyIn wsX4_isReadyIn ({ frames := 1, cells := 0, slots := 0, locals := 20 }) (XP D ad cI cL cR u [.ref (ad i), .int (nI x)] sz) (va_Qi (fun r u' => r = (if rdy1 B i (x / 64) = true then 1 else 0) ∧ u' = u) (XB D ad cI cL cR) (gA 34 ad sz)) 0 0 (gA 34 ad sz) := by
  intro sz
  refine z_met (cc := cX4_isReadyIn) (maxL := 3) (ret := (some .boolean)) (by decide) rfl (Nat.le_of_ble_eq_true rfl) ?_
  intro pq lq sq mq aq Qq bq hmq cq C hr hml hown hts hlocks hK hX hsz hQ
  subst hsz
  have hT4 : ∀ w ∈ wsX40, w.before aq sq = true := fun w h => hts w ((by decide +kernel : ∀ w ∈ wsX40, w ∈ wsX4_isReadyIn) w h)
  refine z_sub (L' := [(0, .ref (ad i)), (1, .int (nI x))]) [0, 1] rfl ?_
  have ga : abv B i < 256 := abv_lt B i
  have gx : x / 64 &&& abv B i < 256 := and_lt ga
  refine z_iload_n C dX4_isReadyIn_0 1 rfl ?_
  refine z_callSNi xX_ok C hml hown hts hK hX (c_X6_triggeredIn l D ad cI cL cR hI u x (by omega)) ⟨va_cnB 1 hts gX4_isReadyIn_X6_triggeredIn_n31 rfl rfl rfl hX.1.1 (hts (.initialized RX6) (by decide +kernel)) (by decide +kernel) ⟨Nat.le_of_ble_eq_true rfl, Nat.le_of_ble_eq_true rfl⟩, hts (.static yX6_triggeredIn) (by decide +kernel), trivial⟩ rfl (st := []) rfl (Nat.le_of_ble_eq_true rfl) dX4_isReadyIn_1 ⟨Nat.le_of_ble_eq_true rfl, Nat.le_of_ble_eq_true rfl⟩ (fun r1 u1 h1 => ?_)
  obtain ⟨zr1, zu1⟩ := h1
  subst r1
  subst u1
  refine z_istore_n (L' := [(2, .int (nI (x / 64))), (0, .ref (ad i)), (1, .int (nI x))]) C dX4_isReadyIn_4 (by decide) rfl ?_
  refine z_iload_n C dX4_isReadyIn_5 0 rfl ?_
  refine z_aload_n C dX4_isReadyIn_6 1 rfl ?_
  refine z_get (q := i) C (T := TX4) (N := 11) (ci := 4) (own := RX4) (index := 15) (v := .int (nI (2 ^ i))) hT4 hown hK (by omega) (xF_r hi) rfl 0 (by decide) (hts (.fieldLink RX4 15 "TriggerAnalyzer$Rule" "bit" "I") (by decide +kernel)) (fun _ h9 => h9) rfl dX4_isReadyIn_7 ?_
  refine z_iand C dX4_isReadyIn_10 ?_
  refine z_topi (y := nI ((x / 64) &&& (2 ^ i))) (fa_and (x / 64) (2 ^ i)) ?_
  refine z_if_eq (tgt := 27) C dX4_isReadyIn_11 (by decide) (fun zc11 => ?_) (fun zc11 => ?_)
  · skip
    have h := zi_bitF (by omega) zc11
    have h2 : rdy1 B i (x / 64) = false := by unfold rdy1; rw [h]; rfl
    refine z_iconst (v := nI 0) C (by decide) dX4_isReadyIn_27 ?_
    exact z_zret C hr hlocks rfl hQ u (⟨by rw [h2]; rfl, rfl⟩) (fun _ _ => rfl) dX4_isReadyIn_28
  · skip
    have h := zi_bitT (by omega) zc11
    refine z_iload_n C dX4_isReadyIn_14 0 rfl ?_
    refine z_aload_n C dX4_isReadyIn_15 1 rfl ?_
    refine z_get (q := i) C (T := TX4) (N := 11) (ci := 4) (own := RX4) (index := 35) (v := .int (u.1 i 10)) hT4 hown hK (by omega) (xF_r hi) rfl 10 (by decide) (hts (.fieldLink RX4 35 "TriggerAnalyzer$Rule" "above" "I") (by decide +kernel)) (fun _ h9 => h9) rfl dX4_isReadyIn_16 ?_
    refine z_topi (y := nI (abv B i)) (xR_10 hR (by omega)) ?_
    refine z_iand C dX4_isReadyIn_19 ?_
    refine z_topi (y := nI ((x / 64) &&& (abv B i))) (fa_and (x / 64) (abv B i)) ?_
    refine z_if_ne (tgt := 27) C dX4_isReadyIn_20 (by decide) (fun zc20 => ?_) (fun zc20 => ?_)
    · skip
      have zn20 := z0_f zc20
      have h2 : rdy1 B i (x / 64) = false := by unfold rdy1; rw [decide_eq_false zn20, Bool.and_false]
      refine z_iconst (v := nI 0) C (by decide) dX4_isReadyIn_27 ?_
      exact z_zret C hr hlocks rfl hQ u (⟨by rw [h2]; rfl, rfl⟩) (fun _ _ => rfl) dX4_isReadyIn_28
    · skip
      have zn20 := z0_t (by omega) zc20
      have h2 : rdy1 B i (x / 64) = true := by unfold rdy1; rw [h, zn20]; rfl
      refine z_iconst (v := nI 1) C (by decide) dX4_isReadyIn_23 ?_
      refine z_goto (tgt := 28) C dX4_isReadyIn_24 (by decide) ?_
      exact z_zret C hr hlocks rfl hQ u (⟨by rw [h2]; rfl, rfl⟩) (fun _ _ => rfl) dX4_isReadyIn_28

set_option maxHeartbeats 4000000 in
set_option maxRecDepth 100000 in
theorem c_X4_holdsIn (l : Launch) (D : va_G) (ad : Nat → Nat) (cI cL cR : ClassId) (hI : gI 34 ad) (u : xS) (n : Nat) (B : Nat → Nat → Nat) (hR : xR u n B) (i : Nat) (hi : i < 8) (x : Nat) (hx : x < 16384) : ∀ sz, Met l yX4_holdsIn wsX4_holdsIn ({ frames := 1, cells := 0, slots := 0, locals := 20 }) (XP D ad cI cL cR u [.ref (ad i), .int (nI x)] sz) (va_Qi (fun r u' => r = (if hol B i (x % 64) = true then 1 else 0) ∧ u' = u) (XB D ad cI cL cR) (gA 34 ad sz)) 0 0 (gA 34 ad sz) := by
  intro sz
  refine z_met (cc := cX4_holdsIn) (maxL := 3) (ret := (some .boolean)) (by decide) rfl (Nat.le_of_ble_eq_true rfl) ?_
  intro pq lq sq mq aq Qq bq hmq cq C hr hml hown hts hlocks hK hX hsz hQ
  subst hsz
  have hT4 : ∀ w ∈ wsX40, w.before aq sq = true := fun w h => hts w ((by decide +kernel : ∀ w ∈ wsX40, w ∈ wsX4_holdsIn) w h)
  refine z_sub (L' := [(0, .ref (ad i)), (1, .int (nI x))]) [0, 1] rfl ?_
  have g1 : B i 1 < 64 := gB_1 hR.1 hi
  have g2 : B i 2 < 64 := gB_2 hR.1 hi
  have g3 : x % 64 &&& B i 1 < 64 := and_lt g1
  have g4 : x % 64 &&& B i 2 < 64 := and_lt g2
  refine z_iload_n C dX4_holdsIn_0 1 rfl ?_
  refine z_callSNi xX_ok C hml hown hts hK hX (c_X6_factsIn l D ad cI cL cR hI u x) ⟨va_cnB 1 hts gX4_holdsIn_X6_factsIn_n38 rfl rfl rfl hX.1.2.1 (hts (.initialized RX6) (by decide +kernel)) (by decide +kernel) ⟨Nat.le_of_ble_eq_true rfl, Nat.le_of_ble_eq_true rfl⟩, hts (.static yX6_factsIn) (by decide +kernel), trivial⟩ rfl (st := []) rfl (Nat.le_of_ble_eq_true rfl) dX4_holdsIn_1 ⟨Nat.le_of_ble_eq_true rfl, Nat.le_of_ble_eq_true rfl⟩ (fun r1 u1 h1 => ?_)
  obtain ⟨zr1, zu1⟩ := h1
  subst r1
  subst u1
  refine z_istore_n (L' := [(2, .int (nI (x % 64))), (0, .ref (ad i)), (1, .int (nI x))]) C dX4_holdsIn_4 (by decide) rfl ?_
  refine z_iload_n C dX4_holdsIn_5 0 rfl ?_
  refine z_aload_n C dX4_holdsIn_6 1 rfl ?_
  refine z_get (q := i) C (T := TX4) (N := 11) (ci := 4) (own := RX4) (index := 41) (v := .int (u.1 i 3)) hT4 hown hK (by omega) (xF_r hi) rfl 3 (by decide) (hts (.fieldLink RX4 41 "TriggerAnalyzer$Rule" "must" "I") (by decide +kernel)) (fun _ h9 => h9) rfl dX4_holdsIn_7 ?_
  refine z_topi (y := nI (B i 1)) (xR_3 hR (by omega)) ?_
  refine z_iand C dX4_holdsIn_10 ?_
  refine z_topi (y := nI ((x % 64) &&& (B i 1))) (fa_and (x % 64) (B i 1)) ?_
  refine z_aload_n C dX4_holdsIn_11 1 rfl ?_
  refine z_get (q := i) C (T := TX4) (N := 11) (ci := 4) (own := RX4) (index := 41) (v := .int (u.1 i 3)) hT4 hown hK (by omega) (xF_r hi) rfl 3 (by decide) (hts (.fieldLink RX4 41 "TriggerAnalyzer$Rule" "must" "I") (by decide +kernel)) (fun _ h9 => h9) rfl dX4_holdsIn_12 ?_
  refine z_topi (y := nI (B i 1)) (xR_3 hR (by omega)) ?_
  refine z_icmp_ne (tgt := 31) C dX4_holdsIn_15 (by decide) (fun zc15 => ?_) (fun zc15 => ?_)
  · skip
    have zn15 := zeq_f (a := (x % 64) &&& (B i 1)) (b := B i 1) zc15
    have h2 : hol B i (x % 64) = false := by unfold hol; rw [decide_eq_false zn15, Bool.false_and]
    refine z_iconst (v := nI 0) C (by decide) dX4_holdsIn_31 ?_
    exact z_zret C hr hlocks rfl hQ u (⟨by rw [h2]; rfl, rfl⟩) (fun _ _ => rfl) dX4_holdsIn_32
  · skip
    have zn15 := zeq_t (a := (x % 64) &&& (B i 1)) (b := B i 1) (by omega) (by omega) zc15
    refine z_iload_n C dX4_holdsIn_18 0 rfl ?_
    refine z_aload_n C dX4_holdsIn_19 1 rfl ?_
    refine z_get (q := i) C (T := TX4) (N := 11) (ci := 4) (own := RX4) (index := 44) (v := .int (u.1 i 4)) hT4 hown hK (by omega) (xF_r hi) rfl 4 (by decide) (hts (.fieldLink RX4 44 "TriggerAnalyzer$Rule" "mustNot" "I") (by decide +kernel)) (fun _ h9 => h9) rfl dX4_holdsIn_20 ?_
    refine z_topi (y := nI (B i 2)) (xR_4 hR (by omega)) ?_
    refine z_iand C dX4_holdsIn_23 ?_
    refine z_topi (y := nI ((x % 64) &&& (B i 2))) (fa_and (x % 64) (B i 2)) ?_
    refine z_if_ne (tgt := 31) C dX4_holdsIn_24 (by decide) (fun zc24 => ?_) (fun zc24 => ?_)
    · skip
      have zn24 := z0_f zc24
      have h2 : hol B i (x % 64) = false := by unfold hol; rw [decide_eq_false zn24, Bool.and_false]
      refine z_iconst (v := nI 0) C (by decide) dX4_holdsIn_31 ?_
      exact z_zret C hr hlocks rfl hQ u (⟨by rw [h2]; rfl, rfl⟩) (fun _ _ => rfl) dX4_holdsIn_32
    · skip
      have zn24 := z0_t (by omega) zc24
      have h2 : hol B i (x % 64) = true := by unfold hol; rw [decide_eq_true zn15, decide_eq_true zn24]; rfl
      refine z_iconst (v := nI 1) C (by decide) dX4_holdsIn_27 ?_
      refine z_goto (tgt := 32) C dX4_holdsIn_28 (by decide) ?_
      exact z_zret C hr hlocks rfl hQ u (⟨by rw [h2]; rfl, rfl⟩) (fun _ _ => rfl) dX4_holdsIn_32

set_option maxHeartbeats 4000000 in
set_option maxRecDepth 100000 in
theorem c_X4_changedFacts (l : Launch) (D : va_G) (ad : Nat → Nat) (cI cL cR : ClassId) (hI : gI 34 ad) (u : xS) (n : Nat) (B : Nat → Nat → Nat) (hR : xR u n B) (i : Nat) (hi : i < 8) : ∀ sz, Met l yX4_changedFacts wsX4_changedFacts ({ frames := 0, cells := 0, slots := 0, locals := 0 }) (XP D ad cI cL cR u [.ref (ad i)] sz) (va_Qi (fun r u' => r = nI (sfm B i ||| ufm B i) ∧ u' = u) (XB D ad cI cL cR) (gA 34 ad sz)) 0 0 (gA 34 ad sz) := by
  intro sz
  refine z_met (cc := cX4_changedFacts) (maxL := 1) (ret := (some .int)) (by decide) rfl (Nat.le_of_ble_eq_true rfl) ?_
  intro pq lq sq mq aq Qq bq hmq cq C hr hml hown hts hlocks hK hX hsz hQ
  subst hsz
  have hT4 : ∀ w ∈ wsX40, w.before aq sq = true := fun w h => hts w ((by decide +kernel : ∀ w ∈ wsX40, w ∈ wsX4_changedFacts) w h)
  refine z_sub (L' := [(0, .ref (ad i))]) [0] rfl ?_
  refine z_aload_n C dX4_changedFacts_0 0 rfl ?_
  refine z_get (q := i) C (T := TX4) (N := 11) (ci := 4) (own := RX4) (index := 22) (v := .int (u.1 i 7)) hT4 hown hK (by omega) (xF_r hi) rfl 7 (by decide) (hts (.fieldLink RX4 22 "TriggerAnalyzer$Rule" "setFacts" "I") (by decide +kernel)) (fun _ h9 => h9) rfl dX4_changedFacts_1 ?_
  refine z_topi (y := nI (sfm B i)) (xR_7 hR (by omega)) ?_
  refine z_aload_n C dX4_changedFacts_4 0 rfl ?_
  refine z_get (q := i) C (T := TX4) (N := 11) (ci := 4) (own := RX4) (index := 25) (v := .int (u.1 i 8)) hT4 hown hK (by omega) (xF_r hi) rfl 8 (by decide) (hts (.fieldLink RX4 25 "TriggerAnalyzer$Rule" "unsetFacts" "I") (by decide +kernel)) (fun _ h9 => h9) rfl dX4_changedFacts_5 ?_
  refine z_topi (y := nI (ufm B i)) (xR_8 hR (by omega)) ?_
  refine z_ior C dX4_changedFacts_8 ?_
  refine z_topi (y := nI ((sfm B i) ||| (ufm B i))) (fa_or (sfm B i) (ufm B i)) ?_
  exact z_iret C hr hlocks hQ u (⟨rfl, rfl⟩) (fun _ _ => rfl) dX4_changedFacts_9

set_option maxHeartbeats 4000000 in
set_option maxRecDepth 100000 in
theorem c_X4_conditionFacts (l : Launch) (D : va_G) (ad : Nat → Nat) (cI cL cR : ClassId) (hI : gI 34 ad) (u : xS) (n : Nat) (B : Nat → Nat → Nat) (hR : xR u n B) (i : Nat) (hi : i < 8) : ∀ sz, Met l yX4_conditionFacts wsX4_conditionFacts ({ frames := 0, cells := 0, slots := 0, locals := 0 }) (XP D ad cI cL cR u [.ref (ad i)] sz) (va_Qi (fun r u' => r = nI (B i 1 ||| B i 2) ∧ u' = u) (XB D ad cI cL cR) (gA 34 ad sz)) 0 0 (gA 34 ad sz) := by
  intro sz
  refine z_met (cc := cX4_conditionFacts) (maxL := 1) (ret := (some .int)) (by decide) rfl (Nat.le_of_ble_eq_true rfl) ?_
  intro pq lq sq mq aq Qq bq hmq cq C hr hml hown hts hlocks hK hX hsz hQ
  subst hsz
  have hT4 : ∀ w ∈ wsX40, w.before aq sq = true := fun w h => hts w ((by decide +kernel : ∀ w ∈ wsX40, w ∈ wsX4_conditionFacts) w h)
  refine z_sub (L' := [(0, .ref (ad i))]) [0] rfl ?_
  refine z_aload_n C dX4_conditionFacts_0 0 rfl ?_
  refine z_get (q := i) C (T := TX4) (N := 11) (ci := 4) (own := RX4) (index := 41) (v := .int (u.1 i 3)) hT4 hown hK (by omega) (xF_r hi) rfl 3 (by decide) (hts (.fieldLink RX4 41 "TriggerAnalyzer$Rule" "must" "I") (by decide +kernel)) (fun _ h9 => h9) rfl dX4_conditionFacts_1 ?_
  refine z_topi (y := nI (B i 1)) (xR_3 hR (by omega)) ?_
  refine z_aload_n C dX4_conditionFacts_4 0 rfl ?_
  refine z_get (q := i) C (T := TX4) (N := 11) (ci := 4) (own := RX4) (index := 44) (v := .int (u.1 i 4)) hT4 hown hK (by omega) (xF_r hi) rfl 4 (by decide) (hts (.fieldLink RX4 44 "TriggerAnalyzer$Rule" "mustNot" "I") (by decide +kernel)) (fun _ h9 => h9) rfl dX4_conditionFacts_5 ?_
  refine z_topi (y := nI (B i 2)) (xR_4 hR (by omega)) ?_
  refine z_ior C dX4_conditionFacts_8 ?_
  refine z_topi (y := nI ((B i 1) ||| (B i 2))) (fa_or (B i 1) (B i 2)) ?_
  exact z_iret C hr hlocks hQ u (⟨rfl, rfl⟩) (fun _ _ => rfl) dX4_conditionFacts_9

set_option maxHeartbeats 4000000 in
set_option maxRecDepth 100000 in
theorem c_X4_addedTo (l : Launch) (D : va_G) (ad : Nat → Nat) (cI cL cR : ClassId) (hI : gI 34 ad) (u : xS) (n : Nat) (B : Nat → Nat → Nat) (hR : xR u n B) (i : Nat) (hi : i < 8) (s9 : Int64) : ∀ sz, Met l yX4_addedTo wsX4_addedTo ({ frames := 1, cells := 0, slots := 0, locals := 21 }) (XP D ad cI cL cR u [.ref (ad i), .long (s9)] sz) (va_Ql (fun r u' => r = drul B i s9 ∧ u' = u) (XB D ad cI cL cR) (gA 34 ad sz)) 0 0 (gA 34 ad sz) := by
  intro sz
  refine z_met (cc := cX4_addedTo) (maxL := 6) (ret := (some .long)) (by decide) rfl (Nat.le_of_ble_eq_true rfl) ?_
  intro pq lq sq mq aq Qq bq hmq cq C hr hml hown hts hlocks hK hX hsz hQ
  subst hsz
  have hT4 : ∀ w ∈ wsX40, w.before aq sq = true := fun w h => hts w ((by decide +kernel : ∀ w ∈ wsX40, w ∈ wsX4_addedTo) w h)
  refine z_sub (L' := [(0, .ref (ad i)), (1, .long (s9))]) [0, 1] rfl ?_
  have g4 : B i 4 ≤ 4 := gB_4 hR.1 hi
  have g3 : B i 3 ≤ 1 := gB_3 hR.1 hi
  refine z_lload_n C dX4_addedTo_0 1 rfl ?_
  refine z_ldc2 (v := (31)) C hown (hts (.constantLong RX4 47 (31)) (by decide +kernel)) dX4_addedTo_1 ?_
  refine z_lmul C dX4_addedTo_4 ?_
  refine z_aload_n C dX4_addedTo_5 0 rfl ?_
  refine z_get (q := i) C (T := TX4) (N := 11) (ci := 4) (own := RX4) (index := 49) (v := .int (u.1 i 2)) hT4 hown hK (by omega) (xF_r hi) rfl 2 (by decide) (hts (.fieldLink RX4 49 "TriggerAnalyzer$Rule" "event" "I") (by decide +kernel)) (fun _ h9 => h9) rfl dX4_addedTo_6 ?_
  refine z_topi (y := nI (B i 0)) (xR_2 hR (by omega)) ?_
  refine z_i2l C rfl dX4_addedTo_9 ?_
  refine z_ladd C dX4_addedTo_10 ?_
  refine z_lstore_n (L' := [(3, .long (((s9) * (31)) + ((nI (B i 0) : Int32).toInt64))), (0, .ref (ad i)), (1, .long (s9))]) C dX4_addedTo_11 (by decide) rfl ?_
  refine z_lload_n C dX4_addedTo_12 0 rfl ?_
  refine z_ldc2 (v := (31)) C hown (hts (.constantLong RX4 47 (31)) (by decide +kernel)) dX4_addedTo_13 ?_
  refine z_lmul C dX4_addedTo_16 ?_
  refine z_aload_n C dX4_addedTo_17 1 rfl ?_
  refine z_get (q := i) C (T := TX4) (N := 11) (ci := 4) (own := RX4) (index := 41) (v := .int (u.1 i 3)) hT4 hown hK (by omega) (xF_r hi) rfl 3 (by decide) (hts (.fieldLink RX4 41 "TriggerAnalyzer$Rule" "must" "I") (by decide +kernel)) (fun _ h9 => h9) rfl dX4_addedTo_18 ?_
  refine z_topi (y := nI (B i 1)) (xR_3 hR (by omega)) ?_
  refine z_i2l C rfl dX4_addedTo_21 ?_
  refine z_ladd C dX4_addedTo_22 ?_
  refine z_lstore_n (L' := [(3, .long (((((s9) * (31)) + ((nI (B i 0) : Int32).toInt64)) * (31)) + ((nI (B i 1) : Int32).toInt64))), (0, .ref (ad i)), (1, .long (s9))]) C dX4_addedTo_23 (by decide) rfl ?_
  refine z_lload_n C dX4_addedTo_24 0 rfl ?_
  refine z_ldc2 (v := (31)) C hown (hts (.constantLong RX4 47 (31)) (by decide +kernel)) dX4_addedTo_25 ?_
  refine z_lmul C dX4_addedTo_28 ?_
  refine z_aload_n C dX4_addedTo_29 1 rfl ?_
  refine z_get (q := i) C (T := TX4) (N := 11) (ci := 4) (own := RX4) (index := 44) (v := .int (u.1 i 4)) hT4 hown hK (by omega) (xF_r hi) rfl 4 (by decide) (hts (.fieldLink RX4 44 "TriggerAnalyzer$Rule" "mustNot" "I") (by decide +kernel)) (fun _ h9 => h9) rfl dX4_addedTo_30 ?_
  refine z_topi (y := nI (B i 2)) (xR_4 hR (by omega)) ?_
  refine z_i2l C rfl dX4_addedTo_33 ?_
  refine z_ladd C dX4_addedTo_34 ?_
  refine z_lstore_n (L' := [(3, .long (((((((s9) * (31)) + ((nI (B i 0) : Int32).toInt64)) * (31)) + ((nI (B i 1) : Int32).toInt64)) * (31)) + ((nI (B i 2) : Int32).toInt64))), (0, .ref (ad i)), (1, .long (s9))]) C dX4_addedTo_35 (by decide) rfl ?_
  refine z_lload_n C dX4_addedTo_36 0 rfl ?_
  refine z_ldc2 (v := (31)) C hown (hts (.constantLong RX4 47 (31)) (by decide +kernel)) dX4_addedTo_37 ?_
  refine z_lmul C dX4_addedTo_40 ?_
  refine z_aload_n C dX4_addedTo_41 1 rfl ?_
  refine z_get (q := i) C (T := TX4) (N := 11) (ci := 4) (own := RX4) (index := 19) (v := .int (u.1 i 6)) hT4 hown hK (by omega) (xF_r hi) rfl 6 (by decide) (hts (.fieldLink RX4 19 "TriggerAnalyzer$Rule" "actionCount" "I") (by decide +kernel)) (fun _ h9 => h9) rfl dX4_addedTo_42 ?_
  refine z_topi (y := nI (B i 4)) (xR_6 hR (by omega)) ?_
  refine z_i2l C rfl dX4_addedTo_45 ?_
  refine z_ladd C dX4_addedTo_46 ?_
  refine z_lstore_n (L' := [(3, .long (((((((((s9) * (31)) + ((nI (B i 0) : Int32).toInt64)) * (31)) + ((nI (B i 1) : Int32).toInt64)) * (31)) + ((nI (B i 2) : Int32).toInt64)) * (31)) + ((nI (B i 4) : Int32).toInt64))), (0, .ref (ad i)), (1, .long (s9))]) C dX4_addedTo_47 (by decide) rfl ?_
  refine z_iconst (v := nI 0) C (by decide) dX4_addedTo_48 ?_
  refine z_istore (L' := [(5, .int (nI 0)), (3, .long (((((((((s9) * (31)) + ((nI (B i 0) : Int32).toInt64)) * (31)) + ((nI (B i 1) : Int32).toInt64)) * (31)) + ((nI (B i 2) : Int32).toInt64)) * (31)) + ((nI (B i 4) : Int32).toInt64))), (0, .ref (ad i)), (1, .long (s9))]) C dX4_addedTo_49 (by decide) rfl ?_
  have loop51 : ∀ (d51 : Nat) (k : Nat) (d9 : Int64), B i 4 - k < d51 → (k ≤ B i 4) → (d9 = dact B i ((((s9 * 31 + (nI (B i 0)).toInt64) * 31 + (nI (B i 1)).toInt64) * 31 + (nI (B i 2)).toInt64) * 31 + (nI (B i 4)).toInt64) k) → ZZ pq l lq { frames := 1, cells := 0, slots := 0, locals := 21 } sq mq aq bq hmq cq D vwCl 34 ad 6 0 0 Qq (xF ad cI cL cR u) [(0, .ref (ad i)), (3, .long (d9)), (5, .int (nI k))] 51 [] := by
    intro d51
    induction d51 with
    | zero => intro k d9 hz; exact absurd hz (Nat.not_lt_zero _)
    | succ d51 ih51 =>
      intro k d9 hz51 hk hd9
      refine z_iload C dX4_addedTo_51 2 rfl ?_
      refine z_aload_n C dX4_addedTo_53 0 rfl ?_
      refine z_get (q := i) C (T := TX4) (N := 11) (ci := 4) (own := RX4) (index := 19) (v := .int (u.1 i 6)) hT4 hown hK (by omega) (xF_r hi) rfl 6 (by decide) (hts (.fieldLink RX4 19 "TriggerAnalyzer$Rule" "actionCount" "I") (by decide +kernel)) (fun _ h9 => h9) rfl dX4_addedTo_54 ?_
      refine z_topi (y := nI (B i 4)) (xR_6 hR (by omega)) ?_
      refine z_icmp_ge (tgt := 80) C dX4_addedTo_57 (by decide) (fun zc57 => ?_) (fun zc57 => ?_)
      · skip
        have zn57 := zge_t (a := k) (b := B i 4) (by omega) (by omega) zc57
        refine z_lload_n C dX4_addedTo_80 1 rfl ?_
        refine z_ldc2 (v := (31)) C hown (hts (.constantLong RX4 47 (31)) (by decide +kernel)) dX4_addedTo_81 ?_
        refine z_lmul C dX4_addedTo_84 ?_
        refine z_aload_n C dX4_addedTo_85 0 rfl ?_
        refine z_get (q := i) C (T := TX4) (N := 11) (ci := 4) (own := RX4) (index := 55) (v := .int (u.1 i 5)) hT4 hown hK (by omega) (xF_r hi) rfl 5 (by decide) (hts (.fieldLink RX4 55 "TriggerAnalyzer$Rule" "on" "Z") (by decide +kernel)) (fun _ h9 => h9) rfl dX4_addedTo_86 ?_
        refine z_topi (y := nI (B i 3)) (xR_5 hR (by omega)) ?_
        refine z_if_eq (tgt := 96) C dX4_addedTo_89 (by decide) (fun zc89 => ?_) (fun zc89 => ?_)
        · skip
          have zn89 := z0_t (by omega) zc89
          refine z_iconst (v := nI 0) C (by decide) dX4_addedTo_96 ?_
          refine z_topi (y := nI (B i 3)) (by rw [zn89]) ?_
          refine z_i2l C rfl dX4_addedTo_97 ?_
          refine z_ladd C dX4_addedTo_98 ?_
          refine z_lstore_n (L' := [(3, .long (((d9) * (31)) + ((nI (B i 3) : Int32).toInt64))), (0, .ref (ad i)), (5, .int (nI k))]) C dX4_addedTo_99 (by decide) rfl ?_
          refine z_lload_n C dX4_addedTo_100 0 rfl ?_
          refine z_ldc2 (v := (31)) C hown (hts (.constantLong RX4 47 (31)) (by decide +kernel)) dX4_addedTo_101 ?_
          refine z_lmul C dX4_addedTo_104 ?_
          refine z_aload_n C dX4_addedTo_105 1 rfl ?_
          refine z_get (q := i) C (T := TX4) (N := 11) (ci := 4) (own := RX4) (index := 28) (v := .int (u.1 i 9)) hT4 hown hK (by omega) (xF_r hi) rfl 9 (by decide) (hts (.fieldLink RX4 28 "TriggerAnalyzer$Rule" "below" "I") (by decide +kernel)) (fun _ h9 => h9) rfl dX4_addedTo_106 ?_
          refine z_topi (y := nI (B i 5)) (xR_9 hR (by omega)) ?_
          refine z_i2l C rfl dX4_addedTo_109 ?_
          refine z_ladd C dX4_addedTo_110 ?_
          exact z_lret C hr hlocks hQ u (⟨by rw [hd9, show k = B i 4 by omega]; rfl, rfl⟩) (fun _ _ => rfl) dX4_addedTo_111
        · skip
          have zn89 := z0_f zc89
          refine z_iconst (v := nI 1) C (by decide) dX4_addedTo_92 ?_
          refine z_goto (tgt := 97) C dX4_addedTo_93 (by decide) ?_
          refine z_topi (y := nI (B i 3)) (by rw [show B i 3 = 1 by omega]) ?_
          refine z_i2l C rfl dX4_addedTo_97 ?_
          refine z_ladd C dX4_addedTo_98 ?_
          refine z_lstore_n (L' := [(3, .long (((d9) * (31)) + ((nI (B i 3) : Int32).toInt64))), (0, .ref (ad i)), (5, .int (nI k))]) C dX4_addedTo_99 (by decide) rfl ?_
          refine z_lload_n C dX4_addedTo_100 0 rfl ?_
          refine z_ldc2 (v := (31)) C hown (hts (.constantLong RX4 47 (31)) (by decide +kernel)) dX4_addedTo_101 ?_
          refine z_lmul C dX4_addedTo_104 ?_
          refine z_aload_n C dX4_addedTo_105 1 rfl ?_
          refine z_get (q := i) C (T := TX4) (N := 11) (ci := 4) (own := RX4) (index := 28) (v := .int (u.1 i 9)) hT4 hown hK (by omega) (xF_r hi) rfl 9 (by decide) (hts (.fieldLink RX4 28 "TriggerAnalyzer$Rule" "below" "I") (by decide +kernel)) (fun _ h9 => h9) rfl dX4_addedTo_106 ?_
          refine z_topi (y := nI (B i 5)) (xR_9 hR (by omega)) ?_
          refine z_i2l C rfl dX4_addedTo_109 ?_
          refine z_ladd C dX4_addedTo_110 ?_
          exact z_lret C hr hlocks hQ u (⟨by rw [hd9, show k = B i 4 by omega]; rfl, rfl⟩) (fun _ _ => rfl) dX4_addedTo_111
      · skip
        have zn57 := zge_f (a := k) (b := B i 4) (by omega) (by omega) zc57
        refine z_lload_n C dX4_addedTo_60 1 rfl ?_
        refine z_ldc2 (v := (31)) C hown (hts (.constantLong RX4 47 (31)) (by decide +kernel)) dX4_addedTo_61 ?_
        refine z_lmul C dX4_addedTo_64 ?_
        refine z_aload_n C dX4_addedTo_65 0 rfl ?_
        refine z_iload C dX4_addedTo_66 2 rfl ?_
        refine z_callVi xX_ok C hml hown hts hK hX (c_X4_actionAt l D ad cI cL cR hI u n B hR i hi k zn57) (cwV 1 hts gX4_addedTo_X4_actionAt rfl rfl rfl (by decide +kernel) ⟨Nat.le_of_ble_eq_true rfl, Nat.le_of_ble_eq_true rfl⟩) (by omega) (ci := 4) (xF_r hi) rfl rfl (st := [.long ((d9) * (31))]) rfl (Nat.le_of_ble_eq_true rfl) dX4_addedTo_68 ⟨Nat.le_of_ble_eq_true rfl, Nat.le_of_ble_eq_true rfl⟩ (fun r68 u68 h68 => ?_)
        obtain ⟨zr68, zu68⟩ := h68
        subst r68
        subst u68
        refine z_i2l C rfl dX4_addedTo_71 ?_
        refine z_ladd C dX4_addedTo_72 ?_
        refine z_lstore_n (L' := [(3, .long (((d9) * (31)) + ((nI (B i (6 + k)) : Int32).toInt64))), (0, .ref (ad i)), (5, .int (nI k))]) C dX4_addedTo_73 (by decide) rfl ?_
        refine z_iinc (L' := [(5, .int (nI (k + 1))), (3, .long (((d9) * (31)) + ((nI (B i (6 + k)) : Int32).toInt64))), (0, .ref (ad i))]) C dX4_addedTo_74 2 rfl (nI_1 k) (by decide) rfl ?_
        refine z_goto (tgt := 51) C dX4_addedTo_77 (by decide) ?_
        refine z_sub (L' := [(0, .ref (ad i)), (3, .long (((d9) * (31)) + ((nI (B i (6 + k)) : Int32).toInt64))), (5, .int (nI (k + 1)))]) [2, 1, 0] rfl ?_
        exact ih51 (k + 1) (((d9) * (31)) + ((nI (B i (6 + k)) : Int32).toInt64)) (by omega) (by omega) (by rw [hd9]; rfl)
  refine z_sub (L' := [(0, .ref (ad i)), (3, .long (((((((((s9) * (31)) + ((nI (B i 0) : Int32).toInt64)) * (31)) + ((nI (B i 1) : Int32).toInt64)) * (31)) + ((nI (B i 2) : Int32).toInt64)) * (31)) + ((nI (B i 4) : Int32).toInt64))), (5, .int (nI 0))]) [2, 1, 0] rfl ?_
  exact loop51 (B i 4 + 1) 0 (((((((((s9) * (31)) + ((nI (B i 0) : Int32).toInt64)) * (31)) + ((nI (B i 1) : Int32).toInt64)) * (31)) + ((nI (B i 2) : Int32).toInt64)) * (31)) + ((nI (B i 4) : Int32).toInt64)) (by omega) (by omega) rfl
end
section
set_option maxHeartbeats 4000000 in
set_option maxRecDepth 100000 in
theorem c_X5_size (l : Launch) (D : va_G) (ad : Nat → Nat) (cI cL cR : ClassId) (hI : gI 34 ad) (u : xS) (n : Nat) (B : Nat → Nat → Nat) (hR : xR u n B) : ∀ sz, Met l yX5_size wsX5_size ({ frames := 0, cells := 0, slots := 0, locals := 0 }) (XP D ad cI cL cR u [.ref (ad 16)] sz) (va_Qi (fun r u' => r = nI n ∧ u' = u) (XB D ad cI cL cR) (gA 34 ad sz)) 0 0 (gA 34 ad sz) := by
  intro sz
  refine z_met (cc := cX5_size) (maxL := 1) (ret := (some .int)) (by decide) rfl (Nat.le_of_ble_eq_true rfl) ?_
  intro pq lq sq mq aq Qq bq hmq cq C hr hml hown hts hlocks hK hX hsz hQ
  subst hsz
  have hT5 : ∀ w ∈ wsX50, w.before aq sq = true := fun w h => hts w ((by decide +kernel : ∀ w ∈ wsX50, w ∈ wsX5_size) w h)
  refine z_sub (L' := [(0, .ref (ad 16))]) [0] rfl ?_
  have hn8 : n ≤ 8 := gB_8 hR.1
  refine z_aload_n C dX5_size_0 0 rfl ?_
  refine z_get (q := 16) C (T := TX5) (N := 3) (ci := 5) (own := RX5) (index := 24) (v := .int (u.1 16 2)) hT5 hown hK (by decide) rfl rfl 2 (by decide) (hts (.fieldLink RX5 24 "TriggerAnalyzer$RuleBook" "count" "I") (by decide +kernel)) (fun _ h9 => h9) rfl dX5_size_1 ?_
  refine z_topi (y := nI n) (xR_n hR) ?_
  exact z_iret C hr hlocks hQ u (⟨rfl, rfl⟩) (fun _ _ => rfl) dX5_size_4

set_option maxHeartbeats 4000000 in
set_option maxRecDepth 100000 in
theorem c_X5_isFull (l : Launch) (D : va_G) (ad : Nat → Nat) (cI cL cR : ClassId) (hI : gI 34 ad) (u : xS) (n : Nat) (B : Nat → Nat → Nat) (hR : xR u n B) : ∀ sz, Met l yX5_isFull wsX5_isFull ({ frames := 0, cells := 0, slots := 0, locals := 0 }) (XP D ad cI cL cR u [.ref (ad 16)] sz) (va_Qi (fun r u' => r = (if 8 ≤ n then 1 else 0) ∧ u' = u) (XB D ad cI cL cR) (gA 34 ad sz)) 0 0 (gA 34 ad sz) := by
  intro sz
  refine z_met (cc := cX5_isFull) (maxL := 1) (ret := (some .boolean)) (by decide) rfl (Nat.le_of_ble_eq_true rfl) ?_
  intro pq lq sq mq aq Qq bq hmq cq C hr hml hown hts hlocks hK hX hsz hQ
  subst hsz
  have hT5 : ∀ w ∈ wsX50, w.before aq sq = true := fun w h => hts w ((by decide +kernel : ∀ w ∈ wsX50, w ∈ wsX5_isFull) w h)
  refine z_sub (L' := [(0, .ref (ad 16))]) [0] rfl ?_
  have hn8 : n ≤ 8 := gB_8 hR.1
  refine z_aload_n C dX5_isFull_0 0 rfl ?_
  refine z_get (q := 16) C (T := TX5) (N := 3) (ci := 5) (own := RX5) (index := 24) (v := .int (u.1 16 2)) hT5 hown hK (by decide) rfl rfl 2 (by decide) (hts (.fieldLink RX5 24 "TriggerAnalyzer$RuleBook" "count" "I") (by decide +kernel)) (fun _ h9 => h9) rfl dX5_isFull_1 ?_
  refine z_topi (y := nI n) (xR_n hR) ?_
  refine z_aload_n C dX5_isFull_4 0 rfl ?_
  refine z_get (q := 16) C (T := TX5) (N := 3) (ci := 5) (own := RX5) (index := 11) (v := .ref (ad 17)) hT5 hown hK (by decide) rfl rfl 0 (by decide) (hts (.fieldLink RX5 11 "TriggerAnalyzer$RuleBook" "rules" "[LTriggerAnalyzer$Rule;") (by decide +kernel)) (fun _ h9 => h9) rfl dX5_isFull_5 ?_
  refine z_alen (q := 17) (len := 8) C hK (by decide) rfl 2 rfl (v := nI 8) (by decide) dX5_isFull_8 ?_
  refine z_icmp_lt (tgt := 16) C dX5_isFull_9 (by decide) (fun zc9 => ?_) (fun zc9 => ?_)
  · skip
    have zn9 := zlt_t (a := n) (b := 8) (by omega) (by omega) zc9
    refine z_iconst (v := nI 0) C (by decide) dX5_isFull_16 ?_
    exact z_zret C hr hlocks rfl hQ u (⟨by rw [if_neg (by omega)]; rfl, rfl⟩) (fun _ _ => rfl) dX5_isFull_17
  · skip
    have zn9 := zlt_f (a := n) (b := 8) (by omega) (by omega) zc9
    refine z_iconst (v := nI 1) C (by decide) dX5_isFull_12 ?_
    refine z_goto (tgt := 17) C dX5_isFull_13 (by decide) ?_
    exact z_zret C hr hlocks rfl hQ u (⟨by rw [if_pos (by omega)]; rfl, rfl⟩) (fun _ _ => rfl) dX5_isFull_17

set_option maxHeartbeats 4000000 in
set_option maxRecDepth 100000 in
theorem c_X5_ruleOrNull_vh (l : Launch) (D : va_G) (ad : Nat → Nat) (cI cL cR : ClassId) (hI : gI 34 ad) (u : xS) (n : Nat) (B : Nat → Nat → Nat) (hR : xR u n B) (k : Nat) (hk : k < n) : ∀ sz, Met l yX5_ruleOrNull wsX5_ruleOrNull ({ frames := 0, cells := 0, slots := 0, locals := 0 }) (XP D ad cI cL cR u [.ref (ad 16), .int (nI k)] sz) (va_Qq (fun r u' => r = (some (ad k)) ∧ u' = u) (XB D ad cI cL cR) (gA 34 ad sz)) 0 0 (gA 34 ad sz) := by
  intro sz
  refine z_met (cc := cX5_ruleOrNull) (maxL := 2) (ret := (some (.object "TriggerAnalyzer$Rule"))) (by decide) rfl (Nat.le_of_ble_eq_true rfl) ?_
  intro pq lq sq mq aq Qq bq hmq cq C hr hml hown hts hlocks hK hX hsz hQ
  subst hsz
  have hT5 : ∀ w ∈ wsX50, w.before aq sq = true := fun w h => hts w ((by decide +kernel : ∀ w ∈ wsX50, w ∈ wsX5_ruleOrNull) w h)
  refine z_sub (L' := [(0, .ref (ad 16)), (1, .int (nI k))]) [0, 1] rfl ?_
  have hn8 : n ≤ 8 := gB_8 hR.1
  have hk8 : k < 8 := by omega
  refine z_iload_n C dX5_ruleOrNull_0 1 rfl ?_
  refine z_if_lt (tgt := 30) C dX5_ruleOrNull_1 (by decide) (fun zc1 => ?_) (fun zc1 => ?_)
  · skip
    exact (zneg (by omega) zc1).elim
  · skip
    refine z_iload_n C dX5_ruleOrNull_4 1 rfl ?_
    refine z_aload_n C dX5_ruleOrNull_5 0 rfl ?_
    refine z_get (q := 16) C (T := TX5) (N := 3) (ci := 5) (own := RX5) (index := 24) (v := .int (u.1 16 2)) hT5 hown hK (by decide) rfl rfl 2 (by decide) (hts (.fieldLink RX5 24 "TriggerAnalyzer$RuleBook" "count" "I") (by decide +kernel)) (fun _ h9 => h9) rfl dX5_ruleOrNull_6 ?_
    refine z_topi (y := nI n) (xR_n hR) ?_
    refine z_icmp_ge (tgt := 30) C dX5_ruleOrNull_9 (by decide) (fun zc9 => ?_) (fun zc9 => ?_)
    · skip
      have zn9 := zge_t (a := k) (b := n) (by omega) (by omega) zc9
      exact False.elim (by omega)
    · skip
      have zn9 := zge_f (a := k) (b := n) (by omega) (by omega) zc9
      refine z_iload_n C dX5_ruleOrNull_12 1 rfl ?_
      refine z_aload_n C dX5_ruleOrNull_13 0 rfl ?_
      refine z_get (q := 16) C (T := TX5) (N := 3) (ci := 5) (own := RX5) (index := 11) (v := .ref (ad 17)) hT5 hown hK (by decide) rfl rfl 0 (by decide) (hts (.fieldLink RX5 11 "TriggerAnalyzer$RuleBook" "rules" "[LTriggerAnalyzer$Rule;") (by decide +kernel)) (fun _ h9 => h9) rfl dX5_ruleOrNull_14 ?_
      refine z_alen (q := 17) (len := 8) C hK (by decide) rfl 2 rfl (v := nI 8) (by decide) dX5_ruleOrNull_17 ?_
      refine z_icmp_ge (tgt := 30) C dX5_ruleOrNull_18 (by decide) (fun zc18 => ?_) (fun zc18 => ?_)
      · skip
        have zn18 := zge_t (a := k) (b := 8) (by omega) (by omega) zc18
        exact False.elim (by omega)
      · skip
        have zn18 := zge_f (a := k) (b := 8) (by omega) (by omega) zc18
        refine z_aload_n C dX5_ruleOrNull_21 0 rfl ?_
        refine z_get (q := 16) C (T := TX5) (N := 3) (ci := 5) (own := RX5) (index := 11) (v := .ref (ad 17)) hT5 hown hK (by decide) rfl rfl 0 (by decide) (hts (.fieldLink RX5 11 "TriggerAnalyzer$RuleBook" "rules" "[LTriggerAnalyzer$Rule;") (by decide +kernel)) (fun _ h9 => h9) rfl dX5_ruleOrNull_22 ?_
        refine z_iload_n C dX5_ruleOrNull_25 1 rfl ?_
        refine z_aald (q := 17) (len := 8) (k := k) C hK (by decide) rfl 2 rfl (rfl) (by omega) (by decide) (a := ad k) rfl dX5_ruleOrNull_26 ?_
        refine z_goto (tgt := 31) C dX5_ruleOrNull_27 (by decide) ?_
        exact z_aret C hr ⟨_, rfl⟩ hlocks (some (ad k)) rfl hQ u (⟨rfl, rfl⟩) (fun _ _ => rfl) dX5_ruleOrNull_31

set_option maxHeartbeats 4000000 in
set_option maxRecDepth 100000 in
theorem c_X5_ruleOrNull_vn (l : Launch) (D : va_G) (ad : Nat → Nat) (cI cL cR : ClassId) (hI : gI 34 ad) (u : xS) (n : Nat) (B : Nat → Nat → Nat) (hR : xR u n B) (x : Int32) (hx : x < 0) : ∀ sz, Met l yX5_ruleOrNull wsX5_ruleOrNull ({ frames := 0, cells := 0, slots := 0, locals := 0 }) (XP D ad cI cL cR u [.ref (ad 16), .int (x)] sz) (va_Qq (fun r u' => r = none ∧ u' = u) (XB D ad cI cL cR) (gA 34 ad sz)) 0 0 (gA 34 ad sz) := by
  intro sz
  refine z_met (cc := cX5_ruleOrNull) (maxL := 2) (ret := (some (.object "TriggerAnalyzer$Rule"))) (by decide) rfl (Nat.le_of_ble_eq_true rfl) ?_
  intro pq lq sq mq aq Qq bq hmq cq C hr hml hown hts hlocks hK hX hsz hQ
  subst hsz
  refine z_sub (L' := [(0, .ref (ad 16)), (1, .int (x))]) [0, 1] rfl ?_
  have hn8 : n ≤ 8 := gB_8 hR.1
  refine z_iload_n C dX5_ruleOrNull_0 1 rfl ?_
  refine z_if_lt (tgt := 30) C dX5_ruleOrNull_1 (by decide) (fun zc1 => ?_) (fun zc1 => ?_)
  · skip
    refine z_null C dX5_ruleOrNull_30 ?_
    exact z_aret C hr ⟨_, rfl⟩ hlocks none rfl hQ u (⟨rfl, rfl⟩) (fun _ _ => rfl) dX5_ruleOrNull_31
  · skip
    exact False.elim (zc1 hx)

set_option maxHeartbeats 4000000 in
set_option maxRecDepth 100000 in
theorem c_X5_ruleOrNull_vb (l : Launch) (D : va_G) (ad : Nat → Nat) (cI cL cR : ClassId) (hI : gI 34 ad) (u : xS) (n : Nat) (B : Nat → Nat → Nat) (hR : xR u n B) (k : Nat) (hk : n ≤ k) (hk2 : k < 2 ^ 31) : ∀ sz, Met l yX5_ruleOrNull wsX5_ruleOrNull ({ frames := 0, cells := 0, slots := 0, locals := 0 }) (XP D ad cI cL cR u [.ref (ad 16), .int (nI k)] sz) (va_Qq (fun r u' => r = none ∧ u' = u) (XB D ad cI cL cR) (gA 34 ad sz)) 0 0 (gA 34 ad sz) := by
  intro sz
  refine z_met (cc := cX5_ruleOrNull) (maxL := 2) (ret := (some (.object "TriggerAnalyzer$Rule"))) (by decide) rfl (Nat.le_of_ble_eq_true rfl) ?_
  intro pq lq sq mq aq Qq bq hmq cq C hr hml hown hts hlocks hK hX hsz hQ
  subst hsz
  have hT5 : ∀ w ∈ wsX50, w.before aq sq = true := fun w h => hts w ((by decide +kernel : ∀ w ∈ wsX50, w ∈ wsX5_ruleOrNull) w h)
  refine z_sub (L' := [(0, .ref (ad 16)), (1, .int (nI k))]) [0, 1] rfl ?_
  have hn8 : n ≤ 8 := gB_8 hR.1
  refine z_iload_n C dX5_ruleOrNull_0 1 rfl ?_
  refine z_if_lt (tgt := 30) C dX5_ruleOrNull_1 (by decide) (fun zc1 => ?_) (fun zc1 => ?_)
  · skip
    exact (zneg (by omega) zc1).elim
  · skip
    refine z_iload_n C dX5_ruleOrNull_4 1 rfl ?_
    refine z_aload_n C dX5_ruleOrNull_5 0 rfl ?_
    refine z_get (q := 16) C (T := TX5) (N := 3) (ci := 5) (own := RX5) (index := 24) (v := .int (u.1 16 2)) hT5 hown hK (by decide) rfl rfl 2 (by decide) (hts (.fieldLink RX5 24 "TriggerAnalyzer$RuleBook" "count" "I") (by decide +kernel)) (fun _ h9 => h9) rfl dX5_ruleOrNull_6 ?_
    refine z_topi (y := nI n) (xR_n hR) ?_
    refine z_icmp_ge (tgt := 30) C dX5_ruleOrNull_9 (by decide) (fun zc9 => ?_) (fun zc9 => ?_)
    · skip
      have zn9 := zge_t (a := k) (b := n) (by omega) (by omega) zc9
      refine z_null C dX5_ruleOrNull_30 ?_
      exact z_aret C hr ⟨_, rfl⟩ hlocks none rfl hQ u (⟨rfl, rfl⟩) (fun _ _ => rfl) dX5_ruleOrNull_31
    · skip
      have zn9 := zge_f (a := k) (b := n) (by omega) (by omega) zc9
      exact False.elim (by omega)

set_option maxHeartbeats 4000000 in
set_option maxRecDepth 100000 in
theorem c_X5_listenersTo (l : Launch) (D : va_G) (ad : Nat → Nat) (cI cL cR : ClassId) (hI : gI 34 ad) (u : xS) (n : Nat) (B : Nat → Nat → Nat) (hR : xR u n B) (e9 : Nat) (he : e9 < 12) : ∀ sz, Met l yX5_listenersTo wsX5_listenersTo ({ frames := 0, cells := 0, slots := 0, locals := 0 }) (XP D ad cI cL cR u [.ref (ad 16), .int (nI e9)] sz) (va_Qi (fun r u' => r = nI (lis B e9) ∧ u' = u) (XB D ad cI cL cR) (gA 34 ad sz)) 0 0 (gA 34 ad sz) := by
  intro sz
  refine z_met (cc := cX5_listenersTo) (maxL := 2) (ret := (some .int)) (by decide) rfl (Nat.le_of_ble_eq_true rfl) ?_
  intro pq lq sq mq aq Qq bq hmq cq C hr hml hown hts hlocks hK hX hsz hQ
  subst hsz
  have hT5 : ∀ w ∈ wsX50, w.before aq sq = true := fun w h => hts w ((by decide +kernel : ∀ w ∈ wsX50, w ∈ wsX5_listenersTo) w h)
  refine z_sub (L' := [(0, .ref (ad 16)), (1, .int (nI e9))]) [0, 1] rfl ?_
  refine z_iload_n C dX5_listenersTo_0 1 rfl ?_
  refine z_if_lt (tgt := 22) C dX5_listenersTo_1 (by decide) (fun zc1 => ?_) (fun zc1 => ?_)
  · skip
    exact (zneg (by omega) zc1).elim
  · skip
    refine z_iload_n C dX5_listenersTo_4 1 rfl ?_
    refine z_aload_n C dX5_listenersTo_5 0 rfl ?_
    refine z_get (q := 16) C (T := TX5) (N := 3) (ci := 5) (own := RX5) (index := 17) (v := .ref (ad 18)) hT5 hown hK (by decide) rfl rfl 1 (by decide) (hts (.fieldLink RX5 17 "TriggerAnalyzer$RuleBook" "listeners" "[I") (by decide +kernel)) (fun _ h9 => h9) rfl dX5_listenersTo_6 ?_
    refine z_alen (q := 18) (len := 12) C hK (by decide) rfl 0 rfl (v := nI 12) (by decide) dX5_listenersTo_9 ?_
    refine z_icmp_ge (tgt := 22) C dX5_listenersTo_10 (by decide) (fun zc10 => ?_) (fun zc10 => ?_)
    · skip
      have zn10 := zge_t (a := e9) (b := 12) (by omega) (by omega) zc10
      exact False.elim (by omega)
    · skip
      have zn10 := zge_f (a := e9) (b := 12) (by omega) (by omega) zc10
      refine z_aload_n C dX5_listenersTo_13 0 rfl ?_
      refine z_get (q := 16) C (T := TX5) (N := 3) (ci := 5) (own := RX5) (index := 17) (v := .ref (ad 18)) hT5 hown hK (by decide) rfl rfl 1 (by decide) (hts (.fieldLink RX5 17 "TriggerAnalyzer$RuleBook" "listeners" "[I") (by decide +kernel)) (fun _ h9 => h9) rfl dX5_listenersTo_14 ?_
      refine z_iload_n C dX5_listenersTo_17 1 rfl ?_
      refine z_iald (q := 18) (len := 12) (k := e9) C hK (by decide) rfl 0 rfl (rfl) (by omega) (by decide) dX5_listenersTo_18 ?_
      refine z_topi (y := nI (lis B e9)) (xR_l hR he) ?_
      refine z_goto (tgt := 23) C dX5_listenersTo_19 (by decide) ?_
      exact z_iret C hr hlocks hQ u (⟨rfl, rfl⟩) (fun _ _ => rfl) dX5_listenersTo_23

set_option maxHeartbeats 4000000 in
set_option maxRecDepth 100000 in
theorem c_X5_switchRule_v1 (l : Launch) (D : va_G) (ad : Nat → Nat) (cI cL cR : ClassId) (hI : gI 34 ad) (u : xS) (i : Nat) (hi : i < 8) (e9 : Nat) (he : e9 < 12) (h2 : u.1 i 2 = nI e9) : ∀ sz, Met l yX5_switchRule wsX5_switchRule ({ frames := 0, cells := 0, slots := 0, locals := 0 }) (XP D ad cI cL cR u [.ref (ad 16), .ref (ad i), .int (nI 1)] sz) (va_Qv (fun u' => u' = xs (xs u i 5 (nI 1)) 18 e9 (u.1 18 e9 ||| nI (2 ^ i))) (XB D ad cI cL cR) (gA 34 ad sz)) 0 0 (gA 34 ad sz) := by
  intro sz
  refine z_met (cc := cX5_switchRule) (maxL := 4) (ret := none) (by decide) rfl (Nat.le_of_ble_eq_true rfl) ?_
  intro pq lq sq mq aq Qq bq hmq cq C hr hml hown hts hlocks hK hX hsz hQ
  subst hsz
  have hT4 : ∀ w ∈ wsX40, w.before aq sq = true := fun w h => hts w ((by decide +kernel : ∀ w ∈ wsX40, w ∈ wsX5_switchRule) w h)
  have hT5 : ∀ w ∈ wsX50, w.before aq sq = true := fun w h => hts w ((by decide +kernel : ∀ w ∈ wsX50, w ∈ wsX5_switchRule) w h)
  refine z_sub (L' := [(0, .ref (ad 16)), (1, .ref (ad i)), (2, .int (nI 1))]) [0, 1, 2] rfl ?_
  refine z_aload_n C dX5_switchRule_0 1 rfl ?_
  refine z_iload_n C dX5_switchRule_1 2 rfl ?_
  refine z_put (q := i) C hI tyX4 (T := TX4) (N := 11) (ci := 4) (own := RX5) (index := 41) hT4 hown hK (by omega) (xF_r hi) rfl 5 (by decide) (hts (.fieldLink RX5 41 "TriggerAnalyzer$Rule" "on" "Z") (by decide +kernel)) (fun _ h9 => h9) tyX4_ok nmX4 rfl rfl rfl (Nat.le_of_ble_eq_true rfl) (f' := xF ad cI cL cR ((xs u i 5 (nI 1)))) (xF_p5 hi) xF_ne dX5_switchRule_2 ?_
  refine z_aload_n C dX5_switchRule_5 1 rfl ?_
  refine z_get (q := i) C (T := TX4) (N := 11) (ci := 4) (own := RX5) (index := 28) (v := .int ((xs u i 5 (nI 1)).1 i 2)) hT4 hown hK (by omega) (xF_r hi) rfl 2 (by decide) (hts (.fieldLink RX5 28 "TriggerAnalyzer$Rule" "event" "I") (by decide +kernel)) (fun _ h9 => h9) rfl dX5_switchRule_6 ?_
  refine z_topi (y := u.1 i 2) (xs_j (by decide)) ?_
  refine z_topi (y := nI e9) (h2) ?_
  refine z_istore_n (L' := [(3, .int (nI e9)), (0, .ref (ad 16)), (1, .ref (ad i)), (2, .int (nI 1))]) C dX5_switchRule_9 (by decide) rfl ?_
  refine z_iload_n C dX5_switchRule_10 0 rfl ?_
  refine z_if_lt (tgt := 23) C dX5_switchRule_11 (by decide) (fun zc11 => ?_) (fun zc11 => ?_)
  · skip
    exact (zneg (by omega) zc11).elim
  · skip
    refine z_iload_n C dX5_switchRule_14 0 rfl ?_
    refine z_aload_n C dX5_switchRule_15 1 rfl ?_
    refine z_get (q := 16) C (T := TX5) (N := 3) (ci := 5) (own := RX5) (index := 17) (v := .ref (ad 18)) hT5 hown hK (by decide) rfl rfl 1 (by decide) (hts (.fieldLink RX5 17 "TriggerAnalyzer$RuleBook" "listeners" "[I") (by decide +kernel)) (fun _ h9 => h9) rfl dX5_switchRule_16 ?_
    refine z_alen (q := 18) (len := 12) C hK (by decide) rfl 0 rfl (v := nI 12) (by decide) dX5_switchRule_19 ?_
    refine z_icmp_lt (tgt := 24) C dX5_switchRule_20 (by decide) (fun zc20 => ?_) (fun zc20 => ?_)
    · skip
      have zn20 := zlt_t (a := e9) (b := 12) (by omega) (by omega) zc20
      refine z_iload_n C dX5_switchRule_24 3 rfl ?_
      refine z_if_eq (tgt := 44) C dX5_switchRule_25 (by decide) (fun zc25 => ?_) (fun zc25 => ?_)
      · skip
        have zn25 := z0_t (by omega) zc25
        exact absurd zn25 (by decide)
      · skip
        have zn25 := z0_f zc25
        refine z_aload_n C dX5_switchRule_28 1 rfl ?_
        refine z_get (q := 16) C (T := TX5) (N := 3) (ci := 5) (own := RX5) (index := 17) (v := .ref (ad 18)) hT5 hown hK (by decide) rfl rfl 1 (by decide) (hts (.fieldLink RX5 17 "TriggerAnalyzer$RuleBook" "listeners" "[I") (by decide +kernel)) (fun _ h9 => h9) rfl dX5_switchRule_29 ?_
        refine z_iload_n C dX5_switchRule_32 0 rfl ?_
        refine z_dup2 C rfl rfl dX5_switchRule_33 ?_
        refine z_iald (q := 18) (len := 12) (k := e9) C hK (by decide) rfl 0 rfl (rfl) (by omega) (by decide) dX5_switchRule_34 ?_
        refine z_topi (y := u.1 18 e9) (xs_c (by omega) _) ?_
        refine z_aload_n C dX5_switchRule_35 2 rfl ?_
        refine z_get (q := i) C (T := TX4) (N := 11) (ci := 4) (own := RX5) (index := 45) (v := .int (nI (2 ^ i))) hT4 hown hK (by omega) (xF_r hi) rfl 0 (by decide) (hts (.fieldLink RX5 45 "TriggerAnalyzer$Rule" "bit" "I") (by decide +kernel)) (fun _ h9 => h9) rfl dX5_switchRule_36 ?_
        refine z_ior C dX5_switchRule_39 ?_
        refine z_iast (q := 18) (len := 12) (k := e9) C hI hK (by decide) rfl 0 rfl (rfl) (by omega) (by decide) (f' := xF ad cI cL cR ((xs ((xs u i 5 (nI 1))) 18 e9 ((u.1 18 e9) ||| (nI (2 ^ i)))))) rfl xF_ne dX5_switchRule_40 ?_
        refine z_goto (tgt := 59) C dX5_switchRule_41 (by decide) ?_
        exact z_vret C hr hlocks hQ ((xs ((xs u i 5 (nI 1))) 18 e9 ((u.1 18 e9) ||| (nI (2 ^ i))))) (rfl) (fun _ _ => rfl) dX5_switchRule_59
    · skip
      have zn20 := zlt_f (a := e9) (b := 12) (by omega) (by omega) zc20
      exact False.elim (by omega)

set_option maxHeartbeats 4000000 in
set_option maxRecDepth 100000 in
theorem c_X5_switchRule_v0 (l : Launch) (D : va_G) (ad : Nat → Nat) (cI cL cR : ClassId) (hI : gI 34 ad) (u : xS) (i : Nat) (hi : i < 8) (e9 : Nat) (he : e9 < 12) (h2 : u.1 i 2 = nI e9) : ∀ sz, Met l yX5_switchRule wsX5_switchRule ({ frames := 0, cells := 0, slots := 0, locals := 0 }) (XP D ad cI cL cR u [.ref (ad 16), .ref (ad i), .int (nI 0)] sz) (va_Qv (fun u' => u' = xs (xs u i 5 (nI 0)) 18 e9 (u.1 18 e9 &&& (nI (2 ^ i) ^^^ (-1)))) (XB D ad cI cL cR) (gA 34 ad sz)) 0 0 (gA 34 ad sz) := by
  intro sz
  refine z_met (cc := cX5_switchRule) (maxL := 4) (ret := none) (by decide) rfl (Nat.le_of_ble_eq_true rfl) ?_
  intro pq lq sq mq aq Qq bq hmq cq C hr hml hown hts hlocks hK hX hsz hQ
  subst hsz
  have hT4 : ∀ w ∈ wsX40, w.before aq sq = true := fun w h => hts w ((by decide +kernel : ∀ w ∈ wsX40, w ∈ wsX5_switchRule) w h)
  have hT5 : ∀ w ∈ wsX50, w.before aq sq = true := fun w h => hts w ((by decide +kernel : ∀ w ∈ wsX50, w ∈ wsX5_switchRule) w h)
  refine z_sub (L' := [(0, .ref (ad 16)), (1, .ref (ad i)), (2, .int (nI 0))]) [0, 1, 2] rfl ?_
  refine z_aload_n C dX5_switchRule_0 1 rfl ?_
  refine z_iload_n C dX5_switchRule_1 2 rfl ?_
  refine z_put (q := i) C hI tyX4 (T := TX4) (N := 11) (ci := 4) (own := RX5) (index := 41) hT4 hown hK (by omega) (xF_r hi) rfl 5 (by decide) (hts (.fieldLink RX5 41 "TriggerAnalyzer$Rule" "on" "Z") (by decide +kernel)) (fun _ h9 => h9) tyX4_ok nmX4 rfl rfl rfl (Nat.le_of_ble_eq_true rfl) (f' := xF ad cI cL cR ((xs u i 5 (nI 0)))) (xF_p5 hi) xF_ne dX5_switchRule_2 ?_
  refine z_aload_n C dX5_switchRule_5 1 rfl ?_
  refine z_get (q := i) C (T := TX4) (N := 11) (ci := 4) (own := RX5) (index := 28) (v := .int ((xs u i 5 (nI 0)).1 i 2)) hT4 hown hK (by omega) (xF_r hi) rfl 2 (by decide) (hts (.fieldLink RX5 28 "TriggerAnalyzer$Rule" "event" "I") (by decide +kernel)) (fun _ h9 => h9) rfl dX5_switchRule_6 ?_
  refine z_topi (y := u.1 i 2) (xs_j (by decide)) ?_
  refine z_topi (y := nI e9) (h2) ?_
  refine z_istore_n (L' := [(3, .int (nI e9)), (0, .ref (ad 16)), (1, .ref (ad i)), (2, .int (nI 0))]) C dX5_switchRule_9 (by decide) rfl ?_
  refine z_iload_n C dX5_switchRule_10 0 rfl ?_
  refine z_if_lt (tgt := 23) C dX5_switchRule_11 (by decide) (fun zc11 => ?_) (fun zc11 => ?_)
  · skip
    exact (zneg (by omega) zc11).elim
  · skip
    refine z_iload_n C dX5_switchRule_14 0 rfl ?_
    refine z_aload_n C dX5_switchRule_15 1 rfl ?_
    refine z_get (q := 16) C (T := TX5) (N := 3) (ci := 5) (own := RX5) (index := 17) (v := .ref (ad 18)) hT5 hown hK (by decide) rfl rfl 1 (by decide) (hts (.fieldLink RX5 17 "TriggerAnalyzer$RuleBook" "listeners" "[I") (by decide +kernel)) (fun _ h9 => h9) rfl dX5_switchRule_16 ?_
    refine z_alen (q := 18) (len := 12) C hK (by decide) rfl 0 rfl (v := nI 12) (by decide) dX5_switchRule_19 ?_
    refine z_icmp_lt (tgt := 24) C dX5_switchRule_20 (by decide) (fun zc20 => ?_) (fun zc20 => ?_)
    · skip
      have zn20 := zlt_t (a := e9) (b := 12) (by omega) (by omega) zc20
      refine z_iload_n C dX5_switchRule_24 3 rfl ?_
      refine z_if_eq (tgt := 44) C dX5_switchRule_25 (by decide) (fun zc25 => ?_) (fun zc25 => ?_)
      · skip
        have zn25 := z0_t (by omega) zc25
        refine z_aload_n C dX5_switchRule_44 1 rfl ?_
        refine z_get (q := 16) C (T := TX5) (N := 3) (ci := 5) (own := RX5) (index := 17) (v := .ref (ad 18)) hT5 hown hK (by decide) rfl rfl 1 (by decide) (hts (.fieldLink RX5 17 "TriggerAnalyzer$RuleBook" "listeners" "[I") (by decide +kernel)) (fun _ h9 => h9) rfl dX5_switchRule_45 ?_
        refine z_iload_n C dX5_switchRule_48 0 rfl ?_
        refine z_dup2 C rfl rfl dX5_switchRule_49 ?_
        refine z_iald (q := 18) (len := 12) (k := e9) C hK (by decide) rfl 0 rfl (rfl) (by omega) (by decide) dX5_switchRule_50 ?_
        refine z_topi (y := u.1 18 e9) (xs_c (by omega) _) ?_
        refine z_aload_n C dX5_switchRule_51 2 rfl ?_
        refine z_get (q := i) C (T := TX4) (N := 11) (ci := 4) (own := RX5) (index := 45) (v := .int (nI (2 ^ i))) hT4 hown hK (by omega) (xF_r hi) rfl 0 (by decide) (hts (.fieldLink RX5 45 "TriggerAnalyzer$Rule" "bit" "I") (by decide +kernel)) (fun _ h9 => h9) rfl dX5_switchRule_52 ?_
        refine z_iconst (v := (-1)) C (by decide) dX5_switchRule_55 ?_
        refine z_ixor C dX5_switchRule_56 ?_
        refine z_iand C dX5_switchRule_57 ?_
        refine z_iast (q := 18) (len := 12) (k := e9) C hI hK (by decide) rfl 0 rfl (rfl) (by omega) (by decide) (f' := xF ad cI cL cR ((xs ((xs u i 5 (nI 0))) 18 e9 ((u.1 18 e9) &&& ((nI (2 ^ i)) ^^^ ((-1))))))) rfl xF_ne dX5_switchRule_58 ?_
        exact z_vret C hr hlocks hQ ((xs ((xs u i 5 (nI 0))) 18 e9 ((u.1 18 e9) &&& ((nI (2 ^ i)) ^^^ ((-1)))))) (rfl) (fun _ _ => rfl) dX5_switchRule_59
      · skip
        have zn25 := z0_f zc25
        exact absurd zn25 (by decide)
    · skip
      have zn20 := zlt_f (a := e9) (b := 12) (by omega) (by omega) zc20
      exact False.elim (by omega)

set_option maxHeartbeats 4000000 in
set_option maxRecDepth 100000 in
theorem c_X5_append (l : Launch) (D : va_G) (ad : Nat → Nat) (cI cL cR : ClassId) (hI : gI 34 ad) (u : xS) (c : Nat) (hc : c < 8) (hn : u.1 16 2 = nI c) (e9 : Nat) (he : e9 < 12) (m1 m2 : Int32) : ∀ sz, Met l yX5_append wsX5_append ({ frames := 1, cells := 0, slots := 0, locals := 23 }) (XP D ad cI cL cR u [.ref (ad 16), .int (nI e9), .int (m1), .int (m2)] sz) (va_Qi (fun r u' => r = nI c ∧ u' = xs (xs (xs (xs (xs (xs u 16 2 (nI (c + 1))) c 2 (nI e9)) c 3 m1) c 4 m2) c 5 (nI 1)) 18 e9 ((xs (xs (xs (xs u 16 2 (nI (c + 1))) c 2 (nI e9)) c 3 m1) c 4 m2).1 18 e9 ||| nI (2 ^ c))) (XB D ad cI cL cR) (gA 34 ad sz)) 0 0 (gA 34 ad sz) := by
  intro sz
  refine z_met (cc := cX5_append) (maxL := 6) (ret := (some .int)) (by decide) rfl (Nat.le_of_ble_eq_true rfl) ?_
  intro pq lq sq mq aq Qq bq hmq cq C hr hml hown hts hlocks hK hX hsz hQ
  subst hsz
  have hT4 : ∀ w ∈ wsX40, w.before aq sq = true := fun w h => hts w ((by decide +kernel : ∀ w ∈ wsX40, w ∈ wsX5_append) w h)
  have hT5 : ∀ w ∈ wsX50, w.before aq sq = true := fun w h => hts w ((by decide +kernel : ∀ w ∈ wsX50, w ∈ wsX5_append) w h)
  refine z_sub (L' := [(0, .ref (ad 16)), (1, .int (nI e9)), (2, .int (m1)), (3, .int (m2))]) [0, 1, 2, 3] rfl ?_
  refine z_aload_n C dX5_append_0 0 rfl ?_
  refine z_get (q := 16) C (T := TX5) (N := 3) (ci := 5) (own := RX5) (index := 24) (v := .int (u.1 16 2)) hT5 hown hK (by decide) rfl rfl 2 (by decide) (hts (.fieldLink RX5 24 "TriggerAnalyzer$RuleBook" "count" "I") (by decide +kernel)) (fun _ h9 => h9) rfl dX5_append_1 ?_
  refine z_topi (y := nI c) (hn) ?_
  refine z_istore (L' := [(4, .int (nI c)), (0, .ref (ad 16)), (1, .int (nI e9)), (2, .int (m1)), (3, .int (m2))]) C dX5_append_4 (by decide) rfl ?_
  refine z_iload C dX5_append_6 0 rfl ?_
  refine z_if_lt (tgt := 21) C dX5_append_8 (by decide) (fun zc8 => ?_) (fun zc8 => ?_)
  · skip
    exact (zneg (by omega) zc8).elim
  · skip
    refine z_iload C dX5_append_11 0 rfl ?_
    refine z_aload_n C dX5_append_13 1 rfl ?_
    refine z_get (q := 16) C (T := TX5) (N := 3) (ci := 5) (own := RX5) (index := 11) (v := .ref (ad 17)) hT5 hown hK (by decide) rfl rfl 0 (by decide) (hts (.fieldLink RX5 11 "TriggerAnalyzer$RuleBook" "rules" "[LTriggerAnalyzer$Rule;") (by decide +kernel)) (fun _ h9 => h9) rfl dX5_append_14 ?_
    refine z_alen (q := 17) (len := 8) C hK (by decide) rfl 2 rfl (v := nI 8) (by decide) dX5_append_17 ?_
    refine z_icmp_lt (tgt := 23) C dX5_append_18 (by decide) (fun zc18 => ?_) (fun zc18 => ?_)
    · skip
      have zn18 := zlt_t (a := c) (b := 8) (by omega) (by omega) zc18
      refine z_aload_n C dX5_append_23 1 rfl ?_
      refine z_dup C rfl dX5_append_24 ?_
      refine z_get (q := 16) C (T := TX5) (N := 3) (ci := 5) (own := RX5) (index := 24) (v := .int (u.1 16 2)) hT5 hown hK (by decide) rfl rfl 2 (by decide) (hts (.fieldLink RX5 24 "TriggerAnalyzer$RuleBook" "count" "I") (by decide +kernel)) (fun _ h9 => h9) rfl dX5_append_25 ?_
      refine z_topi (y := nI c) (hn) ?_
      refine z_iconst (v := nI 1) C (by decide) dX5_append_28 ?_
      refine z_iadd C dX5_append_29 ?_
      refine z_topi (y := nI (c + 1)) (nI_add c 1) ?_
      refine z_put (q := 16) C hI tyX5 (T := TX5) (N := 3) (ci := 5) (own := RX5) (index := 24) hT5 hown hK (by decide) rfl rfl 2 (by decide) (hts (.fieldLink RX5 24 "TriggerAnalyzer$RuleBook" "count" "I") (by decide +kernel)) (fun _ h9 => h9) tyX5_ok nmX5 rfl rfl rfl (Nat.le_of_ble_eq_true rfl) (f' := xF ad cI cL cR ((xs u 16 2 (nI (c + 1))))) rfl xF_ne dX5_append_30 ?_
      refine z_aload_n C dX5_append_33 1 rfl ?_
      refine z_get (q := 16) C (T := TX5) (N := 3) (ci := 5) (own := RX5) (index := 11) (v := .ref (ad 17)) hT5 hown hK (by decide) rfl rfl 0 (by decide) (hts (.fieldLink RX5 11 "TriggerAnalyzer$RuleBook" "rules" "[LTriggerAnalyzer$Rule;") (by decide +kernel)) (fun _ h9 => h9) rfl dX5_append_34 ?_
      refine z_iload C dX5_append_37 0 rfl ?_
      refine z_aald (q := 17) (len := 8) (k := c) C hK (by decide) rfl 2 rfl (rfl) (by omega) (by decide) (a := ad c) rfl dX5_append_39 ?_
      refine z_astore (L' := [(5, .ref (ad c)), (4, .int (nI c)), (0, .ref (ad 16)), (1, .int (nI e9)), (2, .int (m1)), (3, .int (m2))]) C dX5_append_40 (by decide) rfl ?_
      refine z_aload C dX5_append_42 0 rfl ?_
      refine z_iload_n C dX5_append_44 3 rfl ?_
      refine z_put (q := c) C hI tyX4 (T := TX4) (N := 11) (ci := 4) (own := RX5) (index := 28) hT4 hown hK (by omega) (xF_r hc) rfl 2 (by decide) (hts (.fieldLink RX5 28 "TriggerAnalyzer$Rule" "event" "I") (by decide +kernel)) (fun _ h9 => h9) tyX4_ok nmX4 rfl rfl rfl (Nat.le_of_ble_eq_true rfl) (f' := xF ad cI cL cR ((xs ((xs u 16 2 (nI (c + 1)))) c 2 (nI e9)))) (xF_p2 hc) xF_ne dX5_append_45 ?_
      refine z_aload C dX5_append_48 0 rfl ?_
      refine z_iload_n C dX5_append_50 4 rfl ?_
      refine z_put (q := c) C hI tyX4 (T := TX4) (N := 11) (ci := 4) (own := RX5) (index := 31) hT4 hown hK (by omega) (xF_r hc) rfl 3 (by decide) (hts (.fieldLink RX5 31 "TriggerAnalyzer$Rule" "must" "I") (by decide +kernel)) (fun _ h9 => h9) tyX4_ok nmX4 rfl rfl rfl (Nat.le_of_ble_eq_true rfl) (f' := xF ad cI cL cR ((xs ((xs ((xs u 16 2 (nI (c + 1)))) c 2 (nI e9))) c 3 (m1)))) (xF_p3 hc) xF_ne dX5_append_51 ?_
      refine z_aload C dX5_append_54 0 rfl ?_
      refine z_iload_n C dX5_append_56 5 rfl ?_
      refine z_put (q := c) C hI tyX4 (T := TX4) (N := 11) (ci := 4) (own := RX5) (index := 34) hT4 hown hK (by omega) (xF_r hc) rfl 4 (by decide) (hts (.fieldLink RX5 34 "TriggerAnalyzer$Rule" "mustNot" "I") (by decide +kernel)) (fun _ h9 => h9) tyX4_ok nmX4 rfl rfl rfl (Nat.le_of_ble_eq_true rfl) (f' := xF ad cI cL cR ((xs ((xs ((xs ((xs u 16 2 (nI (c + 1)))) c 2 (nI e9))) c 3 (m1))) c 4 (m2)))) (xF_p4 hc) xF_ne dX5_append_57 ?_
      refine z_aload_n C dX5_append_60 2 rfl ?_
      refine z_aload C dX5_append_61 0 rfl ?_
      refine z_iconst (v := nI 1) C (by decide) dX5_append_63 ?_
      refine z_callVv xX_ok C hml hown hts hK hX (c_X5_switchRule_v1 l D ad cI cL cR hI ((xs ((xs ((xs ((xs u 16 2 (nI (c + 1)))) c 2 (nI e9))) c 3 (m1))) c 4 (m2))) c hc e9 he (((xs_j (by decide)).trans (xs_j (by decide))).trans (xs_s _ _ _ _))) (cwV 2 hts gX5_append_X5_switchRule rfl rfl rfl (by decide +kernel) ⟨Nat.le_of_ble_eq_true rfl, Nat.le_of_ble_eq_true rfl⟩) (by decide) (ci := 5) rfl rfl rfl (st := []) rfl (Nat.le_of_ble_eq_true rfl) dX5_append_64 ⟨Nat.le_of_ble_eq_true rfl, Nat.le_of_ble_eq_true rfl⟩ (fun u64 h64 => ?_)
      subst u64
      refine z_iload C dX5_append_67 1 rfl ?_
      exact z_iret C hr hlocks hQ (xs (xs ((xs ((xs ((xs ((xs u 16 2 (nI (c + 1)))) c 2 (nI e9))) c 3 (m1))) c 4 (m2))) c 5 (nI 1)) 18 e9 (((xs ((xs ((xs ((xs u 16 2 (nI (c + 1)))) c 2 (nI e9))) c 3 (m1))) c 4 (m2))).1 18 e9 ||| nI (2 ^ c))) (⟨rfl, rfl⟩) (fun _ _ => rfl) dX5_append_69
    · skip
      have zn18 := zlt_f (a := c) (b := 8) (by omega) (by omega) zc18
      exact False.elim (by omega)

set_option maxHeartbeats 4000000 in
set_option maxRecDepth 100000 in
theorem c_X5_changed (l : Launch) (D : va_G) (ad : Nat → Nat) (cI cL cR : ClassId) (hI : gI 34 ad) (u : xS) (n : Nat) (B : Nat → Nat → Nat) (hR : xR u n B) (x : Nat) (hx : x < 16384) (a : Nat) (ha : a < 12) : ∀ sz, Met l yX5_changed wsX5_changed ({ frames := 1, cells := 0, slots := 0, locals := 21 }) (XP D ad cI cL cR u [.ref (ad 16), .int (nI x), .int (nI a)] sz) (va_Qi (fun r u' => r = nI (chg B x a) ∧ u' = u) (XB D ad cI cL cR) (gA 34 ad sz)) 0 0 (gA 34 ad sz) := by
  intro sz
  refine z_met (cc := cX5_changed) (maxL := 7) (ret := (some .int)) (by decide) rfl (Nat.le_of_ble_eq_true rfl) ?_
  intro pq lq sq mq aq Qq bq hmq cq C hr hml hown hts hlocks hK hX hsz hQ
  subst hsz
  refine z_sub (L' := [(0, .ref (ad 16)), (1, .int (nI x)), (2, .int (nI a))]) [0, 1, 2] rfl ?_
  have hl : lis B a < 256 := lis_lt B a
  have h6 : 2 ^ (a / 2) < 64 := pow_lt6 (by omega)
  refine z_iconst (v := nI 1) C (by decide) dX5_changed_0 ?_
  refine z_iload_n C dX5_changed_1 2 rfl ?_
  refine z_iconst (v := nI 1) C (by decide) dX5_changed_2 ?_
  refine z_ishr C dX5_changed_3 ?_
  refine z_topi (y := nI (a / 2)) (zi_half (by omega)) ?_
  refine z_ishl C dX5_changed_4 ?_
  refine z_topi (y := nI (2 ^ (a / 2))) (zi_shl1 (by omega)) ?_
  refine z_istore_n (L' := [(3, .int (nI (2 ^ (a / 2)))), (0, .ref (ad 16)), (1, .int (nI x)), (2, .int (nI a))]) C dX5_changed_5 (by decide) rfl ?_
  refine z_iload_n C dX5_changed_6 3 rfl ?_
  refine z_iconst (v := nI 1) C (by decide) dX5_changed_7 ?_
  refine z_iand C dX5_changed_8 ?_
  refine z_topi (y := nI (a % 2)) (fa_mask a 1) ?_
  refine z_iconst (v := nI 1) C (by decide) dX5_changed_9 ?_
  refine z_icmp_ne (tgt := 17) C dX5_changed_10 (by decide) (fun zc10 => ?_) (fun zc10 => ?_)
  · skip
    have zn10 := zeq_f (a := a % 2) (b := 1) zc10
    refine z_iconst (v := nI 0) C (by decide) dX5_changed_17 ?_
    refine z_istore (L' := [(4, .int (nI 0)), (3, .int (nI (2 ^ (a / 2)))), (0, .ref (ad 16)), (1, .int (nI x)), (2, .int (nI a))]) C dX5_changed_18 (by decide) rfl ?_
    refine z_iload_n C dX5_changed_20 3 rfl ?_
    refine z_iload_n C dX5_changed_21 1 rfl ?_
    refine z_iand C dX5_changed_22 ?_
    refine z_topi (y := nI (x &&& (2 ^ (a / 2)))) (fa_and x (2 ^ (a / 2))) ?_
    refine z_if_eq (tgt := 30) C dX5_changed_23 (by decide) (fun zc23 => ?_) (fun zc23 => ?_)
    · skip
      have h23 := zi_bitF (by omega) zc23
      refine z_iconst (v := nI 0) C (by decide) dX5_changed_30 ?_
      refine z_istore (L' := [(5, .int (nI 0)), (4, .int (nI 0)), (3, .int (nI (2 ^ (a / 2)))), (0, .ref (ad 16)), (1, .int (nI x)), (2, .int (nI a))]) C dX5_changed_31 (by decide) rfl ?_
      refine z_iload C dX5_changed_33 1 rfl ?_
      refine z_iload C dX5_changed_35 0 rfl ?_
      refine z_icmp_ne (tgt := 42) C dX5_changed_37 (by decide) (fun zc37 => ?_) (fun zc37 => ?_)
      · skip
        have zn37 := zeq_f (a := 0) (b := 0) zc37
        exact absurd zn37 (by decide)
      · skip
        have zn37 := zeq_t (a := 0) (b := 0) (by omega) (by omega) zc37
        refine z_iload_n C dX5_changed_40 4 rfl ?_
        exact z_iret C hr hlocks hQ u (⟨by unfold chg; rw [h23]; simp [*], rfl⟩) (fun _ _ => rfl) dX5_changed_41
    · skip
      have h23 := zi_bitT (by omega) zc23
      refine z_iconst (v := nI 1) C (by decide) dX5_changed_26 ?_
      refine z_goto (tgt := 31) C dX5_changed_27 (by decide) ?_
      refine z_istore (L' := [(5, .int (nI 1)), (4, .int (nI 0)), (3, .int (nI (2 ^ (a / 2)))), (0, .ref (ad 16)), (1, .int (nI x)), (2, .int (nI a))]) C dX5_changed_31 (by decide) rfl ?_
      refine z_iload C dX5_changed_33 1 rfl ?_
      refine z_iload C dX5_changed_35 0 rfl ?_
      refine z_icmp_ne (tgt := 42) C dX5_changed_37 (by decide) (fun zc37 => ?_) (fun zc37 => ?_)
      · skip
        have zn37 := zeq_f (a := 0) (b := 1) zc37
        refine z_iload_n C dX5_changed_42 4 rfl ?_
        refine z_callSNi xX_ok C hml hown hts hK hX (c_X6_triggeredIn l D ad cI cL cR hI u x (by omega)) ⟨va_cnB 1 hts gX5_changed_X6_triggeredIn_n54 rfl rfl rfl hX.1.2.2.1 (hts (.initialized RX6) (by decide +kernel)) (by decide +kernel) ⟨Nat.le_of_ble_eq_true rfl, Nat.le_of_ble_eq_true rfl⟩, hts (.static yX6_triggeredIn) (by decide +kernel), trivial⟩ rfl (st := []) rfl (Nat.le_of_ble_eq_true rfl) dX5_changed_43 ⟨Nat.le_of_ble_eq_true rfl, Nat.le_of_ble_eq_true rfl⟩ (fun r43 u43 h43 => ?_)
        obtain ⟨zr43, zu43⟩ := h43
        subst r43
        subst u43
        refine z_aload_n C dX5_changed_46 3 rfl ?_
        refine z_iload_n C dX5_changed_47 5 rfl ?_
        refine z_callVi xX_ok C hml hown hts hK hX (c_X5_listenersTo l D ad cI cL cR hI u n B hR a ha) (cwV 1 hts gX5_changed_X5_listenersTo rfl rfl rfl (by decide +kernel) ⟨Nat.le_of_ble_eq_true rfl, Nat.le_of_ble_eq_true rfl⟩) (by decide) (ci := 5) rfl rfl rfl (st := [.int (nI (x / 64))]) rfl (Nat.le_of_ble_eq_true rfl) dX5_changed_48 ⟨Nat.le_of_ble_eq_true rfl, Nat.le_of_ble_eq_true rfl⟩ (fun r48 u48 h48 => ?_)
        obtain ⟨zr48, zu48⟩ := h48
        subst r48
        subst u48
        refine z_ior C dX5_changed_51 ?_
        refine z_topi (y := nI ((x / 64) ||| (lis B a))) (fa_or (x / 64) (lis B a)) ?_
        refine z_istore (L' := [(6, .int (nI ((x / 64) ||| (lis B a)))), (5, .int (nI 1)), (4, .int (nI 0)), (3, .int (nI (2 ^ (a / 2)))), (0, .ref (ad 16)), (1, .int (nI x)), (2, .int (nI a))]) C dX5_changed_52 (by decide) rfl ?_
        refine z_iload_n C dX5_changed_54 5 rfl ?_
        refine z_callSNi xX_ok C hml hown hts hK hX (c_X6_factsIn l D ad cI cL cR hI u x) ⟨va_cnB 1 hts gX5_changed_X6_factsIn_n61 rfl rfl rfl hX.1.2.2.2.1 (hts (.initialized RX6) (by decide +kernel)) (by decide +kernel) ⟨Nat.le_of_ble_eq_true rfl, Nat.le_of_ble_eq_true rfl⟩, hts (.static yX6_factsIn) (by decide +kernel), trivial⟩ rfl (st := []) rfl (Nat.le_of_ble_eq_true rfl) dX5_changed_55 ⟨Nat.le_of_ble_eq_true rfl, Nat.le_of_ble_eq_true rfl⟩ (fun r55 u55 h55 => ?_)
        obtain ⟨zr55, zu55⟩ := h55
        subst r55
        subst u55
        refine z_iload_n C dX5_changed_58 3 rfl ?_
        refine z_ixor C dX5_changed_59 ?_
        refine z_topi (y := nI ((x % 64) ^^^ (2 ^ (a / 2)))) (nx_xor (x % 64) (2 ^ (a / 2))) ?_
        refine z_iload C dX5_changed_60 0 rfl ?_
        refine z_callSNi xX_ok C hml hown hts hK hX (c_X6_situationOf l D ad cI cL cR hI u (x % 64 ^^^ 2 ^ (a / 2)) (x / 64 ||| lis B a) (Nat.xor_lt_two_pow (n := 6) (by omega) h6) (Nat.lt_trans (Nat.or_lt_two_pow (n := 8) (by omega) hl) (by decide))) ⟨va_cnB 2 hts gX5_changed_X6_situationOf_n64 rfl rfl rfl hX.1.2.2.2.2.1 (hts (.initialized RX6) (by decide +kernel)) (by decide +kernel) ⟨Nat.le_of_ble_eq_true rfl, Nat.le_of_ble_eq_true rfl⟩, hts (.static yX6_situationOf) (by decide +kernel), trivial⟩ rfl (st := []) rfl (Nat.le_of_ble_eq_true rfl) dX5_changed_62 ⟨Nat.le_of_ble_eq_true rfl, Nat.le_of_ble_eq_true rfl⟩ (fun r62 u62 h62 => ?_)
        obtain ⟨zr62, zu62⟩ := h62
        subst r62
        subst u62
        exact z_iret C hr hlocks hQ u (⟨by unfold chg; rw [h23]; simp [*], rfl⟩) (fun _ _ => rfl) dX5_changed_65
      · skip
        have zn37 := zeq_t (a := 0) (b := 1) (by omega) (by omega) zc37
        exact absurd zn37 (by decide)
  · skip
    have zn10 := zeq_t (a := a % 2) (b := 1) (by omega) (by omega) zc10
    refine z_iconst (v := nI 1) C (by decide) dX5_changed_13 ?_
    refine z_goto (tgt := 18) C dX5_changed_14 (by decide) ?_
    refine z_istore (L' := [(4, .int (nI 1)), (3, .int (nI (2 ^ (a / 2)))), (0, .ref (ad 16)), (1, .int (nI x)), (2, .int (nI a))]) C dX5_changed_18 (by decide) rfl ?_
    refine z_iload_n C dX5_changed_20 3 rfl ?_
    refine z_iload_n C dX5_changed_21 1 rfl ?_
    refine z_iand C dX5_changed_22 ?_
    refine z_topi (y := nI (x &&& (2 ^ (a / 2)))) (fa_and x (2 ^ (a / 2))) ?_
    refine z_if_eq (tgt := 30) C dX5_changed_23 (by decide) (fun zc23 => ?_) (fun zc23 => ?_)
    · skip
      have h23 := zi_bitF (by omega) zc23
      refine z_iconst (v := nI 0) C (by decide) dX5_changed_30 ?_
      refine z_istore (L' := [(5, .int (nI 0)), (4, .int (nI 1)), (3, .int (nI (2 ^ (a / 2)))), (0, .ref (ad 16)), (1, .int (nI x)), (2, .int (nI a))]) C dX5_changed_31 (by decide) rfl ?_
      refine z_iload C dX5_changed_33 1 rfl ?_
      refine z_iload C dX5_changed_35 0 rfl ?_
      refine z_icmp_ne (tgt := 42) C dX5_changed_37 (by decide) (fun zc37 => ?_) (fun zc37 => ?_)
      · skip
        have zn37 := zeq_f (a := 1) (b := 0) zc37
        refine z_iload_n C dX5_changed_42 4 rfl ?_
        refine z_callSNi xX_ok C hml hown hts hK hX (c_X6_triggeredIn l D ad cI cL cR hI u x (by omega)) ⟨va_cnB 1 hts gX5_changed_X6_triggeredIn_n54 rfl rfl rfl hX.1.2.2.1 (hts (.initialized RX6) (by decide +kernel)) (by decide +kernel) ⟨Nat.le_of_ble_eq_true rfl, Nat.le_of_ble_eq_true rfl⟩, hts (.static yX6_triggeredIn) (by decide +kernel), trivial⟩ rfl (st := []) rfl (Nat.le_of_ble_eq_true rfl) dX5_changed_43 ⟨Nat.le_of_ble_eq_true rfl, Nat.le_of_ble_eq_true rfl⟩ (fun r43 u43 h43 => ?_)
        obtain ⟨zr43, zu43⟩ := h43
        subst r43
        subst u43
        refine z_aload_n C dX5_changed_46 3 rfl ?_
        refine z_iload_n C dX5_changed_47 5 rfl ?_
        refine z_callVi xX_ok C hml hown hts hK hX (c_X5_listenersTo l D ad cI cL cR hI u n B hR a ha) (cwV 1 hts gX5_changed_X5_listenersTo rfl rfl rfl (by decide +kernel) ⟨Nat.le_of_ble_eq_true rfl, Nat.le_of_ble_eq_true rfl⟩) (by decide) (ci := 5) rfl rfl rfl (st := [.int (nI (x / 64))]) rfl (Nat.le_of_ble_eq_true rfl) dX5_changed_48 ⟨Nat.le_of_ble_eq_true rfl, Nat.le_of_ble_eq_true rfl⟩ (fun r48 u48 h48 => ?_)
        obtain ⟨zr48, zu48⟩ := h48
        subst r48
        subst u48
        refine z_ior C dX5_changed_51 ?_
        refine z_topi (y := nI ((x / 64) ||| (lis B a))) (fa_or (x / 64) (lis B a)) ?_
        refine z_istore (L' := [(6, .int (nI ((x / 64) ||| (lis B a)))), (5, .int (nI 0)), (4, .int (nI 1)), (3, .int (nI (2 ^ (a / 2)))), (0, .ref (ad 16)), (1, .int (nI x)), (2, .int (nI a))]) C dX5_changed_52 (by decide) rfl ?_
        refine z_iload_n C dX5_changed_54 5 rfl ?_
        refine z_callSNi xX_ok C hml hown hts hK hX (c_X6_factsIn l D ad cI cL cR hI u x) ⟨va_cnB 1 hts gX5_changed_X6_factsIn_n61 rfl rfl rfl hX.1.2.2.2.1 (hts (.initialized RX6) (by decide +kernel)) (by decide +kernel) ⟨Nat.le_of_ble_eq_true rfl, Nat.le_of_ble_eq_true rfl⟩, hts (.static yX6_factsIn) (by decide +kernel), trivial⟩ rfl (st := []) rfl (Nat.le_of_ble_eq_true rfl) dX5_changed_55 ⟨Nat.le_of_ble_eq_true rfl, Nat.le_of_ble_eq_true rfl⟩ (fun r55 u55 h55 => ?_)
        obtain ⟨zr55, zu55⟩ := h55
        subst r55
        subst u55
        refine z_iload_n C dX5_changed_58 3 rfl ?_
        refine z_ixor C dX5_changed_59 ?_
        refine z_topi (y := nI ((x % 64) ^^^ (2 ^ (a / 2)))) (nx_xor (x % 64) (2 ^ (a / 2))) ?_
        refine z_iload C dX5_changed_60 0 rfl ?_
        refine z_callSNi xX_ok C hml hown hts hK hX (c_X6_situationOf l D ad cI cL cR hI u (x % 64 ^^^ 2 ^ (a / 2)) (x / 64 ||| lis B a) (Nat.xor_lt_two_pow (n := 6) (by omega) h6) (Nat.lt_trans (Nat.or_lt_two_pow (n := 8) (by omega) hl) (by decide))) ⟨va_cnB 2 hts gX5_changed_X6_situationOf_n64 rfl rfl rfl hX.1.2.2.2.2.1 (hts (.initialized RX6) (by decide +kernel)) (by decide +kernel) ⟨Nat.le_of_ble_eq_true rfl, Nat.le_of_ble_eq_true rfl⟩, hts (.static yX6_situationOf) (by decide +kernel), trivial⟩ rfl (st := []) rfl (Nat.le_of_ble_eq_true rfl) dX5_changed_62 ⟨Nat.le_of_ble_eq_true rfl, Nat.le_of_ble_eq_true rfl⟩ (fun r62 u62 h62 => ?_)
        obtain ⟨zr62, zu62⟩ := h62
        subst r62
        subst u62
        exact z_iret C hr hlocks hQ u (⟨by unfold chg; rw [h23]; simp [*], rfl⟩) (fun _ _ => rfl) dX5_changed_65
      · skip
        have zn37 := zeq_t (a := 1) (b := 0) (by omega) (by omega) zc37
        exact absurd zn37 (by decide)
    · skip
      have h23 := zi_bitT (by omega) zc23
      refine z_iconst (v := nI 1) C (by decide) dX5_changed_26 ?_
      refine z_goto (tgt := 31) C dX5_changed_27 (by decide) ?_
      refine z_istore (L' := [(5, .int (nI 1)), (4, .int (nI 1)), (3, .int (nI (2 ^ (a / 2)))), (0, .ref (ad 16)), (1, .int (nI x)), (2, .int (nI a))]) C dX5_changed_31 (by decide) rfl ?_
      refine z_iload C dX5_changed_33 1 rfl ?_
      refine z_iload C dX5_changed_35 0 rfl ?_
      refine z_icmp_ne (tgt := 42) C dX5_changed_37 (by decide) (fun zc37 => ?_) (fun zc37 => ?_)
      · skip
        have zn37 := zeq_f (a := 1) (b := 1) zc37
        exact absurd zn37 (by decide)
      · skip
        have zn37 := zeq_t (a := 1) (b := 1) (by omega) (by omega) zc37
        refine z_iload_n C dX5_changed_40 4 rfl ?_
        exact z_iret C hr hlocks hQ u (⟨by unfold chg; rw [h23]; simp [*], rfl⟩) (fun _ _ => rfl) dX5_changed_41

set_option maxHeartbeats 4000000 in
set_option maxRecDepth 100000 in
theorem c_X5_readyIn (l : Launch) (D : va_G) (ad : Nat → Nat) (cI cL cR : ClassId) (hI : gI 34 ad) (u : xS) (n : Nat) (B : Nat → Nat → Nat) (hR : xR u n B) (x : Nat) (hx : x < 16384) : ∀ sz, Met l yX5_readyIn wsX5_readyIn ({ frames := 2, cells := 0, slots := 0, locals := 42 }) (XP D ad cI cL cR u [.ref (ad 16), .int (nI x)] sz) (va_Qi (fun r u' => r = nI (rdy B (x / 64)) ∧ u' = u) (XB D ad cI cL cR) (gA 34 ad sz)) 0 0 (gA 34 ad sz) := by
  intro sz
  refine z_met (cc := cX5_readyIn) (maxL := 4) (ret := (some .int)) (by decide) rfl (Nat.le_of_ble_eq_true rfl) ?_
  intro pq lq sq mq aq Qq bq hmq cq C hr hml hown hts hlocks hK hX hsz hQ
  subst hsz
  have hT4 : ∀ w ∈ wsX40, w.before aq sq = true := fun w h => hts w ((by decide +kernel : ∀ w ∈ wsX40, w ∈ wsX5_readyIn) w h)
  have hT5 : ∀ w ∈ wsX50, w.before aq sq = true := fun w h => hts w ((by decide +kernel : ∀ w ∈ wsX50, w ∈ wsX5_readyIn) w h)
  refine z_sub (L' := [(0, .ref (ad 16)), (1, .int (nI x))]) [0, 1] rfl ?_
  refine z_iconst (v := nI 0) C (by decide) dX5_readyIn_0 ?_
  refine z_istore_n (L' := [(2, .int (nI 0)), (0, .ref (ad 16)), (1, .int (nI x))]) C dX5_readyIn_1 (by decide) rfl ?_
  refine z_iconst (v := nI 0) C (by decide) dX5_readyIn_2 ?_
  refine z_istore_n (L' := [(3, .int (nI 0)), (2, .int (nI 0)), (0, .ref (ad 16)), (1, .int (nI x))]) C dX5_readyIn_3 (by decide) rfl ?_
  have loop4 : ∀ (d4 : Nat) (k : Nat) (r9 : Int32), 8 - k < d4 → (k ≤ 8) → (r9 = nI (mks (fun i => rdy1 B i (x / 64)) k)) → ZZ pq l lq { frames := 2, cells := 0, slots := 0, locals := 42 } sq mq aq bq hmq cq D vwCl 34 ad 4 0 0 Qq (xF ad cI cL cR u) [(0, .ref (ad 16)), (1, .int (nI x)), (2, .int (r9)), (3, .int (nI k))] 4 [] := by
    intro d4
    induction d4 with
    | zero => intro k r9 hz; exact absurd hz (Nat.not_lt_zero _)
    | succ d4 ih4 =>
      intro k r9 hz4 hk hr9
      refine z_iload_n C dX5_readyIn_4 3 rfl ?_
      refine z_aload_n C dX5_readyIn_5 0 rfl ?_
      refine z_get (q := 16) C (T := TX5) (N := 3) (ci := 5) (own := RX5) (index := 11) (v := .ref (ad 17)) hT5 hown hK (by decide) rfl rfl 0 (by decide) (hts (.fieldLink RX5 11 "TriggerAnalyzer$RuleBook" "rules" "[LTriggerAnalyzer$Rule;") (by decide +kernel)) (fun _ h9 => h9) rfl dX5_readyIn_6 ?_
      refine z_alen (q := 17) (len := 8) C hK (by decide) rfl 2 rfl (v := nI 8) (by decide) dX5_readyIn_9 ?_
      refine z_icmp_ge (tgt := 44) C dX5_readyIn_10 (by decide) (fun zc10 => ?_) (fun zc10 => ?_)
      · skip
        have zn10 := zge_t (a := k) (b := 8) (by omega) (by omega) zc10
        refine z_iload_n C dX5_readyIn_44 2 rfl ?_
        exact z_iret C hr hlocks hQ u (⟨by rw [hr9, show k = 8 by omega]; rfl, rfl⟩) (fun _ _ => rfl) dX5_readyIn_45
      · skip
        have zn10 := zge_f (a := k) (b := 8) (by omega) (by omega) zc10
        refine z_aload_n C dX5_readyIn_13 0 rfl ?_
        refine z_get (q := 16) C (T := TX5) (N := 3) (ci := 5) (own := RX5) (index := 11) (v := .ref (ad 17)) hT5 hown hK (by decide) rfl rfl 0 (by decide) (hts (.fieldLink RX5 11 "TriggerAnalyzer$RuleBook" "rules" "[LTriggerAnalyzer$Rule;") (by decide +kernel)) (fun _ h9 => h9) rfl dX5_readyIn_14 ?_
        refine z_iload_n C dX5_readyIn_17 3 rfl ?_
        refine z_aald (q := 17) (len := 8) (k := k) C hK (by decide) rfl 2 rfl (rfl) (by omega) (by decide) (a := ad k) rfl dX5_readyIn_18 ?_
        refine z_iload_n C dX5_readyIn_19 1 rfl ?_
        refine z_callVi xX_ok C hml hown hts hK hX (c_X4_isReadyIn l D ad cI cL cR hI u n B hR k zn10 x hx) (cwV 1 hts gX5_readyIn_X4_isReadyIn rfl rfl rfl (by decide +kernel) ⟨Nat.le_of_ble_eq_true rfl, Nat.le_of_ble_eq_true rfl⟩) (by omega) (ci := 4) (xF_r zn10) rfl rfl (st := []) rfl (Nat.le_of_ble_eq_true rfl) dX5_readyIn_20 ⟨Nat.le_of_ble_eq_true rfl, Nat.le_of_ble_eq_true rfl⟩ (fun r20 u20 h20 => ?_)
        obtain ⟨zr20, zu20⟩ := h20
        subst r20
        subst u20
        refine z_if_eq (tgt := 38) C dX5_readyIn_23 (by decide) (fun zc23 => ?_) (fun zc23 => ?_)
        · skip
          have h := z1f zc23
          refine z_iinc (L' := [(3, .int (nI (k + 1))), (0, .ref (ad 16)), (1, .int (nI x)), (2, .int (r9))]) C dX5_readyIn_38 3 rfl (nI_1 k) (by decide) rfl ?_
          refine z_goto (tgt := 4) C dX5_readyIn_41 (by decide) ?_
          refine z_sub (L' := [(0, .ref (ad 16)), (1, .int (nI x)), (2, .int (r9)), (3, .int (nI (k + 1)))]) [1, 2, 3, 0] rfl ?_
          exact ih4 (k + 1) r9 (by omega) (by omega) (by rw [hr9, mks, if_neg h, Nat.or_zero])
        · skip
          have h := z1t zc23
          refine z_iload_n C dX5_readyIn_26 2 rfl ?_
          refine z_aload_n C dX5_readyIn_27 0 rfl ?_
          refine z_get (q := 16) C (T := TX5) (N := 3) (ci := 5) (own := RX5) (index := 11) (v := .ref (ad 17)) hT5 hown hK (by decide) rfl rfl 0 (by decide) (hts (.fieldLink RX5 11 "TriggerAnalyzer$RuleBook" "rules" "[LTriggerAnalyzer$Rule;") (by decide +kernel)) (fun _ h9 => h9) rfl dX5_readyIn_28 ?_
          refine z_iload_n C dX5_readyIn_31 3 rfl ?_
          refine z_aald (q := 17) (len := 8) (k := k) C hK (by decide) rfl 2 rfl (rfl) (by omega) (by decide) (a := ad k) rfl dX5_readyIn_32 ?_
          refine z_get (q := k) C (T := TX4) (N := 11) (ci := 4) (own := RX5) (index := 45) (v := .int (nI (2 ^ k))) hT4 hown hK (by omega) (xF_r zn10) rfl 0 (by decide) (hts (.fieldLink RX5 45 "TriggerAnalyzer$Rule" "bit" "I") (by decide +kernel)) (fun _ h9 => h9) rfl dX5_readyIn_33 ?_
          refine z_ior C dX5_readyIn_36 ?_
          refine z_istore_n (L' := [(2, .int ((r9) ||| (nI (2 ^ k)))), (0, .ref (ad 16)), (1, .int (nI x)), (3, .int (nI k))]) C dX5_readyIn_37 (by decide) rfl ?_
          refine z_iinc (L' := [(3, .int (nI (k + 1))), (2, .int ((r9) ||| (nI (2 ^ k)))), (0, .ref (ad 16)), (1, .int (nI x))]) C dX5_readyIn_38 3 rfl (nI_1 k) (by decide) rfl ?_
          refine z_goto (tgt := 4) C dX5_readyIn_41 (by decide) ?_
          refine z_sub (L' := [(0, .ref (ad 16)), (1, .int (nI x)), (2, .int ((r9) ||| (nI (2 ^ k)))), (3, .int (nI (k + 1)))]) [2, 3, 1, 0] rfl ?_
          exact ih4 (k + 1) ((r9) ||| (nI (2 ^ k))) (by omega) (by omega) (by rw [hr9, fa_or, mks, if_pos h])
  refine z_sub (L' := [(0, .ref (ad 16)), (1, .int (nI x)), (2, .int (nI 0)), (3, .int (nI 0))]) [2, 3, 1, 0] rfl ?_
  exact loop4 9 0 (nI 0) (by omega) (by omega) rfl

set_option maxHeartbeats 4000000 in
set_option maxRecDepth 100000 in
theorem c_X5_firstReadyIn (l : Launch) (D : va_G) (ad : Nat → Nat) (cI cL cR : ClassId) (hI : gI 34 ad) (u : xS) (n : Nat) (B : Nat → Nat → Nat) (hR : xR u n B) (x : Nat) (hx : x < 16384) : ∀ sz, Met l yX5_firstReadyIn wsX5_firstReadyIn ({ frames := 2, cells := 0, slots := 0, locals := 42 }) (XP D ad cI cL cR u [.ref (ad 16), .int (nI x)] sz) (va_Qq (fun r u' => ((∃ k, k < 8 ∧ rdy1 B k (x / 64) = true ∧ (∀ j, j < k → rdy1 B j (x / 64) = false) ∧ r = some (ad k)) ∨ ((∀ j, j < 8 → rdy1 B j (x / 64) = false) ∧ r = none)) ∧ u' = u) (XB D ad cI cL cR) (gA 34 ad sz)) 0 0 (gA 34 ad sz) := by
  intro sz
  refine z_met (cc := cX5_firstReadyIn) (maxL := 3) (ret := (some (.object "TriggerAnalyzer$Rule"))) (by decide) rfl (Nat.le_of_ble_eq_true rfl) ?_
  intro pq lq sq mq aq Qq bq hmq cq C hr hml hown hts hlocks hK hX hsz hQ
  subst hsz
  have hT5 : ∀ w ∈ wsX50, w.before aq sq = true := fun w h => hts w ((by decide +kernel : ∀ w ∈ wsX50, w ∈ wsX5_firstReadyIn) w h)
  refine z_sub (L' := [(0, .ref (ad 16)), (1, .int (nI x))]) [0, 1] rfl ?_
  refine z_iconst (v := nI 0) C (by decide) dX5_firstReadyIn_0 ?_
  refine z_istore_n (L' := [(2, .int (nI 0)), (0, .ref (ad 16)), (1, .int (nI x))]) C dX5_firstReadyIn_1 (by decide) rfl ?_
  have loop2 : ∀ (d2 : Nat) (k : Nat), 8 - k < d2 → (k ≤ 8) → (∀ j, j < k → rdy1 B j (x / 64) = false) → ZZ pq l lq { frames := 2, cells := 0, slots := 0, locals := 42 } sq mq aq bq hmq cq D vwCl 34 ad 3 0 0 Qq (xF ad cI cL cR u) [(0, .ref (ad 16)), (1, .int (nI x)), (2, .int (nI k))] 2 [] := by
    intro d2
    induction d2 with
    | zero => intro k hz; exact absurd hz (Nat.not_lt_zero _)
    | succ d2 ih2 =>
      intro k hz2 hk hno
      refine z_iload_n C dX5_firstReadyIn_2 2 rfl ?_
      refine z_aload_n C dX5_firstReadyIn_3 0 rfl ?_
      refine z_get (q := 16) C (T := TX5) (N := 3) (ci := 5) (own := RX5) (index := 11) (v := .ref (ad 17)) hT5 hown hK (by decide) rfl rfl 0 (by decide) (hts (.fieldLink RX5 11 "TriggerAnalyzer$RuleBook" "rules" "[LTriggerAnalyzer$Rule;") (by decide +kernel)) (fun _ h9 => h9) rfl dX5_firstReadyIn_4 ?_
      refine z_alen (q := 17) (len := 8) C hK (by decide) rfl 2 rfl (v := nI 8) (by decide) dX5_firstReadyIn_7 ?_
      refine z_icmp_ge (tgt := 37) C dX5_firstReadyIn_8 (by decide) (fun zc8 => ?_) (fun zc8 => ?_)
      · skip
        have zn8 := zge_t (a := k) (b := 8) (by omega) (by omega) zc8
        refine z_null C dX5_firstReadyIn_37 ?_
        exact z_aret C hr ⟨_, rfl⟩ hlocks none rfl hQ u (⟨Or.inr ⟨fun j hj => hno j (by omega), rfl⟩, rfl⟩) (fun _ _ => rfl) dX5_firstReadyIn_38
      · skip
        have zn8 := zge_f (a := k) (b := 8) (by omega) (by omega) zc8
        refine z_aload_n C dX5_firstReadyIn_11 0 rfl ?_
        refine z_get (q := 16) C (T := TX5) (N := 3) (ci := 5) (own := RX5) (index := 11) (v := .ref (ad 17)) hT5 hown hK (by decide) rfl rfl 0 (by decide) (hts (.fieldLink RX5 11 "TriggerAnalyzer$RuleBook" "rules" "[LTriggerAnalyzer$Rule;") (by decide +kernel)) (fun _ h9 => h9) rfl dX5_firstReadyIn_12 ?_
        refine z_iload_n C dX5_firstReadyIn_15 2 rfl ?_
        refine z_aald (q := 17) (len := 8) (k := k) C hK (by decide) rfl 2 rfl (rfl) (by omega) (by decide) (a := ad k) rfl dX5_firstReadyIn_16 ?_
        refine z_iload_n C dX5_firstReadyIn_17 1 rfl ?_
        refine z_callVi xX_ok C hml hown hts hK hX (c_X4_isReadyIn l D ad cI cL cR hI u n B hR k zn8 x hx) (cwV 1 hts gX5_firstReadyIn_X4_isReadyIn rfl rfl rfl (by decide +kernel) ⟨Nat.le_of_ble_eq_true rfl, Nat.le_of_ble_eq_true rfl⟩) (by omega) (ci := 4) (xF_r zn8) rfl rfl (st := []) rfl (Nat.le_of_ble_eq_true rfl) dX5_firstReadyIn_18 ⟨Nat.le_of_ble_eq_true rfl, Nat.le_of_ble_eq_true rfl⟩ (fun r18 u18 h18 => ?_)
        obtain ⟨zr18, zu18⟩ := h18
        subst r18
        subst u18
        refine z_if_eq (tgt := 31) C dX5_firstReadyIn_21 (by decide) (fun zc21 => ?_) (fun zc21 => ?_)
        · skip
          have h := z1f zc21
          refine z_iinc (L' := [(2, .int (nI (k + 1))), (0, .ref (ad 16)), (1, .int (nI x))]) C dX5_firstReadyIn_31 2 rfl (nI_1 k) (by decide) rfl ?_
          refine z_goto (tgt := 2) C dX5_firstReadyIn_34 (by decide) ?_
          refine z_sub (L' := [(0, .ref (ad 16)), (1, .int (nI x)), (2, .int (nI (k + 1)))]) [1, 2, 0] rfl ?_
          exact ih2 (k + 1) (by omega) (by omega) (fun j hj => by rcases Nat.lt_or_ge j k with q | q; exact hno j q; rw [show j = k by omega]; exact Bool.eq_false_iff.mpr h)
        · skip
          have h := z1t zc21
          refine z_aload_n C dX5_firstReadyIn_24 0 rfl ?_
          refine z_get (q := 16) C (T := TX5) (N := 3) (ci := 5) (own := RX5) (index := 11) (v := .ref (ad 17)) hT5 hown hK (by decide) rfl rfl 0 (by decide) (hts (.fieldLink RX5 11 "TriggerAnalyzer$RuleBook" "rules" "[LTriggerAnalyzer$Rule;") (by decide +kernel)) (fun _ h9 => h9) rfl dX5_firstReadyIn_25 ?_
          refine z_iload_n C dX5_firstReadyIn_28 2 rfl ?_
          refine z_aald (q := 17) (len := 8) (k := k) C hK (by decide) rfl 2 rfl (rfl) (by omega) (by decide) (a := ad k) rfl dX5_firstReadyIn_29 ?_
          exact z_aret C hr ⟨_, rfl⟩ hlocks (some (ad k)) rfl hQ u (⟨Or.inl ⟨k, zn8, h, hno, rfl⟩, rfl⟩) (fun _ _ => rfl) dX5_firstReadyIn_30
  refine z_sub (L' := [(0, .ref (ad 16)), (1, .int (nI x)), (2, .int (nI 0))]) [1, 2, 0] rfl ?_
  exact loop2 9 0 (by omega) (by omega) (fun j hj => absurd hj (Nat.not_lt_zero _))

set_option maxHeartbeats 4000000 in
set_option maxRecDepth 100000 in
theorem c_X5_played (l : Launch) (D : va_G) (ad : Nat → Nat) (cI cL cR : ClassId) (hI : gI 34 ad) (u : xS) (n : Nat) (B : Nat → Nat → Nat) (hR : xR u n B) (x : Nat) (hx : x < 16384) (i : Nat) (hi : i < 8) : ∀ sz, Met l yX5_played wsX5_played ({ frames := 2, cells := 0, slots := 0, locals := 47 }) (XP D ad cI cL cR u [.ref (ad 16), .int (nI x), .ref (ad i)] sz) (va_Qi (fun r u' => r = nI (ply B i x) ∧ u' = u) (XB D ad cI cL cR) (gA 34 ad sz)) 0 0 (gA 34 ad sz) := by
  intro sz
  refine z_met (cc := cX5_played) (maxL := 5) (ret := (some .int)) (by decide) rfl (Nat.le_of_ble_eq_true rfl) ?_
  intro pq lq sq mq aq Qq bq hmq cq C hr hml hown hts hlocks hK hX hsz hQ
  subst hsz
  have hT4 : ∀ w ∈ wsX40, w.before aq sq = true := fun w h => hts w ((by decide +kernel : ∀ w ∈ wsX40, w ∈ wsX5_played) w h)
  refine z_sub (L' := [(0, .ref (ad 16)), (1, .int (nI x)), (2, .ref (ad i))]) [0, 1, 2] rfl ?_
  have hc : clr (x / 64) i < 256 := clr_lt _ _
  have hh : (64 * clr (x / 64) i + x % 64) % 64 = x % 64 := by omega
  have g4 : B i 4 ≤ 4 := gB_4 hR.1 hi
  refine z_iload_n C dX5_played_0 1 rfl ?_
  refine z_callSNi xX_ok C hml hown hts hK hX (c_X6_factsIn l D ad cI cL cR hI u x) ⟨va_cnB 1 hts gX5_played_X6_factsIn_n61 rfl rfl rfl hX.1.2.2.2.1 (hts (.initialized RX6) (by decide +kernel)) (by decide +kernel) ⟨Nat.le_of_ble_eq_true rfl, Nat.le_of_ble_eq_true rfl⟩, hts (.static yX6_factsIn) (by decide +kernel), trivial⟩ rfl (st := []) rfl (Nat.le_of_ble_eq_true rfl) dX5_played_1 ⟨Nat.le_of_ble_eq_true rfl, Nat.le_of_ble_eq_true rfl⟩ (fun r1 u1 h1 => ?_)
  obtain ⟨zr1, zu1⟩ := h1
  subst r1
  subst u1
  refine z_iload_n C dX5_played_4 1 rfl ?_
  refine z_callSNi xX_ok C hml hown hts hK hX (c_X6_triggeredIn l D ad cI cL cR hI u x (by omega)) ⟨va_cnB 1 hts gX5_played_X6_triggeredIn_n54 rfl rfl rfl hX.1.2.2.1 (hts (.initialized RX6) (by decide +kernel)) (by decide +kernel) ⟨Nat.le_of_ble_eq_true rfl, Nat.le_of_ble_eq_true rfl⟩, hts (.static yX6_triggeredIn) (by decide +kernel), trivial⟩ rfl (st := [.int (nI (x % 64))]) rfl (Nat.le_of_ble_eq_true rfl) dX5_played_5 ⟨Nat.le_of_ble_eq_true rfl, Nat.le_of_ble_eq_true rfl⟩ (fun r5 u5 h5 => ?_)
  obtain ⟨zr5, zu5⟩ := h5
  subst r5
  subst u5
  refine z_aload_n C dX5_played_8 2 rfl ?_
  refine z_get (q := i) C (T := TX4) (N := 11) (ci := 4) (own := RX5) (index := 45) (v := .int (nI (2 ^ i))) hT4 hown hK (by omega) (xF_r hi) rfl 0 (by decide) (hts (.fieldLink RX5 45 "TriggerAnalyzer$Rule" "bit" "I") (by decide +kernel)) (fun _ h9 => h9) rfl dX5_played_9 ?_
  refine z_iconst (v := (-1)) C (by decide) dX5_played_12 ?_
  refine z_ixor C dX5_played_13 ?_
  refine z_iand C dX5_played_14 ?_
  refine z_topi (y := nI (clr (x / 64) i)) (zi_clr (by omega) hi) ?_
  refine z_callSNi xX_ok C hml hown hts hK hX (c_X6_situationOf l D ad cI cL cR hI u (x % 64) (clr (x / 64) i) (by omega) (by omega)) ⟨va_cnB 2 hts gX5_played_X6_situationOf_n64 rfl rfl rfl hX.1.2.2.2.2.1 (hts (.initialized RX6) (by decide +kernel)) (by decide +kernel) ⟨Nat.le_of_ble_eq_true rfl, Nat.le_of_ble_eq_true rfl⟩, hts (.static yX6_situationOf) (by decide +kernel), trivial⟩ rfl (st := []) rfl (Nat.le_of_ble_eq_true rfl) dX5_played_15 ⟨Nat.le_of_ble_eq_true rfl, Nat.le_of_ble_eq_true rfl⟩ (fun r15 u15 h15 => ?_)
  obtain ⟨zr15, zu15⟩ := h15
  subst r15
  subst u15
  refine z_istore_n (L' := [(3, .int (nI (64 * ((clr (x / 64) i)) + ((x % 64))))), (0, .ref (ad 16)), (1, .int (nI x)), (2, .ref (ad i))]) C dX5_played_18 (by decide) rfl ?_
  refine z_aload_n C dX5_played_19 3 rfl ?_
  refine z_iload_n C dX5_played_20 0 rfl ?_
  refine z_callVi xX_ok C hml hown hts hK hX (c_X4_holdsIn l D ad cI cL cR hI u n B hR i hi (64 * clr (x / 64) i + x % 64) (by omega)) (cwV 1 hts gX5_played_X4_holdsIn rfl rfl rfl (by decide +kernel) ⟨Nat.le_of_ble_eq_true rfl, Nat.le_of_ble_eq_true rfl⟩) (by omega) (ci := 4) (xF_r hi) rfl rfl (st := []) rfl (Nat.le_of_ble_eq_true rfl) dX5_played_21 ⟨Nat.le_of_ble_eq_true rfl, Nat.le_of_ble_eq_true rfl⟩ (fun r21 u21 h21 => ?_)
  obtain ⟨zr21, zu21⟩ := h21
  subst r21
  subst u21
  refine z_if_ne (tgt := 29) C dX5_played_24 (by decide) (fun zc24 => ?_) (fun zc24 => ?_)
  · skip
    have h := z1t zc24
    rw [hh] at h
    refine z_iconst (v := nI 0) C (by decide) dX5_played_29 ?_
    refine z_istore (L' := [(4, .int (nI 0)), (3, .int (nI (64 * ((clr (x / 64) i)) + ((x % 64))))), (0, .ref (ad 16)), (1, .int (nI x)), (2, .ref (ad i))]) C dX5_played_30 (by decide) rfl ?_
    have loop32 : ∀ (d32 : Nat) (k X : Nat), B i 4 - k < d32 → (k ≤ B i 4) → (X = plys B i (64 * clr (x / 64) i + x % 64) k) → ZZ pq l lq { frames := 2, cells := 0, slots := 0, locals := 47 } sq mq aq bq hmq cq D vwCl 34 ad 5 0 0 Qq (xF ad cI cL cR u) [(0, .ref (ad 16)), (1, .int (nI x)), (2, .ref (ad i)), (3, .int (nI X)), (4, .int (nI k))] 32 [] := by
      intro d32
      induction d32 with
      | zero => intro k X hz; exact absurd hz (Nat.not_lt_zero _)
      | succ d32 ih32 =>
        intro k X hz32 hk hXq
        have hX9 : X < 16384 := by rw [hXq]; exact plys_lt hR.1 hi (by omega) k hk
        refine z_iload C dX5_played_32 4 rfl ?_
        refine z_aload_n C dX5_played_34 2 rfl ?_
        refine z_get (q := i) C (T := TX4) (N := 11) (ci := 4) (own := RX5) (index := 75) (v := .int (u.1 i 6)) hT4 hown hK (by omega) (xF_r hi) rfl 6 (by decide) (hts (.fieldLink RX5 75 "TriggerAnalyzer$Rule" "actionCount" "I") (by decide +kernel)) (fun _ h9 => h9) rfl dX5_played_35 ?_
        refine z_topi (y := nI (B i 4)) (xR_6 hR (by omega)) ?_
        refine z_icmp_ge (tgt := 59) C dX5_played_38 (by decide) (fun zc38 => ?_) (fun zc38 => ?_)
        · skip
          have zn38 := zge_t (a := k) (b := B i 4) (by omega) (by omega) zc38
          refine z_iload_n C dX5_played_59 3 rfl ?_
          exact z_iret C hr hlocks hQ u (⟨by unfold ply; rw [if_pos h, hXq, show k = B i 4 by omega], rfl⟩) (fun _ _ => rfl) dX5_played_60
        · skip
          have zn38 := zge_f (a := k) (b := B i 4) (by omega) (by omega) zc38
          refine z_aload_n C dX5_played_41 0 rfl ?_
          refine z_iload_n C dX5_played_42 3 rfl ?_
          refine z_aload_n C dX5_played_43 2 rfl ?_
          refine z_iload C dX5_played_44 4 rfl ?_
          refine z_callVi xX_ok C hml hown hts hK hX (c_X4_actionAt l D ad cI cL cR hI u n B hR i hi k zn38) (cwV 1 hts gX5_played_X4_actionAt rfl rfl rfl (by decide +kernel) ⟨Nat.le_of_ble_eq_true rfl, Nat.le_of_ble_eq_true rfl⟩) (by omega) (ci := 4) (xF_r hi) rfl rfl (st := [.int (nI X), .ref (ad 16)]) rfl (Nat.le_of_ble_eq_true rfl) dX5_played_46 ⟨Nat.le_of_ble_eq_true rfl, Nat.le_of_ble_eq_true rfl⟩ (fun r46 u46 h46 => ?_)
          obtain ⟨zr46, zu46⟩ := h46
          subst r46
          subst u46
          refine z_callVi xX_ok C hml hown hts hK hX (c_X5_changed l D ad cI cL cR hI u n B hR X hX9 (B i (6 + k)) (gB_6 hR.1 hi (by omega))) (cwV 2 hts gX5_played_X5_changed rfl rfl rfl (by decide +kernel) ⟨Nat.le_of_ble_eq_true rfl, Nat.le_of_ble_eq_true rfl⟩) (by decide) (ci := 5) rfl rfl rfl (st := []) rfl (Nat.le_of_ble_eq_true rfl) dX5_played_49 ⟨Nat.le_of_ble_eq_true rfl, Nat.le_of_ble_eq_true rfl⟩ (fun r49 u49 h49 => ?_)
          obtain ⟨zr49, zu49⟩ := h49
          subst r49
          subst u49
          refine z_istore_n (L' := [(3, .int (nI (chg B X ((B i (6 + k)))))), (0, .ref (ad 16)), (1, .int (nI x)), (2, .ref (ad i)), (4, .int (nI k))]) C dX5_played_52 (by decide) rfl ?_
          refine z_iinc (L' := [(4, .int (nI (k + 1))), (3, .int (nI (chg B X ((B i (6 + k)))))), (0, .ref (ad 16)), (1, .int (nI x)), (2, .ref (ad i))]) C dX5_played_53 4 rfl (nI_1 k) (by decide) rfl ?_
          refine z_goto (tgt := 32) C dX5_played_56 (by decide) ?_
          refine z_sub (L' := [(0, .ref (ad 16)), (1, .int (nI x)), (2, .ref (ad i)), (3, .int (nI (chg B X ((B i (6 + k)))))), (4, .int (nI (k + 1)))]) [2, 3, 4, 1, 0] rfl ?_
          exact ih32 (k + 1) (chg B X (B i (6 + k))) (by omega) (by omega) (by rw [hXq]; rfl)
    refine z_sub (L' := [(0, .ref (ad 16)), (1, .int (nI x)), (2, .ref (ad i)), (3, .int (nI (64 * ((clr (x / 64) i)) + ((x % 64))))), (4, .int (nI 0))]) [2, 3, 4, 1, 0] rfl ?_
    exact loop32 (B i 4 + 1) 0 (64 * clr (x / 64) i + x % 64) (by omega) (by omega) rfl
  · skip
    have h := z1f zc24
    rw [hh] at h
    refine z_iload_n C dX5_played_27 0 rfl ?_
    exact z_iret C hr hlocks hQ u (⟨by unfold ply; rw [if_neg h], rfl⟩) (fun _ _ => rfl) dX5_played_28

set_option maxHeartbeats 4000000 in
set_option maxRecDepth 100000 in
theorem c_X5_triggerableBy (l : Launch) (D : va_G) (ad : Nat → Nat) (cI cL cR : ClassId) (hI : gI 34 ad) (u : xS) (n : Nat) (B : Nat → Nat → Nat) (hR : xR u n B) (i : Nat) (hi : i < 8) : ∀ sz, Met l yX5_triggerableBy wsX5_triggerableBy ({ frames := 1, cells := 0, slots := 0, locals := 21 }) (XP D ad cI cL cR u [.ref (ad 16), .ref (ad i)] sz) (va_Qi (fun r u' => r = nI (trg B i) ∧ u' = u) (XB D ad cI cL cR) (gA 34 ad sz)) 0 0 (gA 34 ad sz) := by
  intro sz
  refine z_met (cc := cX5_triggerableBy) (maxL := 4) (ret := (some .int)) (by decide) rfl (Nat.le_of_ble_eq_true rfl) ?_
  intro pq lq sq mq aq Qq bq hmq cq C hr hml hown hts hlocks hK hX hsz hQ
  subst hsz
  have hT4 : ∀ w ∈ wsX40, w.before aq sq = true := fun w h => hts w ((by decide +kernel : ∀ w ∈ wsX40, w ∈ wsX5_triggerableBy) w h)
  refine z_sub (L' := [(0, .ref (ad 16)), (1, .ref (ad i))]) [0, 1] rfl ?_
  have g4 : B i 4 ≤ 4 := gB_4 hR.1 hi
  have g3 : B i 3 ≤ 1 := gB_3 hR.1 hi
  refine z_iconst (v := nI 0) C (by decide) dX5_triggerableBy_0 ?_
  refine z_istore_n (L' := [(2, .int (nI 0)), (0, .ref (ad 16)), (1, .ref (ad i))]) C dX5_triggerableBy_1 (by decide) rfl ?_
  refine z_aload_n C dX5_triggerableBy_2 2 rfl ?_
  refine z_get (q := i) C (T := TX4) (N := 11) (ci := 4) (own := RX5) (index := 41) (v := .int (u.1 i 5)) hT4 hown hK (by omega) (xF_r hi) rfl 5 (by decide) (hts (.fieldLink RX5 41 "TriggerAnalyzer$Rule" "on" "Z") (by decide +kernel)) (fun _ h9 => h9) rfl dX5_triggerableBy_3 ?_
  refine z_topi (y := nI (B i 3)) (xR_5 hR (by omega)) ?_
  refine z_if_eq (tgt := 37) C dX5_triggerableBy_6 (by decide) (fun zc6 => ?_) (fun zc6 => ?_)
  · skip
    have zn6 := z0_t (by omega) zc6
    refine z_iload_n C dX5_triggerableBy_37 0 rfl ?_
    exact z_iret C hr hlocks hQ u (⟨by unfold trg; rw [if_pos zn6], rfl⟩) (fun _ _ => rfl) dX5_triggerableBy_38
  · skip
    have zn6 := z0_f zc6
    refine z_iconst (v := nI 0) C (by decide) dX5_triggerableBy_9 ?_
    refine z_istore_n (L' := [(3, .int (nI 0)), (2, .int (nI 0)), (0, .ref (ad 16)), (1, .ref (ad i))]) C dX5_triggerableBy_10 (by decide) rfl ?_
    have loop11 : ∀ (d11 : Nat) (k X : Nat), B i 4 - k < d11 → (k ≤ B i 4) → (X = trgs B i k) → ZZ pq l lq { frames := 1, cells := 0, slots := 0, locals := 21 } sq mq aq bq hmq cq D vwCl 34 ad 4 0 0 Qq (xF ad cI cL cR u) [(0, .ref (ad 16)), (1, .ref (ad i)), (2, .int (nI X)), (3, .int (nI k))] 11 [] := by
      intro d11
      induction d11 with
      | zero => intro k X hz; exact absurd hz (Nat.not_lt_zero _)
      | succ d11 ih11 =>
        intro k X hz11 hk hXq
        refine z_iload_n C dX5_triggerableBy_11 3 rfl ?_
        refine z_aload_n C dX5_triggerableBy_12 1 rfl ?_
        refine z_get (q := i) C (T := TX4) (N := 11) (ci := 4) (own := RX5) (index := 75) (v := .int (u.1 i 6)) hT4 hown hK (by omega) (xF_r hi) rfl 6 (by decide) (hts (.fieldLink RX5 75 "TriggerAnalyzer$Rule" "actionCount" "I") (by decide +kernel)) (fun _ h9 => h9) rfl dX5_triggerableBy_13 ?_
        refine z_topi (y := nI (B i 4)) (xR_6 hR (by omega)) ?_
        refine z_icmp_ge (tgt := 37) C dX5_triggerableBy_16 (by decide) (fun zc16 => ?_) (fun zc16 => ?_)
        · skip
          have zn16 := zge_t (a := k) (b := B i 4) (by omega) (by omega) zc16
          refine z_iload_n C dX5_triggerableBy_37 2 rfl ?_
          exact z_iret C hr hlocks hQ u (⟨by unfold trg; rw [if_neg zn6, hXq, show k = B i 4 by omega], rfl⟩) (fun _ _ => rfl) dX5_triggerableBy_38
        · skip
          have zn16 := zge_f (a := k) (b := B i 4) (by omega) (by omega) zc16
          refine z_iload_n C dX5_triggerableBy_19 2 rfl ?_
          refine z_aload_n C dX5_triggerableBy_20 0 rfl ?_
          refine z_aload_n C dX5_triggerableBy_21 1 rfl ?_
          refine z_iload_n C dX5_triggerableBy_22 3 rfl ?_
          refine z_callVi xX_ok C hml hown hts hK hX (c_X4_actionAt l D ad cI cL cR hI u n B hR i hi k zn16) (cwV 1 hts gX5_triggerableBy_X4_actionAt rfl rfl rfl (by decide +kernel) ⟨Nat.le_of_ble_eq_true rfl, Nat.le_of_ble_eq_true rfl⟩) (by omega) (ci := 4) (xF_r hi) rfl rfl (st := [.ref (ad 16), .int (nI X)]) rfl (Nat.le_of_ble_eq_true rfl) dX5_triggerableBy_23 ⟨Nat.le_of_ble_eq_true rfl, Nat.le_of_ble_eq_true rfl⟩ (fun r23 u23 h23 => ?_)
          obtain ⟨zr23, zu23⟩ := h23
          subst r23
          subst u23
          refine z_callVi xX_ok C hml hown hts hK hX (c_X5_listenersTo l D ad cI cL cR hI u n B hR (B i (6 + k)) (gB_6 hR.1 hi (by omega))) (cwV 1 hts gX5_triggerableBy_X5_listenersTo rfl rfl rfl (by decide +kernel) ⟨Nat.le_of_ble_eq_true rfl, Nat.le_of_ble_eq_true rfl⟩) (by decide) (ci := 5) rfl rfl rfl (st := [.int (nI X)]) rfl (Nat.le_of_ble_eq_true rfl) dX5_triggerableBy_26 ⟨Nat.le_of_ble_eq_true rfl, Nat.le_of_ble_eq_true rfl⟩ (fun r26 u26 h26 => ?_)
          obtain ⟨zr26, zu26⟩ := h26
          subst r26
          subst u26
          refine z_ior C dX5_triggerableBy_29 ?_
          refine z_topi (y := nI (X ||| (lis B ((B i (6 + k)))))) (fa_or X (lis B ((B i (6 + k))))) ?_
          refine z_istore_n (L' := [(2, .int (nI (X ||| (lis B ((B i (6 + k))))))), (0, .ref (ad 16)), (1, .ref (ad i)), (3, .int (nI k))]) C dX5_triggerableBy_30 (by decide) rfl ?_
          refine z_iinc (L' := [(3, .int (nI (k + 1))), (2, .int (nI (X ||| (lis B ((B i (6 + k))))))), (0, .ref (ad 16)), (1, .ref (ad i))]) C dX5_triggerableBy_31 3 rfl (nI_1 k) (by decide) rfl ?_
          refine z_goto (tgt := 11) C dX5_triggerableBy_34 (by decide) ?_
          refine z_sub (L' := [(0, .ref (ad 16)), (1, .ref (ad i)), (2, .int (nI (X ||| (lis B ((B i (6 + k))))))), (3, .int (nI (k + 1)))]) [2, 3, 1, 0] rfl ?_
          exact ih11 (k + 1) (X ||| lis B (B i (6 + k))) (by omega) (by omega) (by rw [hXq]; rfl)
    refine z_sub (L' := [(0, .ref (ad 16)), (1, .ref (ad i)), (2, .int (nI 0)), (3, .int (nI 0))]) [2, 3, 1, 0] rfl ?_
    exact loop11 (B i 4 + 1) 0 0 (by omega) (by omega) rfl

set_option maxHeartbeats 4000000 in
set_option maxRecDepth 100000 in
theorem c_X5_addedTo (l : Launch) (D : va_G) (ad : Nat → Nat) (cI cL cR : ClassId) (hI : gI 34 ad) (u : xS) (n : Nat) (B : Nat → Nat → Nat) (hR : xR u n B) (s9 : Int64) : ∀ sz, Met l yX5_addedTo wsX5_addedTo ({ frames := 2, cells := 0, slots := 0, locals := 46 }) (XP D ad cI cL cR u [.ref (ad 16), .long (s9)] sz) (va_Ql (fun r u' => r = dbok B (s9 * 31 + (nI n).toInt64) n ∧ u' = u) (XB D ad cI cL cR) (gA 34 ad sz)) 0 0 (gA 34 ad sz) := by
  intro sz
  refine z_met (cc := cX5_addedTo) (maxL := 6) (ret := (some .long)) (by decide) rfl (Nat.le_of_ble_eq_true rfl) ?_
  intro pq lq sq mq aq Qq bq hmq cq C hr hml hown hts hlocks hK hX hsz hQ
  subst hsz
  have hT5 : ∀ w ∈ wsX50, w.before aq sq = true := fun w h => hts w ((by decide +kernel : ∀ w ∈ wsX50, w ∈ wsX5_addedTo) w h)
  refine z_sub (L' := [(0, .ref (ad 16)), (1, .long (s9))]) [0, 1] rfl ?_
  have hn8 : n ≤ 8 := gB_8 hR.1
  refine z_lload_n C dX5_addedTo_0 1 rfl ?_
  refine z_ldc2 (v := (31)) C hown (hts (.constantLong RX5 84 (31)) (by decide +kernel)) dX5_addedTo_1 ?_
  refine z_lmul C dX5_addedTo_4 ?_
  refine z_aload_n C dX5_addedTo_5 0 rfl ?_
  refine z_get (q := 16) C (T := TX5) (N := 3) (ci := 5) (own := RX5) (index := 24) (v := .int (u.1 16 2)) hT5 hown hK (by decide) rfl rfl 2 (by decide) (hts (.fieldLink RX5 24 "TriggerAnalyzer$RuleBook" "count" "I") (by decide +kernel)) (fun _ h9 => h9) rfl dX5_addedTo_6 ?_
  refine z_topi (y := nI n) (xR_n hR) ?_
  refine z_i2l C rfl dX5_addedTo_9 ?_
  refine z_ladd C dX5_addedTo_10 ?_
  refine z_lstore_n (L' := [(3, .long (((s9) * (31)) + ((nI n : Int32).toInt64))), (0, .ref (ad 16)), (1, .long (s9))]) C dX5_addedTo_11 (by decide) rfl ?_
  refine z_iconst (v := nI 0) C (by decide) dX5_addedTo_12 ?_
  refine z_istore (L' := [(5, .int (nI 0)), (3, .long (((s9) * (31)) + ((nI n : Int32).toInt64))), (0, .ref (ad 16)), (1, .long (s9))]) C dX5_addedTo_13 (by decide) rfl ?_
  have loop15 : ∀ (d15 : Nat) (k : Nat) (d9 : Int64), n - k < d15 → (k ≤ n) → (d9 = dbok B (s9 * 31 + (nI n).toInt64) k) → ZZ pq l lq { frames := 2, cells := 0, slots := 0, locals := 46 } sq mq aq bq hmq cq D vwCl 34 ad 6 0 0 Qq (xF ad cI cL cR u) [(0, .ref (ad 16)), (3, .long (d9)), (5, .int (nI k))] 15 [] := by
    intro d15
    induction d15 with
    | zero => intro k d9 hz; exact absurd hz (Nat.not_lt_zero _)
    | succ d15 ih15 =>
      intro k d9 hz15 hk hd9
      refine z_iload C dX5_addedTo_15 2 rfl ?_
      refine z_aload_n C dX5_addedTo_17 0 rfl ?_
      refine z_get (q := 16) C (T := TX5) (N := 3) (ci := 5) (own := RX5) (index := 24) (v := .int (u.1 16 2)) hT5 hown hK (by decide) rfl rfl 2 (by decide) (hts (.fieldLink RX5 24 "TriggerAnalyzer$RuleBook" "count" "I") (by decide +kernel)) (fun _ h9 => h9) rfl dX5_addedTo_18 ?_
      refine z_topi (y := nI n) (xR_n hR) ?_
      refine z_icmp_ge (tgt := 52) C dX5_addedTo_21 (by decide) (fun zc21 => ?_) (fun zc21 => ?_)
      · skip
        have zn21 := zge_t (a := k) (b := n) (by omega) (by omega) zc21
        refine z_lload_n C dX5_addedTo_52 1 rfl ?_
        exact z_lret C hr hlocks hQ u (⟨by rw [hd9, show k = n by omega], rfl⟩) (fun _ _ => rfl) dX5_addedTo_53
      · skip
        have zn21 := zge_f (a := k) (b := n) (by omega) (by omega) zc21
        refine z_iload C dX5_addedTo_24 2 rfl ?_
        refine z_aload_n C dX5_addedTo_26 0 rfl ?_
        refine z_get (q := 16) C (T := TX5) (N := 3) (ci := 5) (own := RX5) (index := 11) (v := .ref (ad 17)) hT5 hown hK (by decide) rfl rfl 0 (by decide) (hts (.fieldLink RX5 11 "TriggerAnalyzer$RuleBook" "rules" "[LTriggerAnalyzer$Rule;") (by decide +kernel)) (fun _ h9 => h9) rfl dX5_addedTo_27 ?_
        refine z_alen (q := 17) (len := 8) C hK (by decide) rfl 2 rfl (v := nI 8) (by decide) dX5_addedTo_30 ?_
        refine z_icmp_ge (tgt := 52) C dX5_addedTo_31 (by decide) (fun zc31 => ?_) (fun zc31 => ?_)
        · skip
          have zn31 := zge_t (a := k) (b := 8) (by omega) (by omega) zc31
          exact False.elim (by omega)
        · skip
          have zn31 := zge_f (a := k) (b := 8) (by omega) (by omega) zc31
          refine z_aload_n C dX5_addedTo_34 0 rfl ?_
          refine z_get (q := 16) C (T := TX5) (N := 3) (ci := 5) (own := RX5) (index := 11) (v := .ref (ad 17)) hT5 hown hK (by decide) rfl rfl 0 (by decide) (hts (.fieldLink RX5 11 "TriggerAnalyzer$RuleBook" "rules" "[LTriggerAnalyzer$Rule;") (by decide +kernel)) (fun _ h9 => h9) rfl dX5_addedTo_35 ?_
          refine z_iload C dX5_addedTo_38 2 rfl ?_
          refine z_aald (q := 17) (len := 8) (k := k) C hK (by decide) rfl 2 rfl (rfl) (by omega) (by decide) (a := ad k) rfl dX5_addedTo_40 ?_
          refine z_lload_n C dX5_addedTo_41 1 rfl ?_
          refine z_callVl xX_ok C hml hown hts hK hX (c_X4_addedTo l D ad cI cL cR hI u n B hR k zn31 d9) (cwV 1 hts gX5_addedTo_X4_addedTo rfl rfl rfl (by decide +kernel) ⟨Nat.le_of_ble_eq_true rfl, Nat.le_of_ble_eq_true rfl⟩) (by omega) (ci := 4) (xF_r zn31) rfl rfl (st := []) rfl (Nat.le_of_ble_eq_true rfl) dX5_addedTo_42 ⟨Nat.le_of_ble_eq_true rfl, Nat.le_of_ble_eq_true rfl⟩ (fun r42 u42 h42 => ?_)
          obtain ⟨zr42, zu42⟩ := h42
          subst r42
          subst u42
          refine z_lstore_n (L' := [(3, .long (drul B k d9)), (0, .ref (ad 16)), (5, .int (nI k))]) C dX5_addedTo_45 (by decide) rfl ?_
          refine z_iinc (L' := [(5, .int (nI (k + 1))), (3, .long (drul B k d9)), (0, .ref (ad 16))]) C dX5_addedTo_46 2 rfl (nI_1 k) (by decide) rfl ?_
          refine z_goto (tgt := 15) C dX5_addedTo_49 (by decide) ?_
          refine z_sub (L' := [(0, .ref (ad 16)), (3, .long (drul B k d9)), (5, .int (nI (k + 1)))]) [2, 1, 0] rfl ?_
          exact ih15 (k + 1) (drul B k d9) (by omega) (by omega) (by rw [hd9]; rfl)
  refine z_sub (L' := [(0, .ref (ad 16)), (3, .long (((s9) * (31)) + ((nI n : Int32).toInt64))), (5, .int (nI 0))]) [2, 1, 0] rfl ?_
  exact loop15 (n + 1) 0 (((s9) * (31)) + ((nI n : Int32).toInt64)) (by omega) (by omega) rfl

set_option maxHeartbeats 4000000 in
set_option maxRecDepth 100000 in
theorem c_X5_order (l : Launch) (D : va_G) (ad : Nat → Nat) (cI cL cR : ClassId) (hI : gI 34 ad) (u : xS) (n : Nat) (B : Nat → Nat → Nat) (hR : xR u n B) (i : Nat) (hi : i < 8) (j : Nat) (hj : j < 8) : ∀ sz, Met l yX5_order wsX5_order ({ frames := 0, cells := 0, slots := 0, locals := 0 }) (XP D ad cI cL cR u [.ref (ad 16), .ref (ad i), .ref (ad j)] sz) (va_Qv (fun u' => u' = ordS u (abv B i ||| 2 ^ i) (B j 5 ||| 2 ^ j) 8) (XB D ad cI cL cR) (gA 34 ad sz)) 0 0 (gA 34 ad sz) := by
  intro sz
  refine z_met (cc := cX5_order) (maxL := 7) (ret := none) (by decide) rfl (Nat.le_of_ble_eq_true rfl) ?_
  intro pq lq sq mq aq Qq bq hmq cq C hr hml hown hts hlocks hK hX hsz hQ
  subst hsz
  have hT4 : ∀ w ∈ wsX40, w.before aq sq = true := fun w h => hts w ((by decide +kernel : ∀ w ∈ wsX40, w ∈ wsX5_order) w h)
  have hT5 : ∀ w ∈ wsX50, w.before aq sq = true := fun w h => hts w ((by decide +kernel : ∀ w ∈ wsX50, w ∈ wsX5_order) w h)
  refine z_sub (L' := [(0, .ref (ad 16)), (1, .ref (ad i)), (2, .ref (ad j))]) [0, 1, 2] rfl ?_
  have hu9 : abv B i ||| 2 ^ i < 256 := Nat.or_lt_two_pow (n := 8) (abv_lt B i) (pow_lt8 hi)
  have hl9 : B j 5 ||| 2 ^ j < 256 := Nat.or_lt_two_pow (n := 8) (gB_5 hR.1 hj) (pow_lt8 hj)
  refine z_aload_n C dX5_order_0 1 rfl ?_
  refine z_get (q := i) C (T := TX4) (N := 11) (ci := 4) (own := RX5) (index := 48) (v := .int (u.1 i 10)) hT4 hown hK (by omega) (xF_r hi) rfl 10 (by decide) (hts (.fieldLink RX5 48 "TriggerAnalyzer$Rule" "above" "I") (by decide +kernel)) (fun _ h9 => h9) rfl dX5_order_1 ?_
  refine z_topi (y := nI (abv B i)) (xR_10 hR (by omega)) ?_
  refine z_aload_n C dX5_order_4 1 rfl ?_
  refine z_get (q := i) C (T := TX4) (N := 11) (ci := 4) (own := RX5) (index := 45) (v := .int (nI (2 ^ i))) hT4 hown hK (by omega) (xF_r hi) rfl 0 (by decide) (hts (.fieldLink RX5 45 "TriggerAnalyzer$Rule" "bit" "I") (by decide +kernel)) (fun _ h9 => h9) rfl dX5_order_5 ?_
  refine z_ior C dX5_order_8 ?_
  refine z_topi (y := nI ((abv B i) ||| (2 ^ i))) (fa_or (abv B i) (2 ^ i)) ?_
  refine z_istore_n (L' := [(3, .int (nI ((abv B i) ||| (2 ^ i)))), (0, .ref (ad 16)), (1, .ref (ad i)), (2, .ref (ad j))]) C dX5_order_9 (by decide) rfl ?_
  refine z_aload_n C dX5_order_10 3 rfl ?_
  refine z_get (q := j) C (T := TX4) (N := 11) (ci := 4) (own := RX5) (index := 51) (v := .int (u.1 j 9)) hT4 hown hK (by omega) (xF_r hj) rfl 9 (by decide) (hts (.fieldLink RX5 51 "TriggerAnalyzer$Rule" "below" "I") (by decide +kernel)) (fun _ h9 => h9) rfl dX5_order_11 ?_
  refine z_topi (y := nI (B j 5)) (xR_9 hR (by omega)) ?_
  refine z_aload_n C dX5_order_14 3 rfl ?_
  refine z_get (q := j) C (T := TX4) (N := 11) (ci := 4) (own := RX5) (index := 45) (v := .int (nI (2 ^ j))) hT4 hown hK (by omega) (xF_r hj) rfl 0 (by decide) (hts (.fieldLink RX5 45 "TriggerAnalyzer$Rule" "bit" "I") (by decide +kernel)) (fun _ h9 => h9) rfl dX5_order_15 ?_
  refine z_ior C dX5_order_18 ?_
  refine z_topi (y := nI ((B j 5) ||| (2 ^ j))) (fa_or (B j 5) (2 ^ j)) ?_
  refine z_istore (L' := [(4, .int (nI ((B j 5) ||| (2 ^ j)))), (3, .int (nI ((abv B i) ||| (2 ^ i)))), (0, .ref (ad 16)), (1, .ref (ad i)), (2, .ref (ad j))]) C dX5_order_19 (by decide) rfl ?_
  refine z_iconst (v := nI 0) C (by decide) dX5_order_21 ?_
  refine z_istore (L' := [(5, .int (nI 0)), (4, .int (nI ((B j 5) ||| (2 ^ j)))), (3, .int (nI ((abv B i) ||| (2 ^ i)))), (0, .ref (ad 16)), (1, .ref (ad i)), (2, .ref (ad j))]) C dX5_order_22 (by decide) rfl ?_
  have loop24 : ∀ (d24 : Nat) (k : Nat) (w : xS), 8 - k < d24 → (k ≤ 8) → (w = ordS u (abv B i ||| 2 ^ i) (B j 5 ||| 2 ^ j) k) → ZZ pq l lq { frames := 0, cells := 0, slots := 0, locals := 0 } sq mq aq bq hmq cq D vwCl 34 ad 7 0 0 Qq (xF ad cI cL cR w) [(0, .ref (ad 16)), (3, .int (nI (abv B i ||| 2 ^ i))), (4, .int (nI (B j 5 ||| 2 ^ j))), (5, .int (nI k))] 24 [] := by
    intro d24
    induction d24 with
    | zero => intro k w hz; exact absurd hz (Nat.not_lt_zero _)
    | succ d24 ih24 =>
      intro k w hz24 hk hw
      refine z_iload C dX5_order_24 3 rfl ?_
      refine z_aload_n C dX5_order_26 0 rfl ?_
      refine z_get (q := 16) C (T := TX5) (N := 3) (ci := 5) (own := RX5) (index := 11) (v := .ref (ad 17)) hT5 hown hK (by decide) rfl rfl 0 (by decide) (hts (.fieldLink RX5 11 "TriggerAnalyzer$RuleBook" "rules" "[LTriggerAnalyzer$Rule;") (by decide +kernel)) (fun _ h9 => h9) rfl dX5_order_27 ?_
      refine z_alen (q := 17) (len := 8) C hK (by decide) rfl 2 rfl (v := nI 8) (by decide) dX5_order_30 ?_
      refine z_icmp_ge (tgt := 93) C dX5_order_31 (by decide) (fun zc31 => ?_) (fun zc31 => ?_)
      · skip
        have zn31 := zge_t (a := k) (b := 8) (by omega) (by omega) zc31
        exact z_vret C hr hlocks hQ w (by rw [hw, show k = 8 by omega]) (fun _ _ => rfl) dX5_order_93
      · skip
        have zn31 := zge_f (a := k) (b := 8) (by omega) (by omega) zc31
        refine z_aload_n C dX5_order_34 0 rfl ?_
        refine z_get (q := 16) C (T := TX5) (N := 3) (ci := 5) (own := RX5) (index := 11) (v := .ref (ad 17)) hT5 hown hK (by decide) rfl rfl 0 (by decide) (hts (.fieldLink RX5 11 "TriggerAnalyzer$RuleBook" "rules" "[LTriggerAnalyzer$Rule;") (by decide +kernel)) (fun _ h9 => h9) rfl dX5_order_35 ?_
        refine z_iload C dX5_order_38 3 rfl ?_
        refine z_aald (q := 17) (len := 8) (k := k) C hK (by decide) rfl 2 rfl (rfl) (by omega) (by decide) (a := ad k) rfl dX5_order_40 ?_
        refine z_astore (L' := [(6, .ref (ad k)), (0, .ref (ad 16)), (3, .int (nI (abv B i ||| 2 ^ i))), (4, .int (nI (B j 5 ||| 2 ^ j))), (5, .int (nI k))]) C dX5_order_41 (by decide) rfl ?_
        refine z_iload_n C dX5_order_43 2 rfl ?_
        refine z_aload C dX5_order_44 0 rfl ?_
        refine z_get (q := k) C (T := TX4) (N := 11) (ci := 4) (own := RX5) (index := 45) (v := .int (nI (2 ^ k))) hT4 hown hK (by omega) (xF_r zn31) rfl 0 (by decide) (hts (.fieldLink RX5 45 "TriggerAnalyzer$Rule" "bit" "I") (by decide +kernel)) (fun _ h9 => h9) rfl dX5_order_46 ?_
        refine z_iand C dX5_order_49 ?_
        refine z_topi (y := nI ((abv B i ||| 2 ^ i) &&& (2 ^ k))) (fa_and (abv B i ||| 2 ^ i) (2 ^ k)) ?_
        refine z_if_eq (tgt := 65) C dX5_order_50 (by decide) (fun zc50 => ?_) (fun zc50 => ?_)
        · skip
          have h50 := zi_bitF (by omega) zc50
          refine z_iload C dX5_order_65 3 rfl ?_
          refine z_aload C dX5_order_67 0 rfl ?_
          refine z_get (q := k) C (T := TX4) (N := 11) (ci := 4) (own := RX5) (index := 45) (v := .int (nI (2 ^ k))) hT4 hown hK (by omega) (xF_r zn31) rfl 0 (by decide) (hts (.fieldLink RX5 45 "TriggerAnalyzer$Rule" "bit" "I") (by decide +kernel)) (fun _ h9 => h9) rfl dX5_order_69 ?_
          refine z_iand C dX5_order_72 ?_
          refine z_topi (y := nI ((B j 5 ||| 2 ^ j) &&& (2 ^ k))) (fa_and (B j 5 ||| 2 ^ j) (2 ^ k)) ?_
          refine z_if_eq (tgt := 87) C dX5_order_73 (by decide) (fun zc73 => ?_) (fun zc73 => ?_)
          · skip
            have h73 := zi_bitF (by omega) zc73
            refine z_iinc (L' := [(5, .int (nI (k + 1))), (6, .ref (ad k)), (0, .ref (ad 16)), (3, .int (nI (abv B i ||| 2 ^ i))), (4, .int (nI (B j 5 ||| 2 ^ j)))]) C dX5_order_87 4 rfl (nI_1 k) (by decide) rfl ?_
            refine z_goto (tgt := 24) C dX5_order_90 (by decide) ?_
            refine z_sub (L' := [(0, .ref (ad 16)), (3, .int (nI (abv B i ||| 2 ^ i))), (4, .int (nI (B j 5 ||| 2 ^ j))), (5, .int (nI (k + 1)))]) [2, 3, 4, 0] rfl ?_
            exact ih24 (k + 1) w (by omega) (by omega) (by first | (simp only [ordS, ← hw, ord1, ord2, h50, h73, if_true, Bool.false_eq_true, if_false]; done) | (simp only [ordS, ← hw, ord1, ord2, h50, h73, if_true, Bool.false_eq_true, if_false]; first | rfl | (rw [xs_j (by decide)])))
          · skip
            have h73 := zi_bitT (by omega) zc73
            refine z_aload C dX5_order_76 0 rfl ?_
            refine z_dup C rfl dX5_order_78 ?_
            refine z_get (q := k) C (T := TX4) (N := 11) (ci := 4) (own := RX5) (index := 48) (v := .int (w.1 k 10)) hT4 hown hK (by omega) (xF_r zn31) rfl 10 (by decide) (hts (.fieldLink RX5 48 "TriggerAnalyzer$Rule" "above" "I") (by decide +kernel)) (fun _ h9 => h9) rfl dX5_order_79 ?_
            refine z_iload_n C dX5_order_82 2 rfl ?_
            refine z_ior C dX5_order_83 ?_
            refine z_put (q := k) C hI tyX4 (T := TX4) (N := 11) (ci := 4) (own := RX5) (index := 48) hT4 hown hK (by omega) (xF_r zn31) rfl 10 (by decide) (hts (.fieldLink RX5 48 "TriggerAnalyzer$Rule" "above" "I") (by decide +kernel)) (fun _ h9 => h9) tyX4_ok nmX4 rfl rfl rfl (Nat.le_of_ble_eq_true rfl) (f' := xF ad cI cL cR ((xs w k 10 ((w.1 k 10) ||| (nI (abv B i ||| 2 ^ i)))))) (xF_p10 zn31) xF_ne dX5_order_84 ?_
            refine z_iinc (L' := [(5, .int (nI (k + 1))), (6, .ref (ad k)), (0, .ref (ad 16)), (3, .int (nI (abv B i ||| 2 ^ i))), (4, .int (nI (B j 5 ||| 2 ^ j)))]) C dX5_order_87 4 rfl (nI_1 k) (by decide) rfl ?_
            refine z_goto (tgt := 24) C dX5_order_90 (by decide) ?_
            refine z_sub (L' := [(0, .ref (ad 16)), (3, .int (nI (abv B i ||| 2 ^ i))), (4, .int (nI (B j 5 ||| 2 ^ j))), (5, .int (nI (k + 1)))]) [2, 3, 4, 0] rfl ?_
            exact ih24 (k + 1) ((xs w k 10 ((w.1 k 10) ||| (nI (abv B i ||| 2 ^ i))))) (by omega) (by omega) (by first | (simp only [ordS, ← hw, ord1, ord2, h50, h73, if_true, Bool.false_eq_true, if_false]; done) | (simp only [ordS, ← hw, ord1, ord2, h50, h73, if_true, Bool.false_eq_true, if_false]; first | rfl | (rw [xs_j (by decide)])))
        · skip
          have h50 := zi_bitT (by omega) zc50
          refine z_aload C dX5_order_53 0 rfl ?_
          refine z_dup C rfl dX5_order_55 ?_
          refine z_get (q := k) C (T := TX4) (N := 11) (ci := 4) (own := RX5) (index := 51) (v := .int (w.1 k 9)) hT4 hown hK (by omega) (xF_r zn31) rfl 9 (by decide) (hts (.fieldLink RX5 51 "TriggerAnalyzer$Rule" "below" "I") (by decide +kernel)) (fun _ h9 => h9) rfl dX5_order_56 ?_
          refine z_iload C dX5_order_59 3 rfl ?_
          refine z_ior C dX5_order_61 ?_
          refine z_put (q := k) C hI tyX4 (T := TX4) (N := 11) (ci := 4) (own := RX5) (index := 51) hT4 hown hK (by omega) (xF_r zn31) rfl 9 (by decide) (hts (.fieldLink RX5 51 "TriggerAnalyzer$Rule" "below" "I") (by decide +kernel)) (fun _ h9 => h9) tyX4_ok nmX4 rfl rfl rfl (Nat.le_of_ble_eq_true rfl) (f' := xF ad cI cL cR ((xs w k 9 ((w.1 k 9) ||| (nI (B j 5 ||| 2 ^ j)))))) (xF_p9 zn31) xF_ne dX5_order_62 ?_
          refine z_iload C dX5_order_65 3 rfl ?_
          refine z_aload C dX5_order_67 0 rfl ?_
          refine z_get (q := k) C (T := TX4) (N := 11) (ci := 4) (own := RX5) (index := 45) (v := .int (nI (2 ^ k))) hT4 hown hK (by omega) (xF_r zn31) rfl 0 (by decide) (hts (.fieldLink RX5 45 "TriggerAnalyzer$Rule" "bit" "I") (by decide +kernel)) (fun _ h9 => h9) rfl dX5_order_69 ?_
          refine z_iand C dX5_order_72 ?_
          refine z_topi (y := nI ((B j 5 ||| 2 ^ j) &&& (2 ^ k))) (fa_and (B j 5 ||| 2 ^ j) (2 ^ k)) ?_
          refine z_if_eq (tgt := 87) C dX5_order_73 (by decide) (fun zc73 => ?_) (fun zc73 => ?_)
          · skip
            have h73 := zi_bitF (by omega) zc73
            refine z_iinc (L' := [(5, .int (nI (k + 1))), (6, .ref (ad k)), (0, .ref (ad 16)), (3, .int (nI (abv B i ||| 2 ^ i))), (4, .int (nI (B j 5 ||| 2 ^ j)))]) C dX5_order_87 4 rfl (nI_1 k) (by decide) rfl ?_
            refine z_goto (tgt := 24) C dX5_order_90 (by decide) ?_
            refine z_sub (L' := [(0, .ref (ad 16)), (3, .int (nI (abv B i ||| 2 ^ i))), (4, .int (nI (B j 5 ||| 2 ^ j))), (5, .int (nI (k + 1)))]) [2, 3, 4, 0] rfl ?_
            exact ih24 (k + 1) ((xs w k 9 ((w.1 k 9) ||| (nI (B j 5 ||| 2 ^ j))))) (by omega) (by omega) (by first | (simp only [ordS, ← hw, ord1, ord2, h50, h73, if_true, Bool.false_eq_true, if_false]; done) | (simp only [ordS, ← hw, ord1, ord2, h50, h73, if_true, Bool.false_eq_true, if_false]; first | rfl | (rw [xs_j (by decide)])))
          · skip
            have h73 := zi_bitT (by omega) zc73
            refine z_aload C dX5_order_76 0 rfl ?_
            refine z_dup C rfl dX5_order_78 ?_
            refine z_get (q := k) C (T := TX4) (N := 11) (ci := 4) (own := RX5) (index := 48) (v := .int ((xs w k 9 ((w.1 k 9) ||| (nI (B j 5 ||| 2 ^ j)))).1 k 10)) hT4 hown hK (by omega) (xF_r zn31) rfl 10 (by decide) (hts (.fieldLink RX5 48 "TriggerAnalyzer$Rule" "above" "I") (by decide +kernel)) (fun _ h9 => h9) rfl dX5_order_79 ?_
            refine z_topi (y := w.1 k 10) (xs_j (by decide)) ?_
            refine z_iload_n C dX5_order_82 2 rfl ?_
            refine z_ior C dX5_order_83 ?_
            refine z_put (q := k) C hI tyX4 (T := TX4) (N := 11) (ci := 4) (own := RX5) (index := 48) hT4 hown hK (by omega) (xF_r zn31) rfl 10 (by decide) (hts (.fieldLink RX5 48 "TriggerAnalyzer$Rule" "above" "I") (by decide +kernel)) (fun _ h9 => h9) tyX4_ok nmX4 rfl rfl rfl (Nat.le_of_ble_eq_true rfl) (f' := xF ad cI cL cR ((xs ((xs w k 9 ((w.1 k 9) ||| (nI (B j 5 ||| 2 ^ j))))) k 10 ((w.1 k 10) ||| (nI (abv B i ||| 2 ^ i)))))) (xF_p10 zn31) xF_ne dX5_order_84 ?_
            refine z_iinc (L' := [(5, .int (nI (k + 1))), (6, .ref (ad k)), (0, .ref (ad 16)), (3, .int (nI (abv B i ||| 2 ^ i))), (4, .int (nI (B j 5 ||| 2 ^ j)))]) C dX5_order_87 4 rfl (nI_1 k) (by decide) rfl ?_
            refine z_goto (tgt := 24) C dX5_order_90 (by decide) ?_
            refine z_sub (L' := [(0, .ref (ad 16)), (3, .int (nI (abv B i ||| 2 ^ i))), (4, .int (nI (B j 5 ||| 2 ^ j))), (5, .int (nI (k + 1)))]) [2, 3, 4, 0] rfl ?_
            exact ih24 (k + 1) ((xs ((xs w k 9 ((w.1 k 9) ||| (nI (B j 5 ||| 2 ^ j))))) k 10 ((w.1 k 10) ||| (nI (abv B i ||| 2 ^ i))))) (by omega) (by omega) (by first | (simp only [ordS, ← hw, ord1, ord2, h50, h73, if_true, Bool.false_eq_true, if_false]; done) | (simp only [ordS, ← hw, ord1, ord2, h50, h73, if_true, Bool.false_eq_true, if_false]; first | rfl | (rw [xs_j (by decide)])))
  refine z_sub (L' := [(0, .ref (ad 16)), (3, .int (nI ((abv B i) ||| (2 ^ i)))), (4, .int (nI ((B j 5) ||| (2 ^ j)))), (5, .int (nI 0))]) [3, 2, 1, 0] rfl ?_
  exact loop24 9 0 u (by omega) (by omega) rfl
end
