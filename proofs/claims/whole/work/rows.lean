section
-- ===== PART A: goes FIRST, ahead of the names: the tables' words, and 'selects' of the private methods out of them =====
/-- a private method of a class that the tables say can be made, by its rows of tables_1 -/
def lw_okq (q : MethodName × Nat) : Prop := (q.1.cls ≠ "java/lang/invoke/MethodHandle" ∧ q.1.cls ≠ "java/lang/invoke/VarHandle") ∧ Cond.instantiable q.1.cls q.2 ∈ tables_1 ∧ Cond.privateMethod q.1 ∈ tables_1 ∧ Cond.instanceMethod q.1 ∈ tables_1
theorem lw_p0 : lw_okq (⟨"PartitionedCache", "moveOneWay", "()I"⟩, 6) := ⟨⟨by decide +kernel, by decide +kernel⟩, List.mem_of_getElem? (i := 18) (by decide +kernel), List.mem_of_getElem? (i := 186) (by decide +kernel), List.mem_of_getElem? (i := 187) (by decide +kernel)⟩
theorem lw_p1 : lw_okq (⟨"PartitionedCache$Targets", "growOne", "(LPartitionedCache$Monitors;I)I"⟩, 1) := ⟨⟨by decide +kernel, by decide +kernel⟩, List.mem_of_getElem? (i := 95) (by decide +kernel), List.mem_of_getElem? (i := 194) (by decide +kernel), List.mem_of_getElem? (i := 195) (by decide +kernel)⟩
theorem lw_p2 : lw_okq (⟨"PartitionedCache$Targets", "lowest", "()I"⟩, 1) := ⟨⟨by decide +kernel, by decide +kernel⟩, List.mem_of_getElem? (i := 95) (by decide +kernel), List.mem_of_getElem? (i := 198) (by decide +kernel), List.mem_of_getElem? (i := 199) (by decide +kernel)⟩
theorem lw_p3 : lw_okq (⟨"PartitionedCache", "deficitOf", "(I)I"⟩, 6) := ⟨⟨by decide +kernel, by decide +kernel⟩, List.mem_of_getElem? (i := 18) (by decide +kernel), List.mem_of_getElem? (i := 202) (by decide +kernel), List.mem_of_getElem? (i := 203) (by decide +kernel)⟩
theorem lw_p4 : lw_okq (⟨"java/lang/Throwable", "fillInStackTrace", "(I)Ljava/lang/Throwable;"⟩, 6) := ⟨⟨by decide +kernel, by decide +kernel⟩, List.mem_of_getElem? (i := 345) (by decide +kernel), List.mem_of_getElem? (i := 343) (by decide +kernel), List.mem_of_getElem? (i := 344) (by decide +kernel)⟩
theorem lw_p5 : lw_okq (⟨"PartitionedCache", "makeAccess", "(II)I"⟩, 6) := ⟨⟨by decide +kernel, by decide +kernel⟩, List.mem_of_getElem? (i := 18) (by decide +kernel), List.mem_of_getElem? (i := 394) (by decide +kernel), List.mem_of_getElem? (i := 395) (by decide +kernel)⟩
theorem lw_p6 : lw_okq (⟨"PartitionedCache", "bringIn", "(II)V"⟩, 6) := ⟨⟨by decide +kernel, by decide +kernel⟩, List.mem_of_getElem? (i := 18) (by decide +kernel), List.mem_of_getElem? (i := 421) (by decide +kernel), List.mem_of_getElem? (i := 422) (by decide +kernel)⟩
theorem lw_p7 : lw_okq (⟨"PartitionedCache", "runCommand", "(I)I"⟩, 6) := ⟨⟨by decide +kernel, by decide +kernel⟩, List.mem_of_getElem? (i := 18) (by decide +kernel), List.mem_of_getElem? (i := 509) (by decide +kernel), List.mem_of_getElem? (i := 510) (by decide +kernel)⟩
theorem lw_p8 : lw_okq (⟨"PartitionedCacheModel", "fails", "(I)I"⟩, 11) := ⟨⟨by decide +kernel, by decide +kernel⟩, List.mem_of_getElem? (i := 646) (by decide +kernel), List.mem_of_getElem? (i := 697) (by decide +kernel), List.mem_of_getElem? (i := 698) (by decide +kernel)⟩
theorem lw_p9 : lw_okq (⟨"PartitionedCacheModel", "record", "()V"⟩, 11) := ⟨⟨by decide +kernel, by decide +kernel⟩, List.mem_of_getElem? (i := 646) (by decide +kernel), List.mem_of_getElem? (i := 701) (by decide +kernel), List.mem_of_getElem? (i := 702) (by decide +kernel)⟩
theorem lw_p10 : lw_okq (⟨"PartitionedCacheModel", "visits", "(II)I"⟩, 11) := ⟨⟨by decide +kernel, by decide +kernel⟩, List.mem_of_getElem? (i := 646) (by decide +kernel), List.mem_of_getElem? (i := 705) (by decide +kernel), List.mem_of_getElem? (i := 706) (by decide +kernel)⟩
theorem lw_p11 : lw_okq (⟨"PartitionedCacheModel", "watch", "(II)V"⟩, 11) := ⟨⟨by decide +kernel, by decide +kernel⟩, List.mem_of_getElem? (i := 646) (by decide +kernel), List.mem_of_getElem? (i := 709) (by decide +kernel), List.mem_of_getElem? (i := 710) (by decide +kernel)⟩
theorem lw_p12 : lw_okq (⟨"PartitionedCacheModel", "wouldBe", "(II)I"⟩, 11) := ⟨⟨by decide +kernel, by decide +kernel⟩, List.mem_of_getElem? (i := 646) (by decide +kernel), List.mem_of_getElem? (i := 713) (by decide +kernel), List.mem_of_getElem? (i := 714) (by decide +kernel)⟩
theorem lw_p13 : lw_okq (⟨"PartitionedCacheModel", "find", "(II)I"⟩, 11) := ⟨⟨by decide +kernel, by decide +kernel⟩, List.mem_of_getElem? (i := 646) (by decide +kernel), List.mem_of_getElem? (i := 717) (by decide +kernel), List.mem_of_getElem? (i := 718) (by decide +kernel)⟩
theorem lw_p14 : lw_okq (⟨"PartitionedCacheModel", "owned", "(I)I"⟩, 11) := ⟨⟨by decide +kernel, by decide +kernel⟩, List.mem_of_getElem? (i := 646) (by decide +kernel), List.mem_of_getElem? (i := 721) (by decide +kernel), List.mem_of_getElem? (i := 722) (by decide +kernel)⟩
theorem lw_p15 : lw_okq (⟨"PartitionedCacheModel", "put", "(II)V"⟩, 11) := ⟨⟨by decide +kernel, by decide +kernel⟩, List.mem_of_getElem? (i := 646) (by decide +kernel), List.mem_of_getElem? (i := 725) (by decide +kernel), List.mem_of_getElem? (i := 726) (by decide +kernel)⟩
def lw_privs_1 : List (MethodName × Nat) := [(⟨"PartitionedCache", "moveOneWay", "()I"⟩, 6), (⟨"PartitionedCache$Targets", "growOne", "(LPartitionedCache$Monitors;I)I"⟩, 1), (⟨"PartitionedCache$Targets", "lowest", "()I"⟩, 1), (⟨"PartitionedCache", "deficitOf", "(I)I"⟩, 6), (⟨"java/lang/Throwable", "fillInStackTrace", "(I)Ljava/lang/Throwable;"⟩, 6), (⟨"PartitionedCache", "makeAccess", "(II)I"⟩, 6), (⟨"PartitionedCache", "bringIn", "(II)V"⟩, 6), (⟨"PartitionedCache", "runCommand", "(I)I"⟩, 6), (⟨"PartitionedCacheModel", "fails", "(I)I"⟩, 11), (⟨"PartitionedCacheModel", "record", "()V"⟩, 11), (⟨"PartitionedCacheModel", "visits", "(II)I"⟩, 11), (⟨"PartitionedCacheModel", "watch", "(II)V"⟩, 11), (⟨"PartitionedCacheModel", "wouldBe", "(II)I"⟩, 11), (⟨"PartitionedCacheModel", "find", "(II)I"⟩, 11), (⟨"PartitionedCacheModel", "owned", "(I)I"⟩, 11), (⟨"PartitionedCacheModel", "put", "(II)V"⟩, 11)]
theorem lw_r1 : ∀ q ∈ lw_privs_1, lw_okq q := List.forall_mem_cons.mpr ⟨lw_p0, List.forall_mem_cons.mpr ⟨lw_p1, List.forall_mem_cons.mpr ⟨lw_p2, List.forall_mem_cons.mpr ⟨lw_p3, List.forall_mem_cons.mpr ⟨lw_p4, List.forall_mem_cons.mpr ⟨lw_p5, List.forall_mem_cons.mpr ⟨lw_p6, List.forall_mem_cons.mpr ⟨lw_p7, List.forall_mem_cons.mpr ⟨lw_p8, List.forall_mem_cons.mpr ⟨lw_p9, List.forall_mem_cons.mpr ⟨lw_p10, List.forall_mem_cons.mpr ⟨lw_p11, List.forall_mem_cons.mpr ⟨lw_p12, List.forall_mem_cons.mpr ⟨lw_p13, List.forall_mem_cons.mpr ⟨lw_p14, List.forall_mem_cons.mpr ⟨lw_p15, fun _ h => absurd h List.not_mem_nil⟩⟩⟩⟩⟩⟩⟩⟩⟩⟩⟩⟩⟩⟩⟩⟩
theorem lw_p16 : lw_okq (⟨"PartitionedCacheModel", "placeFor", "(II)I"⟩, 11) := ⟨⟨by decide +kernel, by decide +kernel⟩, List.mem_of_getElem? (i := 646) (by decide +kernel), List.mem_of_getElem? (i := 729) (by decide +kernel), List.mem_of_getElem? (i := 730) (by decide +kernel)⟩
theorem lw_p17 : lw_okq (⟨"PartitionedCacheModel", "move", "()I"⟩, 11) := ⟨⟨by decide +kernel, by decide +kernel⟩, List.mem_of_getElem? (i := 646) (by decide +kernel), List.mem_of_getElem? (i := 733) (by decide +kernel), List.mem_of_getElem? (i := 734) (by decide +kernel)⟩
theorem lw_p18 : lw_okq (⟨"PartitionedCacheModel", "findTargets", "()V"⟩, 11) := ⟨⟨by decide +kernel, by decide +kernel⟩, List.mem_of_getElem? (i := 646) (by decide +kernel), List.mem_of_getElem? (i := 737) (by decide +kernel), List.mem_of_getElem? (i := 738) (by decide +kernel)⟩
theorem lw_p19 : lw_okq (⟨"PartitionedCacheModel", "giveSome", "(I)I"⟩, 11) := ⟨⟨by decide +kernel, by decide +kernel⟩, List.mem_of_getElem? (i := 646) (by decide +kernel), List.mem_of_getElem? (i := 741) (by decide +kernel), List.mem_of_getElem? (i := 742) (by decide +kernel)⟩
theorem lw_p20 : lw_okq (⟨"PartitionedCacheModel", "gained", "(II)I"⟩, 11) := ⟨⟨by decide +kernel, by decide +kernel⟩, List.mem_of_getElem? (i := 646) (by decide +kernel), List.mem_of_getElem? (i := 745) (by decide +kernel), List.mem_of_getElem? (i := 746) (by decide +kernel)⟩
theorem lw_p21 : lw_okq (⟨"PartitionedCacheModel", "lowestTarget", "()I"⟩, 11) := ⟨⟨by decide +kernel, by decide +kernel⟩, List.mem_of_getElem? (i := 646) (by decide +kernel), List.mem_of_getElem? (i := 749) (by decide +kernel), List.mem_of_getElem? (i := 750) (by decide +kernel)⟩
theorem lw_p22 : lw_okq (⟨"PartitionedCacheModel", "deficit", "(I)I"⟩, 11) := ⟨⟨by decide +kernel, by decide +kernel⟩, List.mem_of_getElem? (i := 646) (by decide +kernel), List.mem_of_getElem? (i := 753) (by decide +kernel), List.mem_of_getElem? (i := 754) (by decide +kernel)⟩
theorem lw_p23 : lw_okq (⟨"PartitionedCacheModel", "linesIn", "(II)I"⟩, 11) := ⟨⟨by decide +kernel, by decide +kernel⟩, List.mem_of_getElem? (i := 646) (by decide +kernel), List.mem_of_getElem? (i := 757) (by decide +kernel), List.mem_of_getElem? (i := 758) (by decide +kernel)⟩
theorem lw_p24 : lw_okq (⟨"PartitionedCacheModel", "halve", "()I"⟩, 11) := ⟨⟨by decide +kernel, by decide +kernel⟩, List.mem_of_getElem? (i := 646) (by decide +kernel), List.mem_of_getElem? (i := 761) (by decide +kernel), List.mem_of_getElem? (i := 762) (by decide +kernel)⟩
theorem lw_p25 : lw_okq (⟨"PartitionedCacheModel", "flushes", "(I)I"⟩, 11) := ⟨⟨by decide +kernel, by decide +kernel⟩, List.mem_of_getElem? (i := 646) (by decide +kernel), List.mem_of_getElem? (i := 773) (by decide +kernel), List.mem_of_getElem? (i := 774) (by decide +kernel)⟩
theorem lw_p26 : lw_okq (⟨"PartitionedCacheModel", "isValid", "()Z"⟩, 11) := ⟨⟨by decide +kernel, by decide +kernel⟩, List.mem_of_getElem? (i := 646) (by decide +kernel), List.mem_of_getElem? (i := 809) (by decide +kernel), List.mem_of_getElem? (i := 810) (by decide +kernel)⟩
theorem lw_p27 : lw_okq (⟨"PartitionedCacheModel", "command", "()I"⟩, 11) := ⟨⟨by decide +kernel, by decide +kernel⟩, List.mem_of_getElem? (i := 646) (by decide +kernel), List.mem_of_getElem? (i := 813) (by decide +kernel), List.mem_of_getElem? (i := 814) (by decide +kernel)⟩
theorem lw_p28 : lw_okq (⟨"PartitionedCacheModel", "takes", "(I)Z"⟩, 11) := ⟨⟨by decide +kernel, by decide +kernel⟩, List.mem_of_getElem? (i := 646) (by decide +kernel), List.mem_of_getElem? (i := 817) (by decide +kernel), List.mem_of_getElem? (i := 818) (by decide +kernel)⟩
theorem lw_p29 : lw_okq (⟨"PartitionedCacheModel", "sees", "(II)Z"⟩, 11) := ⟨⟨by decide +kernel, by decide +kernel⟩, List.mem_of_getElem? (i := 646) (by decide +kernel), List.mem_of_getElem? (i := 821) (by decide +kernel), List.mem_of_getElem? (i := 822) (by decide +kernel)⟩
theorem lw_p30 : lw_okq (⟨"PartitionedCacheModel", "reads", "()Z"⟩, 11) := ⟨⟨by decide +kernel, by decide +kernel⟩, List.mem_of_getElem? (i := 646) (by decide +kernel), List.mem_of_getElem? (i := 825) (by decide +kernel), List.mem_of_getElem? (i := 826) (by decide +kernel)⟩
theorem lw_p31 : lw_okq (⟨"PartitionedCacheModel", "does", "(I)I"⟩, 11) := ⟨⟨by decide +kernel, by decide +kernel⟩, List.mem_of_getElem? (i := 646) (by decide +kernel), List.mem_of_getElem? (i := 833) (by decide +kernel), List.mem_of_getElem? (i := 834) (by decide +kernel)⟩
def lw_privs_2 : List (MethodName × Nat) := [(⟨"PartitionedCacheModel", "placeFor", "(II)I"⟩, 11), (⟨"PartitionedCacheModel", "move", "()I"⟩, 11), (⟨"PartitionedCacheModel", "findTargets", "()V"⟩, 11), (⟨"PartitionedCacheModel", "giveSome", "(I)I"⟩, 11), (⟨"PartitionedCacheModel", "gained", "(II)I"⟩, 11), (⟨"PartitionedCacheModel", "lowestTarget", "()I"⟩, 11), (⟨"PartitionedCacheModel", "deficit", "(I)I"⟩, 11), (⟨"PartitionedCacheModel", "linesIn", "(II)I"⟩, 11), (⟨"PartitionedCacheModel", "halve", "()I"⟩, 11), (⟨"PartitionedCacheModel", "flushes", "(I)I"⟩, 11), (⟨"PartitionedCacheModel", "isValid", "()Z"⟩, 11), (⟨"PartitionedCacheModel", "command", "()I"⟩, 11), (⟨"PartitionedCacheModel", "takes", "(I)Z"⟩, 11), (⟨"PartitionedCacheModel", "sees", "(II)Z"⟩, 11), (⟨"PartitionedCacheModel", "reads", "()Z"⟩, 11), (⟨"PartitionedCacheModel", "does", "(I)I"⟩, 11)]
theorem lw_r2 : ∀ q ∈ lw_privs_2, lw_okq q := List.forall_mem_cons.mpr ⟨lw_p16, List.forall_mem_cons.mpr ⟨lw_p17, List.forall_mem_cons.mpr ⟨lw_p18, List.forall_mem_cons.mpr ⟨lw_p19, List.forall_mem_cons.mpr ⟨lw_p20, List.forall_mem_cons.mpr ⟨lw_p21, List.forall_mem_cons.mpr ⟨lw_p22, List.forall_mem_cons.mpr ⟨lw_p23, List.forall_mem_cons.mpr ⟨lw_p24, List.forall_mem_cons.mpr ⟨lw_p25, List.forall_mem_cons.mpr ⟨lw_p26, List.forall_mem_cons.mpr ⟨lw_p27, List.forall_mem_cons.mpr ⟨lw_p28, List.forall_mem_cons.mpr ⟨lw_p29, List.forall_mem_cons.mpr ⟨lw_p30, List.forall_mem_cons.mpr ⟨lw_p31, fun _ h => absurd h List.not_mem_nil⟩⟩⟩⟩⟩⟩⟩⟩⟩⟩⟩⟩⟩⟩⟩⟩
theorem lw_p32 : lw_okq (⟨"PartitionedCacheModel", "allLines", "()I"⟩, 11) := ⟨⟨by decide +kernel, by decide +kernel⟩, List.mem_of_getElem? (i := 646) (by decide +kernel), List.mem_of_getElem? (i := 845) (by decide +kernel), List.mem_of_getElem? (i := 846) (by decide +kernel)⟩
theorem lw_p33 : lw_okq (⟨"PartitionedCacheModel", "linesOf", "(IZ)I"⟩, 11) := ⟨⟨by decide +kernel, by decide +kernel⟩, List.mem_of_getElem? (i := 646) (by decide +kernel), List.mem_of_getElem? (i := 849) (by decide +kernel), List.mem_of_getElem? (i := 850) (by decide +kernel)⟩
def lw_privs_3 : List (MethodName × Nat) := [(⟨"PartitionedCacheModel", "allLines", "()I"⟩, 11), (⟨"PartitionedCacheModel", "linesOf", "(IZ)I"⟩, 11)]
theorem lw_r3 : ∀ q ∈ lw_privs_3, lw_okq q := List.forall_mem_cons.mpr ⟨lw_p32, List.forall_mem_cons.mpr ⟨lw_p33, fun _ h => absurd h List.not_mem_nil⟩⟩
def lw_privs : List (MethodName × Nat) := lw_privs_1 ++ (lw_privs_2 ++ (lw_privs_3))
def lw_tbl : List Cond := k2_sels lw_privs ++ tables_1
theorem lw_privs_ok : ∀ q ∈ lw_privs, lw_okq q := by
  show ∀ q ∈ lw_privs_1 ++ (lw_privs_2 ++ (lw_privs_3)), lw_okq q
  exact List.forall_mem_append.mpr ⟨lw_r1, List.forall_mem_append.mpr ⟨lw_r2, lw_r3⟩⟩
/-- the streams that the claim lets the run draw from -/
abbrev lw_cs : List Choice := [Jvm.Choice.named "NaN.bits"]
theorem lw_bits : nanBits ∈ lw_cs := by first | decide | exact List.mem_cons_self | simp [lw_cs, nanBits]
-- ===== end of PART A; then your names; then what follows =====
end
section
/-! ===== BEGIN words of one list among another's, by their places ===== -/
theorem goodIn_r {big : List Cond} (ws : List Cond) (ps : List Nat) (hp : ws = ps.filterMap (fun i => big[i]?)) (h : ws.all goodWord = true) : GoodIn big ws := by
  intro w hw
  have h1 := List.all_eq_true.mp h w hw
  rw [hp] at hw
  obtain ⟨i, -, hi⟩ := List.mem_filterMap.mp hw
  have hm : w ∈ big := by first | exact List.mem_of_getElem? hi | exact List.getElem?_mem hi
  exact ⟨hm, good_of_word h1⟩
theorem goodIn_app {big a b : List Cond} (ha : GoodIn big a) (hb : GoodIn big b) : GoodIn big (a ++ b) := fun w h => (List.mem_append.mp h).elim (ha w) (hb w)
theorem goodIn_ca {big a b : List Cond} {c : Cond} (ha : GoodIn big (c :: a)) (hb : GoodIn big b) : GoodIn big (c :: (a ++ b)) := fun w h => (List.mem_cons.mp h).elim (fun e => ha w (List.mem_cons.mpr (Or.inl e))) (fun h => (List.mem_append.mp h).elim (fun h => ha w (List.mem_cons.mpr (Or.inr h))) (hb w))
theorem goodIn_sub {big ws : List Cond} (hm : ∀ w ∈ ws, w ∈ big) (h : ws.all goodWord = true) : GoodIn big ws := fun w hw => ⟨hm w hw, good_of_word (List.all_eq_true.mp h w hw)⟩
/-! ===== END ===== -/

/-! ===== BEGIN exceptions that leave a method, and their catching by the caller (launches without stack traces) ===== -/
section VXA
/-! The laws vx_back, vx_callV, vx_callS, vx_callSW, vx_throw0, vx_throwS follow proofs of the library, with one case more: JvmDerived/Free/Laws.lean (Back.of_free), Shelf42/LK1.lean (callV, callS), Shelf/KitTraced.lean (throwNew0V, throwNewS). -/
/-- where a method has thrown q: the class by its name, the cell, what was written, the world -/
def vx_T (XC : String → State → State → Prop) (st : State) (q : Addr) (t : State) (mc ms : Nat) (free : Addr → Prop) : Prop :=
  ∃ (E : String) (ce : Cell) (L : List Loc), XC E st t ∧ t.heap[q]? = some ce ∧ ce.vm = .none ∧ st.vm.findClass E = some ce.cls ∧ st.WarmedH t.vm ∧ st.sameButNew ({ t with vm := st.vm } : State) L mc ms ∧ ∀ z ∈ L, free z.base
def vx_Q (Qc : Array Value → State → Outcome → State → Prop) (XC : String → State → State → Prop) (mc ms : Nat) (free : Addr → Prop) : Array Value → State → Outcome → State → Prop := fun a st o t =>
  (Qc a st o t ∧ ∃ L, FrameEnd st o t L mc ms ∧ ∀ q ∈ L, free q.base) ∨ ∃ q, o = .threw q ∧ vx_T XC st q t mc ms free
/-- a callee that returns or throws -/
def vx_Met (l : Launch) (y : MethodName) (ws : List Cond) (rm : Room) (Pc : Array Value → State → Prop) (Qc : Array Value → State → Outcome → State → Prop) (XC : String → State → State → Prop) (mc ms : Nat) (free : Addr → Prop) : Prop :=
  MetFree l y (headSpec ws rm) Pc (fun _ _ _ _ _ => True) (vx_Q Qc XC mc ms free)
def vx_Post (XC : String → State → State → Prop) (mc ms : Nat) (free : Addr → Prop) : Pt → Array Value → Addr → Pt → Prop := fun A a q B =>
  ∃ (g : JFrame) (mk : MethodId) (t : State) (L : List Loc) (E : String) (ce : Cell), B.U.heap = t.heap ∧ B.U.vm = t.vm ∧ XC E (A.U.calling g mk a) t ∧ t.heap[q]? = some ce ∧ ce.vm = .none ∧ A.U.vm.findClass E = some ce.cls ∧ B.locs = A.locs ++ L ∧ (∀ z ∈ L, free z.base) ∧ B.cells = A.cells + mc ∧ B.slots = A.slots + ms
def vx_Back (l : Launch) (R : Room) (p : Program) (e : Env) (below : List Frame) (s : State) (sargs : Array Value) (y : MethodName) (len W9 : Nat)
    (Pre : Pt → Array Value → Prop) (Post : Pt → Array Value → Option Value → Pt → Prop) (PostX : Pt → Array Value → Addr → Pt → Prop) : Prop :=
  ∀ (m : MethodId) (meth : Method) (c : Code) (A : Pt) (g : JFrame) (ig : Instr) (mk : MethodId) (a : Array Value),
    Stand p l e R s m sargs below meth c A.U A.locs A.cells A.slots → g.method = m → g.locals.size = c.maxLocals → decode c.code g.pc = .ok (ig, len) →
    2 * g.monitorRoom + (g.stack.map fun v => v.category).sum ≤ W9 → A.U.methodNamed? y = some mk → Pre A a →
    (∃ (v : Option Value) (B : Pt), Stand p l e R s m sargs below meth c B.U B.locs B.cells B.slots ∧ Post A a v B ∧
      Steps p.tables e below (doInvoke e (A.U.setTop g) [] mk a).1 (B.U.setTop { g with pc := g.pc + len, stack := v.toList ++ g.stack })) ∨
    (∃ (q : Addr) (B : Pt), Stand p l e R s m sargs below meth c B.U B.locs B.cells B.slots ∧ PostX A a q B ∧
      Steps p.tables e below (doInvoke e (A.U.setTop g) [] mk a).1 ((B.U.setTop g).pushFrame (.throwing q)))
section Payer
variable {l : Launch} {R : Room} {p : Program} {e : Env} {below : List Frame} {s : State} {sargs : Array Value} {y : MethodName} {len W9 : Nat}
theorem vx_back {ws : List Cond} {rm : Room} {Pc : Array Value → State → Prop} {Qc : Array Value → State → Outcome → State → Prop} {XC : String → State → State → Prop} {mc ms : Nat} {free : Addr → Prop} {bytes : ByteArray} {maxL : Nat} {ret : Option FieldType}
    (hM : vx_Met l y ws rm Pc Qc XC mc ms free) (hblind : FrameBlind Pc) (hrc : rm.cells = mc) (hrs : rm.slots = ms)
    (hframes : rm.frames + 1 ≤ R.frames) (hlocals : W9 + (maxL + 11) + rm.locals ≤ R.locals)
    (hws : ∀ w ∈ ws, ∀ a' U, s.WarmedH U.vm → w.before a' U = true) (hcode : Cond.code y bytes maxL ret ∈ ws) (hinit : ∀ a' U, s.WarmedH U.vm → (Cond.initialized y.cls).before a' U = true) :
    vx_Back l R p e below s sargs y len W9 (PreOf R mc ms Pc) (PostOf Qc mc ms free) (vx_Post XC mc ms free) := by
  intro m meth c A g ig mk a X hg hsize hdg hW hn hp
  have h1 : (headSpec ws rm).pre.before a A.U = true := atoms_intro fun w hw => hws w hw _ _ X.warmed
  have h2 : (Cond.code y bytes maxL ret).before a A.U = true := hws _ hcode _ _ X.warmed
  have h3 : (Cond.initialized y.cls).before a A.U = true := hinit _ _ X.warmed
  have h4 : A.cells + (headSpec ws rm).room.cells ≤ R.cells := by rw [show (headSpec ws rm).room.cells = mc from hrc]; exact hp.1
  have h5 : A.slots + (headSpec ws rm).room.slots ≤ R.slots := by rw [show (headSpec ws rm).room.slots = ms from hrs]; exact hp.2.1
  have hPc : Pc a (A.U.calling g mk a) := hblind _ _ _ _ hp.2.2
  obtain ⟨U, Ls, c0, s0⟩ := A
  dsimp only [Pt.U, Pt.locs, Pt.cells, Pt.slots] at h1 h2 h3 h4 h5 X hn hPc ⊢
  obtain ⟨methY, cY, hmY, hcY, -, hlY, -, -, -, -⟩ := Cond.code_spec hn h2
  obtain ⟨kY, hkY, -⟩ := className_of_methodNamed hn
  have hinitY : kY.init = .initialized := Cond.initialized_spec (findClass_of_methodNamed hn) hkY h3
  have h : At U g.method c below := by rw [hg]; exact X.here
  have hlocals9 : W9 + (maxL + 11) + (headSpec ws rm).room.locals ≤ R.locals := hlocals
  have happ : (headSpec ws rm).appliesLoose y e.platform (U.calling g mk a) = true :=
    Spec.appliesLoose_calling (g := g) h hdg hn hkY hinitY
      (X.room_calling (g := g) (R' := (headSpec ws rm).room) hsize hmY hcY hframes (by rw [hlY]; omega) h4 h5) h1
  obtain ⟨mid, hmid⟩ := h.above
  have hfr : (U.setTop g).frames = (.java g :: mid) ++ below := by rw [State.frames_setTop' g h.top, hmid]; rfl
  obtain ⟨o, s₂, hsteps, -, hend, hq⟩ := Steps.callFree hM p X.admits X.cas X.clock (acts := []) hfr happ hPc trivial
  have hq' : vx_Q Qc XC mc ms free a (U.calling g mk a) o s₂ := hq
  rw [State.frames_setTop' g h.top] at hend
  obtain ⟨g₀, hg0⟩ := Option.isSome_iff_exists.mp h.top
  obtain ⟨r, hr⟩ := State.topJava?_eq_some.mp hg0
  have hr' : (({ U with heap := s₂.heap, slotsUsed := s₂.slotsUsed } : State).setVm s₂.vm).frames = .java g₀ :: r := hr
  rcases hq' with ⟨hqc, L, hfe, hL⟩ | ⟨q, rfl, E, ce, L, hx, hce, hcv, hcl, hW₂, hsm, hL⟩
  · obtain ⟨⟨v, rfl⟩, hW₂, e2, q2, q3, q4, q5, q6⟩ := id hfe
    have e3 : s₂ = ({ (U.calling g mk a).setFrames s₂.frames with heap := s₂.heap, slotsUsed := s₂.slotsUsed } : State).setVm s₂.vm := by
      have : s₂ = ({ s₂ with vm := (U.calling g mk a).vm } : State).setVm s₂.vm := rfl
      rw [e2] at this
      exact this
    obtain ⟨c₂, i₂, len₂, hc₂, hd₂, hf₂⟩ := hend
    have hW' : U.WarmedH s₂.vm := hW₂
    have hcc : c₂ = c := by
      have h1 : s₂.code? g.method = U.code? g.method := by
        rw [State.code?_eq, State.code?_eq, hW'.alike.method?]
      exact Option.some.inj (hc₂.symm.trans (h1.trans h.code))
    subst hcc
    have hlen : len₂ = len := by rw [hdg] at hd₂; cases hd₂; rfl
    subst hlen
    have hs₂ : s₂ = (({ U with heap := s₂.heap, slotsUsed := s₂.slotsUsed } : State).setVm s₂.vm).setTop { g with pc := g.pc + len₂, stack := v.toList ++ g.stack } := by
      refine e3.trans ?_
      rw [hf₂, State.calling_eq h.top, State.setFrames_setFrames, State.setTop_of_frames _ hr', hr]
      rfl
    have hsame : U.sameButNew ({ U with heap := s₂.heap, slotsUsed := s₂.slotsUsed } : State) L mc ms := by
      refine ⟨?_, q2, q3, q4, q5, q6⟩
      obtain ⟨t, ht, -⟩ := State.frames_cons hr
      show ({ U with heap := s₂.heap, slotsUsed := s₂.slotsUsed } : State) = { U.setFrames U.frames with heap := s₂.heap, slotsUsed := s₂.slotsUsed }
      rw [State.setFrames_self ht]
    subst hg
    refine Or.inl ⟨v, ⟨(({ U with heap := s₂.heap, slotsUsed := s₂.slotsUsed } : State).setVm s₂.vm), Ls ++ L, c0 + mc, s0 + ms⟩,
      ⟨X.admits, X.cas, X.clock, X.frames, X.room, X.hears, X.method, X.code, (X.here.setHeapUsed s₂.heap s₂.slotsUsed).setVm hW'.alike, X.tail, State.WarmedH.trans X.warmed hW', X.limits, X.bytes, X.same.trans (hsame.setVm s.vm)⟩,
      ⟨g, mk, s₂, L, rfl, rfl, hqc, rfl, hL, rfl, rfl⟩, ?_⟩
    show Steps p.tables e below _ ((({ U with heap := s₂.heap, slotsUsed := s₂.slotsUsed } : State).setVm s₂.vm).setTop { g with pc := g.pc + len₂, stack := v.toList ++ g.stack })
    rw [← hs₂]
    exact hsteps
  · obtain ⟨e2, q2, q3, q4, q5, q6⟩ := id hsm
    have e3 : s₂ = ({ (U.calling g mk a).setFrames s₂.frames with heap := s₂.heap, slotsUsed := s₂.slotsUsed } : State).setVm s₂.vm := by
      have : s₂ = ({ s₂ with vm := (U.calling g mk a).vm } : State).setVm s₂.vm := rfl
      rw [e2] at this
      exact this
    have hf₂ : s₂.frames = .throwing q :: .java g :: U.frames.tail := hend
    have hW' : U.WarmedH s₂.vm := hW₂
    have hs₂ : s₂ = ((({ U with heap := s₂.heap, slotsUsed := s₂.slotsUsed } : State).setVm s₂.vm).setTop g).pushFrame (.throwing q) := by
      refine e3.trans ?_
      rw [hf₂, State.calling_eq h.top, State.setFrames_setFrames, State.pushFrame, State.frames_setTop _ hr', State.setTop_of_frames _ hr', State.setFrames_setFrames, hr]
      rfl
    have hsame : U.sameButNew ({ U with heap := s₂.heap, slotsUsed := s₂.slotsUsed } : State) L mc ms := by
      refine ⟨?_, q2, q3, q4, q5, q6⟩
      obtain ⟨t, ht, -⟩ := State.frames_cons hr
      show ({ U with heap := s₂.heap, slotsUsed := s₂.slotsUsed } : State) = { U.setFrames U.frames with heap := s₂.heap, slotsUsed := s₂.slotsUsed }
      rw [State.setFrames_self ht]
    subst hg
    refine Or.inr ⟨q, ⟨(({ U with heap := s₂.heap, slotsUsed := s₂.slotsUsed } : State).setVm s₂.vm), Ls ++ L, c0 + mc, s0 + ms⟩,
      ⟨X.admits, X.cas, X.clock, X.frames, X.room, X.hears, X.method, X.code, (X.here.setHeapUsed s₂.heap s₂.slotsUsed).setVm hW'.alike, X.tail, State.WarmedH.trans X.warmed hW', X.limits, X.bytes, X.same.trans (hsame.setVm s.vm)⟩,
      ⟨g, mk, s₂, L, E, ce, rfl, rfl, hx, hce, hcv, hcl, rfl, hL, rfl, rfl⟩, ?_⟩
    show Steps p.tables e below _ (((({ U with heap := s₂.heap, slotsUsed := s₂.slotsUsed } : State).setVm s₂.vm).setTop g).pushFrame (.throwing q))
    rw [← hs₂]
    exact hsteps
end Payer
section Calls
variable {p : Program} {l : Launch} {e : Env} {R : Room} {s : State} {m : MethodId} {args : Array Value} {below : List Frame} {meth : Method} {c : Code} {T : State} {locs : List Loc} {cells slots : Nat}
theorem vx_callV (X : Stand p l e R s m args below meth c T locs cells slots) (hexec : p.tables.exec = Jvm.exec) {own C : String} {index : Nat} {y : MethodName} {bytes : ByteArray} {maxL : Nat} {ret : Option FieldType}
    (hown : s.vm.findClass own = some m.cls) (hlink : (Cond.methodLink own index y).before args s = true) (hinst : (Cond.instanceMethod y).before args s = true) (hsel : (Cond.selects C y y).before args s = true)
    (hcode : (Cond.code y bytes maxL ret).before args s = true) (hy : y.cls ≠ "java/lang/invoke/MethodHandle" ∧ y.cls ≠ "java/lang/invoke/VarHandle")
    {W9 : Nat} {Pre : Pt → Array Value → Prop} {Post : Pt → Array Value → Option Value → Pt → Prop} {PostX : Pt → Array Value → Addr → Pt → Prop} (hK : vx_Back l R p e below s args y 3 W9 Pre Post PostX)
    {b : Addr} {cellB : Cell} (hcell : T.heap[b]? = some cellB) (hobj : cellB.vm.isStatics = false) (hcls : s.vm.findClass C = some cellB.cls)
    {g : JFrame} (hg : g.method = m) (hsize : g.locals.size = c.maxLocals) {argsL rest : List Value} (hlen : ∀ sig, parseMethodDescriptor y.desc = some sig → argsL.length = sig.parameters.length)
    (hstack : g.stack = argsL.reverse ++ .ref b :: rest) (hW : 2 * g.monitorRoom + (rest.map fun v => v.category).sum ≤ W9) (hdg : decode c.code g.pc = .ok (.invokevirtual index, 3))
    (hpre : ∀ vm₁, s.WarmedH vm₁ → Pre ⟨T.setVm vm₁, locs, cells, slots⟩ (Value.ref b :: argsL).toArray) :
    (∃ (v : Option Value) (vm₁ : Vm) (B : Pt), s.WarmedH vm₁ ∧ Stand p l e R s m args below meth c B.U B.locs B.cells B.slots ∧ Post ⟨T.setVm vm₁, locs, cells, slots⟩ (Value.ref b :: argsL).toArray v B ∧
      ∀ target, Steps p.tables e below (B.U.setTop { g with pc := g.pc + 3, stack := v.toList ++ rest }) target → Steps p.tables e below (T.setTop g) target) ∨
    (∃ (q : Addr) (vm₁ : Vm) (B : Pt), s.WarmedH vm₁ ∧ Stand p l e R s m args below meth c B.U B.locs B.cells B.slots ∧ PostX ⟨T.setVm vm₁, locs, cells, slots⟩ (Value.ref b :: argsL).toArray q B ∧
      Steps p.tables e below (T.setTop g) ((B.U.setTop { g with stack := rest }).pushFrame (.throwing q))) := by
  obtain ⟨mk, methM, hnamed, hmethM, hstM, habM⟩ := Cond.instanceMethod_spec hinst
  obtain ⟨methM', cM, hmethM', -, -, -, -, -, -, hsigM⟩ := Cond.code_spec hnamed hcode
  cases hmethM.symm.trans hmethM'
  obtain ⟨c2, r2, m2, q1, q2, q3, q4, kP, hkP, hkPi⟩ := Cond.selects_spec hsel
  cases hcls.symm.trans q1
  cases (State.methodFound?_of_named hnamed hy).symm.trans q2
  cases hnamed.symm.trans q3
  have hselP : selectMethod e.platform s.vm cellB.cls mk = .method mk := by rw [Launch.admits_selectMethod X.admits]; exact q4
  obtain ⟨vm₁, X₁, hstep₁⟩ := X.invokevirtual hexec hown hlink hnamed hmethM hstM hkP hkPi hy (a := b) (cell := cellB) hcell
    (fun z h => by rw [h] at hobj; cases hobj) hselP hmethM habM hkP hkPi (g := g) hg (argsL := argsL) (rest := rest) (hlen _ hsigM) hstack hdg
  rcases hK m meth c ⟨T.setVm vm₁, locs, cells, slots⟩ { g with stack := rest } (.invokevirtual index) mk (Value.ref b :: argsL).toArray X₁ hg hsize hdg hW (X₁.named hnamed) (hpre vm₁ X₁.warmed) with ⟨v, B, X', hpost, hsteps⟩ | ⟨q, B, X', hpost, hsteps⟩
  · exact Or.inl ⟨v, vm₁, B, X₁.warmed, X', hpost, fun target h => hstep₁ _ fun acts => by rw [doInvoke_state]; exact hsteps.trans h⟩
  · exact Or.inr ⟨q, vm₁, B, X₁.warmed, X', hpost, hstep₁ _ fun acts => by rw [doInvoke_state]; exact hsteps⟩
theorem vx_callS (X : Stand p l e R s m args below meth c T locs cells slots) (hexec : p.tables.exec = Jvm.exec) {own : String} {index : Nat} {y : MethodName} {bytes : ByteArray} {maxL : Nat} {ret : Option FieldType}
    (hown : s.vm.findClass own = some m.cls) (hlink : (Cond.methodLink own index y).before args s = true) (hstat : (Cond.static y).before args s = true) (hinit : (Cond.initialized y.cls).before args s = true)
    (hcode : (Cond.code y bytes maxL ret).before args s = true) (hy : y.cls ≠ "java/lang/invoke/MethodHandle" ∧ y.cls ≠ "java/lang/invoke/VarHandle")
    {W9 : Nat} {Pre : Pt → Array Value → Prop} {Post : Pt → Array Value → Option Value → Pt → Prop} {PostX : Pt → Array Value → Addr → Pt → Prop} (hK : vx_Back l R p e below s args y 3 W9 Pre Post PostX)
    {g : JFrame} (hg : g.method = m) (hsize : g.locals.size = c.maxLocals) {argsL rest : List Value} (hlen : ∀ sig, parseMethodDescriptor y.desc = some sig → argsL.length = sig.parameters.length)
    (hstack : g.stack = argsL.reverse ++ rest) (hW : 2 * g.monitorRoom + (rest.map fun v => v.category).sum ≤ W9) (hdg : decode c.code g.pc = .ok (.invokestatic index, 3))
    (hpre : ∀ vm₁, s.WarmedH vm₁ → Pre ⟨T.setVm vm₁, locs, cells, slots⟩ argsL.toArray) :
    (∃ (v : Option Value) (vm₁ : Vm) (B : Pt), s.WarmedH vm₁ ∧ Stand p l e R s m args below meth c B.U B.locs B.cells B.slots ∧ Post ⟨T.setVm vm₁, locs, cells, slots⟩ argsL.toArray v B ∧
      ∀ target, Steps p.tables e below (B.U.setTop { g with pc := g.pc + 3, stack := v.toList ++ rest }) target → Steps p.tables e below (T.setTop g) target) ∨
    (∃ (q : Addr) (vm₁ : Vm) (B : Pt), s.WarmedH vm₁ ∧ Stand p l e R s m args below meth c B.U B.locs B.cells B.slots ∧ PostX ⟨T.setVm vm₁, locs, cells, slots⟩ argsL.toArray q B ∧
      Steps p.tables e below (T.setTop g) ((B.U.setTop { g with stack := rest }).pushFrame (.throwing q))) := by
  obtain ⟨mk, hnamed⟩ := Cond.code_named hcode
  obtain ⟨methM, cM, hmethM, -, -, -, -, -, -, hsigM⟩ := Cond.code_spec hnamed hcode
  have hstatic : methM.isStatic = true := Cond.static_spec hnamed hmethM hstat
  obtain ⟨kP, hkP, -⟩ := className_of_methodNamed hnamed
  have hinitP : kP.init = .initialized := Cond.initialized_spec (findClass_of_methodNamed hnamed) hkP hinit
  obtain ⟨vm₁, X₁, hstep₁⟩ := X.invokestatic hexec hown hlink hnamed hmethM hstatic hkP hinitP hy (g := g) hg (argsL := argsL) (rest := rest) (hlen _ hsigM) hstack hdg
  rcases hK m meth c ⟨T.setVm vm₁, locs, cells, slots⟩ { g with stack := rest } (.invokestatic index) mk argsL.toArray X₁ hg hsize hdg hW (X₁.named hnamed) (hpre vm₁ X₁.warmed) with ⟨v, B, X', hpost, hsteps⟩ | ⟨q, B, X', hpost, hsteps⟩
  · exact Or.inl ⟨v, vm₁, B, X₁.warmed, X', hpost, fun target h => hstep₁ _ fun acts => by rw [doInvoke_state]; exact hsteps.trans h⟩
  · exact Or.inr ⟨q, vm₁, B, X₁.warmed, X', hpost, hstep₁ _ fun acts => by rw [doInvoke_state]; exact hsteps⟩
end Calls
theorem vx_cls {s : State} {T : State} {vm₁ : Vm} {E : String} {k : ClassId} (hW : s.WarmedH vm₁) (h : (T.setVm vm₁).vm.findClass E = some k) : s.vm.findClass E = some k := by
  have h1 : vm₁.findClass E = some k := h
  rw [hW.alike.findClass] at h1
  exact h1
/-- the method's frame g, with q thrown over it -/
def vx_W (p : Program) (l : Launch) (e : Env) (R : Room) (s : State) (m : MethodId) (args : Array Value) (below : List Frame) (meth : Method) (c : Code) (H : Heap) (locs : List Loc) (cells slots : Nat) (Q : State → Prop) (g : JFrame) (q : Addr) : Prop :=
  ∀ T : State, T.heap = H → Stand p l e R s m args below meth c T locs cells slots → ∃ t, Steps p.tables e below ((T.setTop g).pushFrame (.throwing q)) t ∧ Q t
def vx_Run (p : Program) (l : Launch) (e : Env) (R : Room) (s : State) (m : MethodId) (args : Array Value) (below : List Frame) (meth : Method) (c : Code) (H : Heap) (locs : List Loc) (cells slots mc ms : Nat) (g : JFrame) (rest : List Value) (Qa : State → Outcome → State → Prop) (XC : String → State → State → Prop) (free : Addr → Prop) : Prop :=
  ∀ T : State, T.heap = H → Stand p l e R s m args below meth c T locs cells slots →
    (∃ (v : Option Value) (st₀ t T' : State) (L : List Loc), st₀.heap = H ∧ Stand p l e R s m args below meth c T' (locs ++ L) (cells + mc) (slots + ms) ∧ (∀ q ∈ L, free q.base) ∧ T'.heap = t.heap ∧ T'.vm = t.vm ∧ Qa st₀ (.returned v) t ∧
      Goes p e below T g T' { g with pc := g.pc + 3, stack := v.toList ++ rest }) ∨
    (∃ (q : Addr) (st₀ t T' : State) (L : List Loc) (E : String) (ce : Cell), st₀.heap = H ∧ Stand p l e R s m args below meth c T' (locs ++ L) (cells + mc) (slots + ms) ∧ (∀ z ∈ L, free z.base) ∧ T'.heap = t.heap ∧ T'.vm = t.vm ∧ XC E st₀ t ∧ t.heap[q]? = some ce ∧ ce.vm = .none ∧ s.vm.findClass E = some ce.cls ∧
      Steps p.tables e below (T.setTop g) ((T'.setTop { g with stack := rest }).pushFrame (.throwing q)))
def vx_X {S : Type} (px : S → Prop) (B : String → S → State → Prop) (A : Nat → Prop) : String → State → State → Prop := fun E st t => ∃ u : S, px u ∧ B E u t ∧ va_F A st t
section Runs
variable {p : Program} {l : Launch} {e : Env} {R : Room} {s : State} {m : MethodId} {args : Array Value} {below : List Frame} {meth : Method} {c : Code} {H : Heap} {locs : List Loc} {cells slots : Nat}
variable {y : MethodName} {bytes cc : ByteArray} {maxL nL mc ms n index : Nat} {ret : Option FieldType} {ws : List Cond} {rm : Room} {Pc : Array Value → State → Prop} {Qc : Array Value → State → Outcome → State → Prop} {XC : String → State → State → Prop} {free : Addr → Prop} {Ts : List Cond} {own C : String} {b : Addr} {As rest : List Value} {g : JFrame}
theorem vx_callBack (cb : CallB R s args own index y bytes maxL ret ws rm mc ms n) (hM : vx_Met l y ws rm Pc Qc XC mc ms free) (hbl : FrameBlind Pc) : vx_Back l R p e below s args y 3 8 (PreOf R mc ms Pc) (PostOf Qc mc ms free) (vx_Post XC mc ms free) := by
  obtain ⟨hrc, hrs, hfr, hlo, hws, hcw, -, hini, -⟩ := cb
  exact vx_back (bytes := bytes) (maxL := maxL) (ret := ret) hM hbl hrc hrs hfr hlo hws hcw (fun a' U hW => word_at hW (Or.inl (by first | rfl | simp [Cond.onTables, Cond.keeps, Cond.steady])) hini)
theorem vx_runV (S : CallFix p m c cc nL s args Ts own) (hM : vx_Met l y ws rm Pc Qc XC mc ms free) (cw : CallW R s args own C index y bytes maxL ret ws rm mc ms n) (hp : PreV s H C b Pc As)
    (hg : g.method = m) (hn : As.length = n) (hsize : g.locals.size = nL) (hstack : g.stack = As.reverse ++ .ref b :: rest) (hW : 2 * g.monitorRoom + (rest.map fun v => v.category).sum ≤ 8) (hdg : decode cc g.pc = .ok (.invokevirtual index, 3)) (hf : cells + mc ≤ R.cells ∧ slots + ms ≤ R.slots) :
    vx_Run p l e R s m args below meth c H locs cells slots mc ms g rest (Qc (Value.ref b :: As).toArray) XC free := by
  have hK : vx_Back l R p e below s args y 3 8 (PreOf R mc ms Pc) (PostOf Qc mc ms free) (vx_Post XC mc ms free) := vx_callBack cw.1 hM hp.1
  obtain ⟨⟨-, -, -, -, -, -, hcode, -, hy, hlen, hl⟩, hin, hse⟩ := cw
  obtain ⟨hx, hb, hml, ho, -⟩ := S
  obtain ⟨-, ⟨cellB, hcB, hoB, hclB⟩, hPc⟩ := hp
  intro T hT X
  rcases vx_callV X hx (C := C) (bytes := bytes) (maxL := maxL) (ret := ret) ho hl hin hse hcode hy hK (by rw [hT]; exact hcB) hoB hclB hg (hsize.trans hml.symm) (argsL := As) (rest := rest) (fun sig h => hn.trans (hlen sig h)) hstack hW (by rw [hb]; exact hdg)
    (fun vm₁ hW₁ => ⟨hf.1, hf.2, hPc (T.setVm vm₁) hT hW₁⟩) with ⟨v, vm₁, ⟨U', l2, c2, s2⟩, hW₁, X', ⟨g', mk, t, L, e1, e2, hq, h1, hL, h2, h3⟩, st⟩ | ⟨q, vm₁, ⟨U', l2, c2, s2⟩, hW₁, X', ⟨g', mk, t, L, E, ce, e1, e2, hq, hce, hcv, hcl, h1, hL, h2, h3⟩, st⟩
  · dsimp only [Pt.U, Pt.locs, Pt.cells, Pt.slots] at X' e1 e2 h1 h2 h3 st
    subst h1; subst h2; subst h3
    exact Or.inl ⟨v, (T.setVm vm₁).calling g' mk (Value.ref b :: As).toArray, t, U', L, hT, X', hL, e1, e2, hq, st⟩
  · dsimp only [Pt.U, Pt.locs, Pt.cells, Pt.slots] at X' e1 e2 h1 h2 h3 st hcl
    subst h1; subst h2; subst h3
    exact Or.inr ⟨q, (T.setVm vm₁).calling g' mk (Value.ref b :: As).toArray, t, U', L, E, ce, hT, X', hL, e1, e2, hq, hce, hcv, vx_cls hW₁ hcl, st⟩
theorem vx_runS (S : CallFix p m c cc nL s args Ts own) (hM : vx_Met l y ws rm Pc Qc XC mc ms free) (cw : CallB R s args own index y bytes maxL ret ws rm mc ms n ∧ (Cond.static y).before args s = true) (hp : PreS s H Pc As)
    (hg : g.method = m) (hn : As.length = n) (hsize : g.locals.size = nL) (hstack : g.stack = As.reverse ++ rest) (hW : 2 * g.monitorRoom + (rest.map fun v => v.category).sum ≤ 8) (hdg : decode cc g.pc = .ok (.invokestatic index, 3)) (hf : cells + mc ≤ R.cells ∧ slots + ms ≤ R.slots) :
    vx_Run p l e R s m args below meth c H locs cells slots mc ms g rest (Qc As.toArray) XC free := by
  have hK : vx_Back l R p e below s args y 3 8 (PreOf R mc ms Pc) (PostOf Qc mc ms free) (vx_Post XC mc ms free) := vx_callBack cw.1 hM hp.1
  obtain ⟨⟨-, -, -, -, -, -, hcode, hini, hy, hlen, hl⟩, hstt⟩ := cw
  obtain ⟨hx, hb, hml, ho, -⟩ := S
  intro T hT X
  rcases vx_callS X hx (bytes := bytes) (maxL := maxL) (ret := ret) ho hl hstt hini hcode hy hK hg (hsize.trans hml.symm) (argsL := As) (rest := rest) (fun sig h => hn.trans (hlen sig h)) hstack hW (by rw [hb]; exact hdg)
    (fun vm₁ hW₁ => ⟨hf.1, hf.2, hp.2 (T.setVm vm₁) hT hW₁⟩) with ⟨v, vm₁, ⟨U', l2, c2, s2⟩, hW₁, X', ⟨g', mk, t, L, e1, e2, hq, h1, hL, h2, h3⟩, st⟩ | ⟨q, vm₁, ⟨U', l2, c2, s2⟩, hW₁, X', ⟨g', mk, t, L, E, ce, e1, e2, hq, hce, hcv, hcl, h1, hL, h2, h3⟩, st⟩
  · dsimp only [Pt.U, Pt.locs, Pt.cells, Pt.slots] at X' e1 e2 h1 h2 h3 st
    subst h1; subst h2; subst h3
    exact Or.inl ⟨v, (T.setVm vm₁).calling g' mk As.toArray, t, U', L, hT, X', hL, e1, e2, hq, st⟩
  · dsimp only [Pt.U, Pt.locs, Pt.cells, Pt.slots] at X' e1 e2 h1 h2 h3 st hcl
    subst h1; subst h2; subst h3
    exact Or.inr ⟨q, (T.setVm vm₁).calling g' mk As.toArray, t, U', L, E, ce, hT, X', hL, e1, e2, hq, hce, hcv, vx_cls hW₁ hcl, st⟩
end Runs
section Rows
variable {p : Program} {l : Launch} {e : Env} {R : Room} {s : State} {m : MethodId} {args : Array Value} {below : List Frame} {meth : Method} {c : Code} {H : Heap} {locs : List Loc} {cells slots : Nat} {Q : State → Prop}
variable {mc ms : Nat} {free : Addr → Prop} {A0 A1 : Nat → Prop} {H0 : Heap} {a : Array Value} {pc : Nat} {ls : Array Slot} {st0 rest : List Value}
theorem vx_keep {st₀ t T' : State} {L : List Loc} (h0 : st₀.heap = H) (e1 : T'.heap = t.heap) (hS : va_S A0 H0 H locs) (hA : ∀ q, q < H.size → A1 q → A0 q) (hf : ∀ q, free q → A0 q) (hL : ∀ q ∈ L, free q.base) (hF : va_F A1 st₀ t) :
    H.size ≤ T'.heap.size ∧ (∀ q : Nat, q < H.size → ¬ A1 q → T'.heap[q]? = H[q]?) ∧ va_S A0 H0 T'.heap (locs ++ L) := by
  obtain ⟨hz, hk⟩ := hF
  rw [h0] at hz hk
  exact ⟨by rw [e1]; exact hz, fun q h1 h2 => by rw [e1]; exact hk q h1 h2,
    ⟨Nat.le_trans hS.1 (by rw [e1]; exact hz), fun q h1 h2 => by rw [e1, hk q (Nat.lt_of_lt_of_le h1 hS.1) (fun z => h2 (hA q (Nat.lt_of_lt_of_le h1 hS.1) z))]; exact hS.2.1 q h1 h2, fun q hq => by
      rcases List.mem_append.mp hq with h | h
      · exact hS.2.2 q h
      · exact hf _ (hL q h)⟩⟩
theorem vx_calli {S SX : Type} {post : Int32 → S → Prop} {px : SX → Prop} {B : S → State → Prop} {BX : String → SX → State → Prop} {AX : Nat → Prop} (hr : vx_Run p l e R s m args below meth c H locs cells slots mc ms (F0 m pc ls st0) rest (va_Qi post B A1 a) (vx_X px BX AX) free) (hS : va_S A0 H0 H locs) (hA : ∀ q, q < H.size → A1 q → A0 q) (hf : ∀ q, free q → A0 q) (hAX : ∀ q, q < H.size → AX q → A0 q)
    (kx : ∀ (E : String) (ce : Cell) (q9 : Addr) (u : SX) (t : State) (H1 : Heap) (locs1 : List Loc), t.heap = H1 → s.vm.Alike t.vm → px u → BX E u t → H.size ≤ H1.size → (∀ q : Nat, q < H.size → ¬ AX q → H1[q]? = H[q]?) → va_S A0 H0 H1 locs1 → H1[q9]? = some ce → ce.vm = .none → s.vm.findClass E = some ce.cls → vx_W p l e R s m args below meth c H1 locs1 (cells + mc) (slots + ms) Q (F0 m pc ls rest) q9)
    (kk : ∀ (r : Int32) (u : S) (t : State) (H1 : Heap) (locs1 : List Loc), t.heap = H1 → s.vm.Alike t.vm → post r u → B u t → H.size ≤ H1.size → (∀ q : Nat, q < H.size → ¬ A1 q → H1[q]? = H[q]?) → va_S A0 H0 H1 locs1 → W p l e R s m args below meth c H1 locs1 (cells + mc) (slots + ms) Q (F0 m (pc + 3) ls (.int r :: rest))) : W p l e R s m args below meth c H locs cells slots Q (F0 m pc ls st0) := by
  intro T hT X
  rcases hr T hT X with ⟨v, st₀, t, T', L, h0, X', hL, e1, e2, ⟨⟨r, u, hv, hp, hb⟩, hF⟩, st⟩ | ⟨q, st₀, t, T', L, E, ce, h0, X', hL, e1, e2, ⟨u, hp, hb, hF⟩, hce, hcv, hcl, st⟩
  · cases hv
    obtain ⟨k1, k2, k3⟩ := vx_keep h0 e1 hS hA hf hL hF
    obtain ⟨t2, a1, b1⟩ := kk r u t T'.heap (locs ++ L) e1.symm (by rw [← e2]; exact X'.warmed.alike) hp hb k1 k2 k3 T' rfl X'
    exact ⟨t2, st t2 a1, b1⟩
  · obtain ⟨k1, k2, k3⟩ := vx_keep h0 e1 hS hAX hf hL hF
    obtain ⟨t2, a1, b1⟩ := kx E ce q u t T'.heap (locs ++ L) e1.symm (by rw [← e2]; exact X'.warmed.alike) hp hb k1 k2 k3 (by rw [e1]; exact hce) hcv hcl T' rfl X'
    exact ⟨t2, st.trans a1, b1⟩
theorem vx_calll {S SX : Type} {post : Int64 → S → Prop} {px : SX → Prop} {B : S → State → Prop} {BX : String → SX → State → Prop} {AX : Nat → Prop} (hr : vx_Run p l e R s m args below meth c H locs cells slots mc ms (F0 m pc ls st0) rest (va_Ql post B A1 a) (vx_X px BX AX) free) (hS : va_S A0 H0 H locs) (hA : ∀ q, q < H.size → A1 q → A0 q) (hf : ∀ q, free q → A0 q) (hAX : ∀ q, q < H.size → AX q → A0 q)
    (kx : ∀ (E : String) (ce : Cell) (q9 : Addr) (u : SX) (t : State) (H1 : Heap) (locs1 : List Loc), t.heap = H1 → s.vm.Alike t.vm → px u → BX E u t → H.size ≤ H1.size → (∀ q : Nat, q < H.size → ¬ AX q → H1[q]? = H[q]?) → va_S A0 H0 H1 locs1 → H1[q9]? = some ce → ce.vm = .none → s.vm.findClass E = some ce.cls → vx_W p l e R s m args below meth c H1 locs1 (cells + mc) (slots + ms) Q (F0 m pc ls rest) q9)
    (kk : ∀ (r : Int64) (u : S) (t : State) (H1 : Heap) (locs1 : List Loc), t.heap = H1 → s.vm.Alike t.vm → post r u → B u t → H.size ≤ H1.size → (∀ q : Nat, q < H.size → ¬ A1 q → H1[q]? = H[q]?) → va_S A0 H0 H1 locs1 → W p l e R s m args below meth c H1 locs1 (cells + mc) (slots + ms) Q (F0 m (pc + 3) ls (.long r :: rest))) : W p l e R s m args below meth c H locs cells slots Q (F0 m pc ls st0) := by
  intro T hT X
  rcases hr T hT X with ⟨v, st₀, t, T', L, h0, X', hL, e1, e2, ⟨⟨r, u, hv, hp, hb⟩, hF⟩, st⟩ | ⟨q, st₀, t, T', L, E, ce, h0, X', hL, e1, e2, ⟨u, hp, hb, hF⟩, hce, hcv, hcl, st⟩
  · cases hv
    obtain ⟨k1, k2, k3⟩ := vx_keep h0 e1 hS hA hf hL hF
    obtain ⟨t2, a1, b1⟩ := kk r u t T'.heap (locs ++ L) e1.symm (by rw [← e2]; exact X'.warmed.alike) hp hb k1 k2 k3 T' rfl X'
    exact ⟨t2, st t2 a1, b1⟩
  · obtain ⟨k1, k2, k3⟩ := vx_keep h0 e1 hS hAX hf hL hF
    obtain ⟨t2, a1, b1⟩ := kx E ce q u t T'.heap (locs ++ L) e1.symm (by rw [← e2]; exact X'.warmed.alike) hp hb k1 k2 k3 (by rw [e1]; exact hce) hcv hcl T' rfl X'
    exact ⟨t2, st.trans a1, b1⟩
theorem vx_callf {S SX : Type} {post : UInt32 → S → Prop} {px : SX → Prop} {B : S → State → Prop} {BX : String → SX → State → Prop} {AX : Nat → Prop} (hr : vx_Run p l e R s m args below meth c H locs cells slots mc ms (F0 m pc ls st0) rest (va_Qf post B A1 a) (vx_X px BX AX) free) (hS : va_S A0 H0 H locs) (hA : ∀ q, q < H.size → A1 q → A0 q) (hf : ∀ q, free q → A0 q) (hAX : ∀ q, q < H.size → AX q → A0 q)
    (kx : ∀ (E : String) (ce : Cell) (q9 : Addr) (u : SX) (t : State) (H1 : Heap) (locs1 : List Loc), t.heap = H1 → s.vm.Alike t.vm → px u → BX E u t → H.size ≤ H1.size → (∀ q : Nat, q < H.size → ¬ AX q → H1[q]? = H[q]?) → va_S A0 H0 H1 locs1 → H1[q9]? = some ce → ce.vm = .none → s.vm.findClass E = some ce.cls → vx_W p l e R s m args below meth c H1 locs1 (cells + mc) (slots + ms) Q (F0 m pc ls rest) q9)
    (kk : ∀ (r : UInt32) (u : S) (t : State) (H1 : Heap) (locs1 : List Loc), t.heap = H1 → s.vm.Alike t.vm → post r u → B u t → H.size ≤ H1.size → (∀ q : Nat, q < H.size → ¬ A1 q → H1[q]? = H[q]?) → va_S A0 H0 H1 locs1 → W p l e R s m args below meth c H1 locs1 (cells + mc) (slots + ms) Q (F0 m (pc + 3) ls (.float r :: rest))) : W p l e R s m args below meth c H locs cells slots Q (F0 m pc ls st0) := by
  intro T hT X
  rcases hr T hT X with ⟨v, st₀, t, T', L, h0, X', hL, e1, e2, ⟨⟨r, u, hv, hp, hb⟩, hF⟩, st⟩ | ⟨q, st₀, t, T', L, E, ce, h0, X', hL, e1, e2, ⟨u, hp, hb, hF⟩, hce, hcv, hcl, st⟩
  · cases hv
    obtain ⟨k1, k2, k3⟩ := vx_keep h0 e1 hS hA hf hL hF
    obtain ⟨t2, a1, b1⟩ := kk r u t T'.heap (locs ++ L) e1.symm (by rw [← e2]; exact X'.warmed.alike) hp hb k1 k2 k3 T' rfl X'
    exact ⟨t2, st t2 a1, b1⟩
  · obtain ⟨k1, k2, k3⟩ := vx_keep h0 e1 hS hAX hf hL hF
    obtain ⟨t2, a1, b1⟩ := kx E ce q u t T'.heap (locs ++ L) e1.symm (by rw [← e2]; exact X'.warmed.alike) hp hb k1 k2 k3 (by rw [e1]; exact hce) hcv hcl T' rfl X'
    exact ⟨t2, st.trans a1, b1⟩
theorem vx_calld {S SX : Type} {post : UInt64 → S → Prop} {px : SX → Prop} {B : S → State → Prop} {BX : String → SX → State → Prop} {AX : Nat → Prop} (hr : vx_Run p l e R s m args below meth c H locs cells slots mc ms (F0 m pc ls st0) rest (va_Qd post B A1 a) (vx_X px BX AX) free) (hS : va_S A0 H0 H locs) (hA : ∀ q, q < H.size → A1 q → A0 q) (hf : ∀ q, free q → A0 q) (hAX : ∀ q, q < H.size → AX q → A0 q)
    (kx : ∀ (E : String) (ce : Cell) (q9 : Addr) (u : SX) (t : State) (H1 : Heap) (locs1 : List Loc), t.heap = H1 → s.vm.Alike t.vm → px u → BX E u t → H.size ≤ H1.size → (∀ q : Nat, q < H.size → ¬ AX q → H1[q]? = H[q]?) → va_S A0 H0 H1 locs1 → H1[q9]? = some ce → ce.vm = .none → s.vm.findClass E = some ce.cls → vx_W p l e R s m args below meth c H1 locs1 (cells + mc) (slots + ms) Q (F0 m pc ls rest) q9)
    (kk : ∀ (r : UInt64) (u : S) (t : State) (H1 : Heap) (locs1 : List Loc), t.heap = H1 → s.vm.Alike t.vm → post r u → B u t → H.size ≤ H1.size → (∀ q : Nat, q < H.size → ¬ A1 q → H1[q]? = H[q]?) → va_S A0 H0 H1 locs1 → W p l e R s m args below meth c H1 locs1 (cells + mc) (slots + ms) Q (F0 m (pc + 3) ls (.double r :: rest))) : W p l e R s m args below meth c H locs cells slots Q (F0 m pc ls st0) := by
  intro T hT X
  rcases hr T hT X with ⟨v, st₀, t, T', L, h0, X', hL, e1, e2, ⟨⟨r, u, hv, hp, hb⟩, hF⟩, st⟩ | ⟨q, st₀, t, T', L, E, ce, h0, X', hL, e1, e2, ⟨u, hp, hb, hF⟩, hce, hcv, hcl, st⟩
  · cases hv
    obtain ⟨k1, k2, k3⟩ := vx_keep h0 e1 hS hA hf hL hF
    obtain ⟨t2, a1, b1⟩ := kk r u t T'.heap (locs ++ L) e1.symm (by rw [← e2]; exact X'.warmed.alike) hp hb k1 k2 k3 T' rfl X'
    exact ⟨t2, st t2 a1, b1⟩
  · obtain ⟨k1, k2, k3⟩ := vx_keep h0 e1 hS hAX hf hL hF
    obtain ⟨t2, a1, b1⟩ := kx E ce q u t T'.heap (locs ++ L) e1.symm (by rw [← e2]; exact X'.warmed.alike) hp hb k1 k2 k3 (by rw [e1]; exact hce) hcv hcl T' rfl X'
    exact ⟨t2, st.trans a1, b1⟩
theorem vx_callv {S SX : Type} {post : S → Prop} {px : SX → Prop} {B : S → State → Prop} {BX : String → SX → State → Prop} {AX : Nat → Prop} (hr : vx_Run p l e R s m args below meth c H locs cells slots mc ms (F0 m pc ls st0) rest (va_Qv post B A1 a) (vx_X px BX AX) free) (hS : va_S A0 H0 H locs) (hA : ∀ q, q < H.size → A1 q → A0 q) (hf : ∀ q, free q → A0 q) (hAX : ∀ q, q < H.size → AX q → A0 q)
    (kx : ∀ (E : String) (ce : Cell) (q9 : Addr) (u : SX) (t : State) (H1 : Heap) (locs1 : List Loc), t.heap = H1 → s.vm.Alike t.vm → px u → BX E u t → H.size ≤ H1.size → (∀ q : Nat, q < H.size → ¬ AX q → H1[q]? = H[q]?) → va_S A0 H0 H1 locs1 → H1[q9]? = some ce → ce.vm = .none → s.vm.findClass E = some ce.cls → vx_W p l e R s m args below meth c H1 locs1 (cells + mc) (slots + ms) Q (F0 m pc ls rest) q9)
    (kk : ∀ (u : S) (t : State) (H1 : Heap) (locs1 : List Loc), t.heap = H1 → s.vm.Alike t.vm → post u → B u t → H.size ≤ H1.size → (∀ q : Nat, q < H.size → ¬ A1 q → H1[q]? = H[q]?) → va_S A0 H0 H1 locs1 → W p l e R s m args below meth c H1 locs1 (cells + mc) (slots + ms) Q (F0 m (pc + 3) ls (rest))) : W p l e R s m args below meth c H locs cells slots Q (F0 m pc ls st0) := by
  intro T hT X
  rcases hr T hT X with ⟨v, st₀, t, T', L, h0, X', hL, e1, e2, ⟨⟨u, hv, hp, hb⟩, hF⟩, st⟩ | ⟨q, st₀, t, T', L, E, ce, h0, X', hL, e1, e2, ⟨u, hp, hb, hF⟩, hce, hcv, hcl, st⟩
  · cases hv
    obtain ⟨k1, k2, k3⟩ := vx_keep h0 e1 hS hA hf hL hF
    obtain ⟨t2, a1, b1⟩ := kk u t T'.heap (locs ++ L) e1.symm (by rw [← e2]; exact X'.warmed.alike) hp hb k1 k2 k3 T' rfl X'
    exact ⟨t2, st t2 a1, b1⟩
  · obtain ⟨k1, k2, k3⟩ := vx_keep h0 e1 hS hAX hf hL hF
    obtain ⟨t2, a1, b1⟩ := kx E ce q u t T'.heap (locs ++ L) e1.symm (by rw [← e2]; exact X'.warmed.alike) hp hb k1 k2 k3 (by rw [e1]; exact hce) hcv hcl T' rfl X'
    exact ⟨t2, st.trans a1, b1⟩
/-- caught by the row x of this method's table; the rows ahead don't take it -/
theorem vx_catch {own name : String} {E : String} {ce : Cell} {q : Addr} (hown : s.vm.findClass own = some m.cls) (pre : List ExceptionTableEntry) (x : ExceptionTableEntry) (suf : List ExceptionTableEntry) (hsplit : c.exceptionTable.toList = pre ++ x :: suf)
    (hpass : ∀ z ∈ pre, covers z pc = false ∨ (z.catchType ≠ 0 ∧ ∃ nm : String, (Cond.classLink own z.catchType nm).before args s = true ∧ va_Nc E nm s)) (hx : covers x pc = true) (h0 : x.catchType ≠ 0)
    (hlink : (Cond.classLink own x.catchType name).before args s = true) (hcast : (Cond.castable E name).before args s = true) (hcell : H[q]? = some ce) (hv : ce.vm = .none) (hcl : s.vm.findClass E = some ce.cls)
    (kk : W p l e R s m args below meth c H locs cells slots Q (F0 m x.handlerPc ls [.ref q])) : vx_W p l e R s m args below meth c H locs cells slots Q (F0 m pc ls rest) q := by
  intro T hT X
  have hpl : e.platform.magicAccessors = ({} : Platform).magicAccessors := by rw [X.admits.platform]
  obtain ⟨c3, c4, hc3, hc4, hasg⟩ := Cond.castable_spec hcast
  cases Option.some.inj (hc3.symm.trans hcl)
  obtain ⟨c5, hc5, hcl5⟩ := Cond.classLink_spec hown hlink e.platform hpl
  cases Option.some.inj (hc4.symm.trans hc5)
  obtain ⟨vm', X', st⟩ := X.thenCaughtThrough q (g := F0 m pc ls rest) rfl (Steps.refl _) (by rw [hT]; exact hcell) (by rw [hv]; rfl) (by obtain ⟨k9, h9, -⟩ := Vm.findClass_spec hcl; exact ⟨k9, h9⟩) pre x suf hsplit
    (fun z hz => by
      rcases hpass z hz with h | ⟨hz0, nm, hl1, hn1⟩
      · exact Or.inl h
      · obtain ⟨c6, hc6, hcl6⟩ := Cond.classLink_spec hown hl1 e.platform hpl
        obtain ⟨a8, b8, h1, h2, h3⟩ := hn1
        cases Option.some.inj (h1.symm.trans hcl)
        cases Option.some.inj (h2.symm.trans hc6)
        exact Or.inr ⟨hz0, _, hcl6, h3⟩) hx (Or.inr ⟨h0, c4, hcl5, hasg⟩)
  obtain ⟨t, a1, b1⟩ := kk (T.setVm vm') hT X'
  exact ⟨t, st.trans a1, b1⟩
end Rows
section Ends
variable {p : Program} {l : Launch} {e : Env} {R : Room} {s : State} {m : MethodId} {args : Array Value} {below : List Frame} {meth : Method} {c : Code} {H : Heap} {locs : List Loc} {cells slots : Nat} {Q : State → Prop}
variable {mc ms : Nat} {free : Addr → Prop} {A0 A1 : Nat → Prop} {H0 : Heap} {a : Array Value} {ls : Array Slot} {st0 rest : List Value}
variable {Qc : Array Value → State → Outcome → State → Prop} {XC : String → State → State → Prop}
/-- what a body that may throw owes at its end -/
def vx_MQ (below : List Frame) (Qc : Array Value → State → Outcome → State → Prop) (XC : String → State → State → Prop) (a : Array Value) (s : State) (mc ms : Nat) (free : Addr → Prop) : State → Prop := fun t =>
  ∃ o, t.status = .running ∧ Ended t below o ∧ vx_Q Qc XC mc ms free a s o t
theorem vx_ret {g : JFrame} {mc ms : Nat} (k : W p l e R s m args below meth c H locs cells slots (MQ below Qc args s mc ms free) g) : W p l e R s m args below meth c H locs cells slots (vx_MQ below Qc XC args s mc ms free) g := by
  intro T hT X
  obtain ⟨t, a1, o, b1, b2, b3, b4⟩ := k T hT X
  exact ⟨t, a1, o, b1, b2, Or.inl ⟨b3, b4⟩⟩
/-- not caught here: it goes on to the caller -/
theorem vx_widen {g : JFrame} {q : Addr} {k n : Nat} (h1 : cells ≤ k) (h2 : slots ≤ n) (kk : vx_W p l e R s m args below meth c H locs k n Q g q) : vx_W p l e R s m args below meth c H locs cells slots Q g q := fun T hT X => kk T hT (stand_widen X h1 h2)
theorem vx_out {pc : Nat} {E : String} {ce : Cell} {q : Addr} {mc ms : Nat} (hout : ∀ x ∈ c.exceptionTable.toList, covers x pc = false) (hlocks : meth.locks = false) (hcell : H[q]? = some ce) (hv : ce.vm = .none) (hcl : s.vm.findClass E = some ce.cls)
    (hx : ∀ t : State, t.heap = H → s.vm.Alike t.vm → XC E s t) (hf : ∀ z ∈ locs, free z.base) (hc : cells ≤ mc) (hs : slots ≤ ms) :
    vx_W p l e R s m args below meth c H locs cells slots (vx_MQ below Qc XC args s mc ms free) (F0 m pc ls rest) q := by
  intro T hT X
  obtain ⟨st1, hrun, hend, hW, hsm⟩ := X.leaveThrown q (g := F0 m pc ls rest) rfl rfl rfl hout hlocks
  have hcell9 : (T.setFrames (.throwing q :: below)).heap[q]? = some ce := by
    show T.heap[q]? = some ce
    rw [hT]; exact hcell
  exact ⟨_, st1, .threw q, hrun, hend, Or.inr ⟨q, rfl, E, ce, locs, hx _ hT hW.alike, hcell9, hv, hcl, hW, hsm.mono hc hs, hf⟩⟩
theorem vx_frame {U : State} {k n : Nat} (h : s.sameButNew ({ U with vm := s.vm } : State) locs k n) : s.heap.size ≤ U.heap.size ∧ ∀ q : Nat, q < s.heap.size → (∀ z ∈ locs, z.base ≠ q) → U.heap[q]? = s.heap[q]? := by
  obtain ⟨-, h2, -, -, -, h6⟩ := h
  refine ⟨h2, fun q hq hz => ?_⟩
  obtain ⟨c9, e1, e2, e3, e4⟩ := h6 q _ (Array.getElem?_eq_getElem hq)
  have hs : c9.slots = (s.heap[q]).slots := Array.ext_getElem? fun i => e4 i fun hm => hz _ hm rfl
  have h9 : c9 = s.heap[q] := by
    rw [hs] at e2
    exact e2
  have e5 : U.heap[q]? = some c9 := e1
  rw [e5, h9, Array.getElem?_eq_getElem hq]
/-- the words of a throw but the four that speak of the heap -/
def vx_no (w : Cond) : Bool := decide (w ≠ .isRef (.static Bundle.tN "UNASSIGNED_STACK" Bundle.steD)) && decide (w ≠ .isRef (.static Bundle.tN "SUPPRESSED_SENTINEL" Bundle.listD)) && decide (w ≠ .laysStatic Bundle.tN "UNASSIGNED_STACK" Bundle.steD) && decide (w ≠ .laysStatic Bundle.tN "SUPPRESSED_SENTINEL" Bundle.listD)
def vx_at0 (own : String) (ic : Nat) (X : String) (names : List String) : List Cond := (Bundle.ownAtoms0 own ic X names).filter vx_no
def vx_atS (own : String) (ic : Nat) (X : String) (names : List String) : List Cond := (Bundle.ownAtoms own ic X names).filter vx_no
/-- a word that the tables alone decide, or a good one -/
def vx_ot (w : Cond) : Bool := w.onTables || goodWord w
theorem vx_ot_at {args a' : Array Value} {s U : State} {w : Cond} (hW : s.WarmedH U.vm) (hvm : s.vm = U.vm) (hg : vx_ot w = true) (h : w.before args s = true) : w.before a' U = true := by
  simp only [vx_ot, Bool.or_eq_true] at hg
  rcases hg with hg | hg
  · exact va_tabs hg hvm h
  · exact word_at hW (good_of_word hg) h
/-- a list's words: the good ones out of the method's own list, the others by premises of their own -/
theorem vx_hat {args : Array Value} {s : State} {L B : List Cond} (h1 : ∀ w ∈ L.filter goodWord, w.before args s = true) (h2 : ∀ w ∈ L.filter (fun w => !goodWord w), w ∈ B) (h3 : ∀ w ∈ B, w.before args s = true) : ∀ w ∈ L, w.before args s = true := by
  intro w hw
  by_cases g : goodWord w = true
  · exact h1 w (List.mem_filter.mpr ⟨hw, g⟩)
  · refine h3 w (h2 w (List.mem_filter.mpr ⟨hw, ?_⟩))
    show (!goodWord w) = true
    cases hgw : goodWord w
    · rfl
    · exact absurd hgw g
theorem vx_c {args : Array Value} {s : State} {w : Cond} {B : List Cond} (h : w.before args s = true) (t : ∀ w ∈ B, w.before args s = true) : ∀ w' ∈ w :: B, w'.before args s = true := fun w' h' => (List.mem_cons.mp h').elim (fun e => by rw [e]; exact h) (t w')
theorem vx_n {args : Array Value} {s : State} : ∀ w ∈ ([] : List Cond), w.before args s = true := fun _ h => nomatch h
theorem vx_own {args : Array Value} {s : State} {L : List Cond} (h1 : ∀ w ∈ L.filter vx_no, w.before args s = true)
    (hU : (Cond.isRef (.static Bundle.tN "UNASSIGNED_STACK" Bundle.steD)).before args s = true) (hN : (Cond.isRef (.static Bundle.tN "SUPPRESSED_SENTINEL" Bundle.listD)).before args s = true)
    (lU : (Cond.laysStatic Bundle.tN "UNASSIGNED_STACK" Bundle.steD).before args s = true) (lN : (Cond.laysStatic Bundle.tN "SUPPRESSED_SENTINEL" Bundle.listD).before args s = true) : ∀ w ∈ L, w.before args s = true := by
  intro w hw
  by_cases e1 : w = .isRef (.static Bundle.tN "UNASSIGNED_STACK" Bundle.steD)
  · rw [e1]; exact hU
  · by_cases e2 : w = .isRef (.static Bundle.tN "SUPPRESSED_SENTINEL" Bundle.listD)
    · rw [e2]; exact hN
    · by_cases e3 : w = .laysStatic Bundle.tN "UNASSIGNED_STACK" Bundle.steD
      · rw [e3]; exact lU
      · by_cases e4 : w = .laysStatic Bundle.tN "SUPPRESSED_SENTINEL" Bundle.listD
        · rw [e4]; exact lN
        · exact h1 w (List.mem_filter.mpr ⟨hw, by unfold vx_no; rw [decide_eq_true e1, decide_eq_true e2, decide_eq_true e3, decide_eq_true e4]; rfl⟩)
/-- where a static field lies, its class's statics cell in H -/
def vx_L (C n d : String) (A : Nat → Prop) (U : State) (H : Heap) : Prop := ∃ (c : ClassId) (k : Class) (i : Nat) (f : Field) (a : Nat) (cell : Cell), U.vm.findClass C = some c ∧ U.fieldFound? C n d = some (c, k, i, f) ∧ f.isStatic = true ∧ k.statics = some a ∧ H[a]? = some cell ∧ cell.vm.isStatics = true ∧ cell.cls = c ∧ f.slot < cell.slots.size ∧ k.staticTypes[f.slot]? = some f.type ∧ ¬ A a
theorem vx_L.moved {C n d : String} {A : Nat → Prop} {u U : State} {H : Heap} (hvm : u.vm.Alike U.vm) (h : vx_L C n d A u H) : vx_L C n d A U H := by
  obtain ⟨c, k, i, f, a, cell, h1, h2, h3, h4, h5, h6, h7, h8, h9, h10⟩ := h
  obtain ⟨k', hi', he⟩ := State.fieldFound?_setVm hvm h2
  exact ⟨c, k', i, f, a, cell, by rw [hvm.findClass]; exact h1, hi', h3, by rw [he]; exact h4, h5, h6, h7, h8, by rw [he]; exact h9, h10⟩
theorem vx_L.kept {C n d : String} {A : Nat → Prop} {U : State} {H H1 : Heap} (h : vx_L C n d A U H) (hq : ∀ a : Nat, a < H.size → ¬ A a → H1[a]? = H[a]?) : vx_L C n d A U H1 := by
  obtain ⟨c, k, i, f, a, cell, h1, h2, h3, h4, h5, h6, h7, h8, h9, h10⟩ := h
  exact ⟨c, k, i, f, a, cell, h1, h2, h3, h4, by rw [hq a (Array.getElem?_eq_some_iff.mp h5).1 h10]; exact h5, h6, h7, h8, h9, h10⟩
theorem vx_L.narrow {C n d : String} {A B : Nat → Prop} {U : State} {H : Heap} (h : vx_L C n d A U H) (hAB : ∀ q, B q → A q) : vx_L C n d B U H := by
  obtain ⟨c, k, i, f, a, cell, h1, h2, h3, h4, h5, h6, h7, h8, h9, h10⟩ := h
  exact ⟨c, k, i, f, a, cell, h1, h2, h3, h4, h5, h6, h7, h8, h9, fun z => h10 (hAB _ z)⟩
theorem vx_L.word {C n d : String} {A : Nat → Prop} {s : State} {args : Array Value} (h : vx_L C n d A s s.heap) : (Cond.laysStatic C n d).before args s = true := by
  obtain ⟨c, k, i, f, a, cell, h1, h2, h3, h4, h5, h6, h7, h8, h9, -⟩ := h
  show (Cond.laysStatic C n d).holds args s none s [] = true
  exact Cond.laysStatic_of h1 h2 h3 h4 h5 h6 h7 h8 h9
/-- .. and what it holds: null or some reference -/
def vx_Zq (C n d : String) (A : Nat → Prop) (U : State) (H : Heap) : Prop := va_Zq C n d A U H ∧ vx_L C n d A U H
theorem vx_Zq.moved {C n d : String} {A : Nat → Prop} {u U : State} {H : Heap} (hvm : u.vm.Alike U.vm) (h : vx_Zq C n d A u H) : vx_Zq C n d A U H := ⟨va_Zq.moved hvm h.1, vx_L.moved hvm h.2⟩
theorem vx_Zq.kept {C n d : String} {A : Nat → Prop} {U : State} {H H1 : Heap} (h : vx_Zq C n d A U H) (hq : ∀ a : Nat, a < H.size → ¬ A a → H1[a]? = H[a]?) : vx_Zq C n d A U H1 := ⟨va_Zq.kept h.1 hq, vx_L.kept h.2 hq⟩
theorem vx_Zq.narrow {C n d : String} {A B : Nat → Prop} {U : State} {H : Heap} (h : vx_Zq C n d A U H) (hAB : ∀ q, B q → A q) : vx_Zq C n d B U H := ⟨va_Zq.narrow h.1 hAB, vx_L.narrow h.2 hAB⟩
theorem vx_Zqof {args : Array Value} {s : State} {C n d : String} {A : Nat → Prop} (hl : (Cond.laysStatic C n d).before args s = true) (hini : (Cond.initialized C).before args s = true) (h : (Cond.isRef (.static C n d)).before args s = true) (hA : ∀ a : Nat, a < s.heap.size → ¬ A a) : vx_Zq C n d A s s.heap := by
  refine ⟨va_Zqof hl hini h hA, ?_⟩
  obtain ⟨c, k, i, f, a, cell, h1, h2, h3, h4, h5, h6, h7, h8, h9⟩ := Cond.laysStatic_spec hl
  exact ⟨c, k, i, f, a, cell, h1, h2, h3, h4, h5, h6, h7, h8, h9, hA a (Array.getElem?_eq_some_iff.mp h5).1⟩
theorem vx_isRef {C n d : String} {v : Value} {A : Nat → Prop} {s : State} {args : Array Value} (h : va_Z C n d v A s s.heap) (hv : v.isRef = true) : (Cond.isRef (.static C n d)).before args s = true := by
  obtain ⟨cf, kf, fi, f, a, cell, h1, h2, h3, h4, h5, h6, h7, -⟩ := h
  have he : (Term.static C n d).eval args s none [] s = some v := by
    simp [Term.eval, State.fieldNamed?, h1, h2, h4, h5, h6, h7]
  simp only [Cond.before, Cond.holds, Cond.value, he]
  cases v <;> simp_all [Value.isRef]
theorem vx_isRefq {C n d : String} {A : Nat → Prop} {s : State} {args : Array Value} (h : va_Zq C n d A s s.heap) : (Cond.isRef (.static C n d)).before args s = true := by
  rcases h with h | ⟨t, h⟩
  · exact vx_isRef h rfl
  · exact vx_isRef h rfl
/-- the same frame, seen from here: as if the method were called anew in this heap -/
theorem vx_rebase {T : State} (X : Stand p l e R s m args below meth c T locs cells slots) {R' : Room} (hf : R'.frames ≤ R.frames) (hl : R'.locals ≤ R.locals) (hc : cells + R'.cells ≤ R.cells) (hs : slots + R'.slots ≤ R.slots) :
    Stand p l e R' ((T.setVm s.vm).setFrames (.invoking m args :: below)) m args below meth c T [] 0 0 := by
  have htop : (T.setVm s.vm).topJava?.isSome := X.here.top
  have hF : ((T.setVm s.vm).setFrames (.invoking m args :: below)).frames = .invoking m args :: below := State.frames_setFrames _ (State.cur_lt_of_top htop)
  obtain ⟨g₀, hg0⟩ := Option.isSome_iff_exists.mp htop
  obtain ⟨r, hr⟩ := State.topJava?_eq_some.mp hg0
  have hl9 : e.platform.stackLimits (T.setVm s.vm).me = e.platform.stackLimits s.me := X.limits
  have hb9 : (T.setVm s.vm).me.stackBytes = s.me.stackBytes := X.bytes
  refine ⟨X.admits, X.cas, X.clock, hF, ?_, X.hears, X.method, X.code, X.here, X.tail, X.warmed, ?_, ?_, ?_⟩
  · have h := X.room
    have hU : ((T.setVm s.vm).setFrames (.invoking m args :: below)).localsInUse = s.localsInUse := by
      rw [State.localsInUse_invoking hF (meth := meth) (c := c) X.method X.code, State.localsInUse_invoking X.frames X.method X.code]
    simp only [State.hasRoom, Bool.and_eq_true, decide_eq_true_eq] at h ⊢
    obtain ⟨⟨⟨⟨h1, h2, h3, h4, h5, h6⟩, h7⟩, h8⟩, h9⟩ := h
    rw [X.frames, List.length_cons] at h2 h3
    have q1 := X.heapSize
    have q2 := X.used
    simp only [hF, hU, List.length_cons, State.stackLimits_setFrames, State.stackBytes_setFrames, hl9, hb9]
    refine ⟨⟨⟨⟨by omega, by omega, by omega, by omega, by omega, h6⟩, ?_⟩, ?_⟩, X.book⟩
    · show T.heap.size + R'.cells ≤ e.platform.maxCells
      omega
    · show T.slotsUsed + R'.slots ≤ e.platform.maxSlots
      omega
  · rw [State.stackLimits_setFrames]; rfl
  · rw [State.stackBytes_setFrames]; rfl
  · refine ⟨?_, Nat.le_refl _, Nat.le_refl _, ?_, ?_, fun a c9 h9 => ⟨c9, h9, rfl, rfl, fun _ _ => rfl⟩⟩
    · obtain ⟨t, ht, -⟩ := State.frames_cons hr
      show T.setVm s.vm = { ((T.setVm s.vm).setFrames (.invoking m args :: below)).setFrames (T.setVm s.vm).frames with heap := T.heap, slotsUsed := T.slotsUsed }
      rw [State.setFrames_setFrames, State.setFrames_self ht]
      rfl
    · show T.slotsUsed = T.slotsUsed + ((T.heap.toList.drop T.heap.size).map (·.slots.size)).sum
      rw [List.drop_eq_nil_of_le (Nat.le_of_eq Array.length_toList)]
      rfl
    · show ((T.heap.toList.drop T.heap.size).map (·.slots.size)).sum ≤ 0
      rw [List.drop_eq_nil_of_le (Nat.le_of_eq Array.length_toList)]
      exact Nat.le_refl _
/-- 'throw new E()': new; dup; invokespecial; athrow -/
theorem vx_throw0 {cc : ByteArray} {pc : Nat} (hexec : p.tables.exec = Jvm.exec) (hb : c.code = cc) (hl : l.stackTraces = false) {own cls : String} {names : List String} {ik ic mc ms : Nat} {A : Nat → Prop}
    (hown : s.vm.findClass own = some m.cls) (hcls : Bundle.fit cls = true) (hnames : ∀ n ∈ names, Bundle.fit n = true)
    (hk : (Cond.classLink own ik cls).before args s = true) (hini : (Cond.initialized cls).before args s = true) (hat : ∀ w ∈ vx_at0 own ic cls names, w.before args s = true)
    (hgood : ∀ w ∈ Cond.classLink own ik cls :: Cond.initialized cls :: vx_at0 own ic cls names, vx_ot w = true)
    (hU : vx_Zq Bundle.tN "UNASSIGNED_STACK" Bundle.steD A s s.heap) (hN : vx_Zq Bundle.tN "SUPPRESSED_SENTINEL" Bundle.listD A s s.heap) (hS : va_S A s.heap H locs) (hsize : ls.size = c.maxLocals)
    (d0 : decode cc pc = .ok (.new ik, 3)) (d3 : decode cc (pc + 3) = .ok (.dup, 1)) (d4 : decode cc (pc + 4) = .ok (.invokespecial ic, 3)) (d7 : decode cc (pc + 7) = .ok (.athrow, 1))
    (hout : ∀ x ∈ c.exceptionTable.toList, covers x (pc + 7) = false)
    (hRframes : names.length + 3 < R.frames) (hRlocals : (rest.map fun v => v.category).sum + (13 * (names.length + 1) + 42) ≤ R.locals) (hRcells : cells + 1 ≤ R.cells) (hRslots : slots + 6 ≤ R.slots) (hlocks : meth.locks = false)
    (hx : ∀ t : State, s.vm.Alike t.vm → H.size ≤ t.heap.size → (∀ q : Nat, q < H.size → t.heap[q]? = H[q]?) → XC cls s t)
    (hf : ∀ z ∈ locs, free z.base) (hc : cells + 1 ≤ mc) (hs : slots + 6 ≤ ms) :
    W p l e R s m args below meth c H locs cells slots (vx_MQ below Qc XC args s mc ms free) (F0 m pc ls rest) := by
  intro T hT X
  have htr : e.platform.stackTraces = false := (show e.platform.stackTraces = l.stackTraces by rw [X.admits.platform]).trans hl
  have Y := vx_rebase X (R' := { frames := R.frames, locals := R.locals, cells := 1, slots := 6 }) (Nat.le_refl _) (Nat.le_refl _) hRcells hRslots
  obtain ⟨s', hA⟩ : ∃ z, z = (T.setVm s.vm).setFrames (.invoking m args :: below) := ⟨_, rfl⟩
  rw [← hA] at Y
  have hvm : s'.vm = s.vm := by rw [hA]; rfl
  have hhp : s'.heap = H := by rw [hA]; exact hT
  have hW0 : s.WarmedH s'.vm := by rw [hvm]; exact State.WarmedH.refl s
  have hat' : ∀ w ∈ vx_at0 own ic cls names, w.before args s' = true := fun w hw => vx_ot_at hW0 hvm.symm (hgood w (List.mem_cons_of_mem _ (List.mem_cons_of_mem _ hw))) (hat w hw)
  have hk' : (Cond.classLink own ik cls).before args s' = true := vx_ot_at hW0 hvm.symm (hgood _ List.mem_cons_self) hk
  have hini' : (Cond.initialized cls).before args s' = true := vx_ot_at hW0 hvm.symm (hgood _ (List.mem_cons_of_mem _ List.mem_cons_self)) hini
  have hU' : vx_Zq Bundle.tN "UNASSIGNED_STACK" Bundle.steD A s' s'.heap := by rw [hhp]; exact vx_Zq.moved hW0.alike (hU.kept hS.2.1)
  have hN' : vx_Zq Bundle.tN "SUPPRESSED_SENTINEL" Bundle.listD A s' s'.heap := by rw [hhp]; exact vx_Zq.moved hW0.alike (hN.kept hS.2.1)
  have h : ∀ w ∈ Bundle.ownAtoms0 own ic cls names, w.before args s' = true := vx_own hat' (vx_isRefq hU'.1) (vx_isRefq hN'.1) hU'.2.word hN'.2.word
  have hown' : s'.vm.findClass own = some m.cls := by rw [hvm]; exact hown
  have hins : (Cond.instantiable cls 6).before args s' = true := h _ (by simp [Bundle.ownAtoms0])
  obtain ⟨vm₁, cX, kX, hfX, hkX, -, -, X₁, st1⟩ := Y.newCold hexec (own := own) (C := cls) (index := ik) (n := 6) hown' hk' hins hini'
    (g := F0 m pc ls rest) rfl (by rw [hb]; exact d0) (Nat.le_refl _) (Nat.le_refl _)
  generalize hT1 : (T.setVm vm₁).pushCell { cls := cX, slots := kX.instanceTypes.map defaultValue, vm := .none } = T1 at X₁ st1
  have hcat : (Value.ref T.heap.size).category = 1 := rfl
  have hcellA : T1.heap[T.heap.size]? = some (freshCell cX kX) := by rw [← hT1]; exact State.heap_pushCell_size _ _
  have d3' : decode c.code (pc + 3) = .ok (.dup, 1) := by rw [hb]; exact d3
  obtain ⟨U, hsteps, hrun, hend, hW, hsame, ce, hce, hO⟩ := X₁.ctorThrow0 hexec htr (own := own) (cls := cls) (names := names) (ic := ic) hown' hcls hnames h (fun x hx => nomatch hx) hfX hkX hcellA (by rw [hhp, hT]; exact Nat.le_refl _)
    (g := { method := m, pc := pc + 4, locals := ls, stack := .ref T.heap.size :: .ref T.heap.size :: rest, locked := none }) rfl hsize rfl rfl (rest := rest) rfl
    (by rw [hb]; exact d4) (by rw [hb]; exact d7) hout hRframes (by simp only [List.map_cons, List.sum_cons, hcat]; omega) hlocks
  obtain ⟨f1, f2⟩ := vx_frame hsame
  rw [hhp] at f1 f2
  have hWs : s.WarmedH U.vm := State.WarmedH.trans hW0 hW
  have hcl : s.vm.findClass cls = some ce.cls := by
    have h9 := hO.cls
    rw [hvm] at h9
    exact h9
  have hall : s.sameButNew ({ U with vm := s.vm } : State) locs mc ms := by
    subst hA
    obtain ⟨e1, e2⟩ := hsame
    rw [State.setFrames_setFrames] at e1
    have h2 : (T.setVm s.vm).sameButNew ({ U with vm := s.vm } : State) [] (0 + 1) (0 + 6) := ⟨e1, e2⟩
    have h3 := X.same.trans h2
    rw [List.append_nil] at h3
    exact h3.mono hc hs
  refine ⟨U, ?_, .threw T.heap.size, hrun, hend, Or.inr ⟨T.heap.size, rfl, cls, ce, locs, hx U hWs.alike f1 (fun q hq => f2 q hq (fun z hz => nomatch hz)), hce, hO.vm, hcl, hWs, hall, hf⟩⟩
  refine st1 _ ?_
  show Steps p.tables e below (T1.setTop { method := m, pc := pc + 3, locals := ls, stack := .ref T.heap.size :: rest, locked := none }) _
  jvm_step X₁.here [X₁.here.top, hexec, d3', Value.category]
  exact hsteps
/-- 'throw new E("text")': new; dup; ldc; invokespecial; athrow -/
theorem vx_throwS {cc : ByteArray} {pc : Nat} (hexec : p.tables.exec = Jvm.exec) (hb : c.code = cc) (hl : l.stackTraces = false) {own cls text : String} {names : List String} {ik is ic mc ms sa : Nat} {A : Nat → Prop}
    (hown : s.vm.findClass own = some m.cls) (hcls : Bundle.fit cls = true) (hnames : ∀ n ∈ names, Bundle.fit n = true)
    (hk : (Cond.classLink own ik cls).before args s = true) (hini : (Cond.initialized cls).before args s = true) (hstr : vk_R own is text sa s) (hat : ∀ w ∈ vx_atS own ic cls names, w.before args s = true)
    (hgood : ∀ w ∈ Cond.classLink own ik cls :: Cond.initialized cls :: vx_atS own ic cls names, vx_ot w = true)
    (hU : vx_Zq Bundle.tN "UNASSIGNED_STACK" Bundle.steD A s s.heap) (hN : vx_Zq Bundle.tN "SUPPRESSED_SENTINEL" Bundle.listD A s s.heap) (hS : va_S A s.heap H locs) (hsize : ls.size = c.maxLocals)
    (d0 : decode cc pc = .ok (.new ik, 3)) (d3 : decode cc (pc + 3) = .ok (.dup, 1)) (d4 : decode cc (pc + 4) = .ok (.ldc is, 2)) (d6 : decode cc (pc + 6) = .ok (.invokespecial ic, 3)) (d9 : decode cc (pc + 9) = .ok (.athrow, 1))
    (hout : ∀ x ∈ c.exceptionTable.toList, covers x (pc + 9) = false)
    (hRframes : names.length + 3 < R.frames) (hRlocals : (rest.map fun v => v.category).sum + (13 * (names.length + 1) + 43) ≤ R.locals) (hRcells : cells + 1 ≤ R.cells) (hRslots : slots + 6 ≤ R.slots) (hlocks : meth.locks = false)
    (hx : ∀ t : State, s.vm.Alike t.vm → H.size ≤ t.heap.size → (∀ q : Nat, q < H.size → t.heap[q]? = H[q]?) → XC cls s t)
    (hf : ∀ z ∈ locs, free z.base) (hc : cells + 1 ≤ mc) (hs : slots + 6 ≤ ms) :
    W p l e R s m args below meth c H locs cells slots (vx_MQ below Qc XC args s mc ms free) (F0 m pc ls rest) := by
  intro T hT X
  have htr : e.platform.stackTraces = false := (show e.platform.stackTraces = l.stackTraces by rw [X.admits.platform]).trans hl
  have Y := vx_rebase X (R' := { frames := R.frames, locals := R.locals, cells := 1, slots := 6 }) (Nat.le_refl _) (Nat.le_refl _) hRcells hRslots
  obtain ⟨s', hA⟩ : ∃ z, z = (T.setVm s.vm).setFrames (.invoking m args :: below) := ⟨_, rfl⟩
  rw [← hA] at Y
  have hvm : s'.vm = s.vm := by rw [hA]; rfl
  have hhp : s'.heap = H := by rw [hA]; exact hT
  have hW0 : s.WarmedH s'.vm := by rw [hvm]; exact State.WarmedH.refl s
  have hat' : ∀ w ∈ vx_atS own ic cls names, w.before args s' = true := fun w hw => vx_ot_at hW0 hvm.symm (hgood w (List.mem_cons_of_mem _ (List.mem_cons_of_mem _ hw))) (hat w hw)
  have hk' : (Cond.classLink own ik cls).before args s' = true := vx_ot_at hW0 hvm.symm (hgood _ List.mem_cons_self) hk
  have hini' : (Cond.initialized cls).before args s' = true := vx_ot_at hW0 hvm.symm (hgood _ (List.mem_cons_of_mem _ List.mem_cons_self)) hini
  have hU' : vx_Zq Bundle.tN "UNASSIGNED_STACK" Bundle.steD A s' s'.heap := by rw [hhp]; exact vx_Zq.moved hW0.alike (hU.kept hS.2.1)
  have hN' : vx_Zq Bundle.tN "SUPPRESSED_SENTINEL" Bundle.listD A s' s'.heap := by rw [hhp]; exact vx_Zq.moved hW0.alike (hN.kept hS.2.1)
  have h : ∀ w ∈ Bundle.ownAtoms own ic cls names, w.before args s' = true := vx_own hat' (vx_isRefq hU'.1) (vx_isRefq hN'.1) hU'.2.word hN'.2.word
  have hown' : s'.vm.findClass own = some m.cls := by rw [hvm]; exact hown
  have hins : (Cond.instantiable cls 6).before args s' = true := h _ (by simp [Bundle.ownAtoms])
  obtain ⟨vm₁, cX, kX, hfX, hkX, -, -, X₁, st1⟩ := Y.newCold hexec (own := own) (C := cls) (index := ik) (n := 6) hown' hk' hins hini'
    (g := F0 m pc ls rest) rfl (by rw [hb]; exact d0) (Nat.le_refl _) (Nat.le_refl _)
  generalize hT1 : (T.setVm vm₁).pushCell { cls := cX, slots := kX.instanceTypes.map defaultValue, vm := .none } = T1 at X₁ st1
  have hcat : (Value.ref T.heap.size).category = 1 := rfl
  have hcellA : T1.heap[T.heap.size]? = some (freshCell cX kX) := by rw [← hT1]; exact State.heap_pushCell_size _ _
  have d3' : decode c.code (pc + 3) = .ok (.dup, 1) := by rw [hb]; exact d3
  have d4' : decode c.code (pc + 4) = .ok (.ldc is, 2) := by rw [hb]; exact d4
  have hstr' : vk_R own is text sa s' := vk_R.warm hW0 hstr
  obtain ⟨U, hsteps, hrun, hend, hW, hsame, ce, hce, hO⟩ := X₁.ctorThrowS hexec htr (own := own) (cls := cls) (names := names) (ic := ic) hown' hcls hnames h (fun x hx => nomatch hx) hfX hkX hcellA (by rw [hhp, hT]; exact Nat.le_refl _) (msg := .ref sa) rfl
    (g := { method := m, pc := pc + 6, locals := ls, stack := .ref sa :: .ref T.heap.size :: .ref T.heap.size :: rest, locked := none }) rfl hsize rfl rfl (rest := rest) rfl
    (by rw [hb]; exact d6) (by rw [hb]; exact d9) hout hRframes (by simp only [List.map_cons, List.sum_cons, hcat]; omega) hlocks
  obtain ⟨f1, f2⟩ := vx_frame hsame
  rw [hhp] at f1 f2
  have hWs : s.WarmedH U.vm := State.WarmedH.trans hW0 hW
  have hcl : s.vm.findClass cls = some ce.cls := by
    have h9 := hO.cls
    rw [hvm] at h9
    exact h9
  have hall : s.sameButNew ({ U with vm := s.vm } : State) locs mc ms := by
    subst hA
    obtain ⟨e1, e2⟩ := hsame
    rw [State.setFrames_setFrames] at e1
    have h2 : (T.setVm s.vm).sameButNew ({ U with vm := s.vm } : State) [] (0 + 1) (0 + 6) := ⟨e1, e2⟩
    have h3 := X.same.trans h2
    rw [List.append_nil] at h3
    exact h3.mono hc hs
  refine ⟨U, ?_, .threw T.heap.size, hrun, hend, Or.inr ⟨T.heap.size, rfl, cls, ce, locs, hx U hWs.alike f1 (fun q hq => f2 q hq (fun z hz => nomatch hz)), hce, hO.vm, hcl, hWs, hall, hf⟩⟩
  refine st1 _ ?_
  show Steps p.tables e below (T1.setTop { method := m, pc := pc + 3, locals := ls, stack := .ref T.heap.size :: rest, locked := none }) _
  jvm_step X₁.here [X₁.here.top, hexec, d3', Value.category]
  exact X₁.ldcString hexec (own := own) (text := text) (index := is) (a := sa) hown' hstr'.1 hstr'.2
    (g := { method := m, pc := pc + 4, locals := ls, stack := .ref T.heap.size :: .ref T.heap.size :: rest, locked := none }) rfl d4' _ hsteps
/-- 'throw new E("text")', the text by a wide index -/
theorem vx_throwSW {cc : ByteArray} {pc : Nat} (hexec : p.tables.exec = Jvm.exec) (hb : c.code = cc) (hl : l.stackTraces = false) {own cls text : String} {names : List String} {ik is ic mc ms sa : Nat} {A : Nat → Prop}
    (hown : s.vm.findClass own = some m.cls) (hcls : Bundle.fit cls = true) (hnames : ∀ n ∈ names, Bundle.fit n = true)
    (hk : (Cond.classLink own ik cls).before args s = true) (hini : (Cond.initialized cls).before args s = true) (hstr : vk_R own is text sa s) (hat : ∀ w ∈ vx_atS own ic cls names, w.before args s = true)
    (hgood : ∀ w ∈ Cond.classLink own ik cls :: Cond.initialized cls :: vx_atS own ic cls names, vx_ot w = true)
    (hU : vx_Zq Bundle.tN "UNASSIGNED_STACK" Bundle.steD A s s.heap) (hN : vx_Zq Bundle.tN "SUPPRESSED_SENTINEL" Bundle.listD A s s.heap) (hS : va_S A s.heap H locs) (hsize : ls.size = c.maxLocals)
    (d0 : decode cc pc = .ok (.new ik, 3)) (d3 : decode cc (pc + 3) = .ok (.dup, 1)) (d4 : decode cc (pc + 4) = .ok (.ldc_w is, 3)) (d7 : decode cc (pc + 7) = .ok (.invokespecial ic, 3)) (d10 : decode cc (pc + 10) = .ok (.athrow, 1))
    (hout : ∀ x ∈ c.exceptionTable.toList, covers x (pc + 10) = false)
    (hRframes : names.length + 3 < R.frames) (hRlocals : (rest.map fun v => v.category).sum + (13 * (names.length + 1) + 43) ≤ R.locals) (hRcells : cells + 1 ≤ R.cells) (hRslots : slots + 6 ≤ R.slots) (hlocks : meth.locks = false)
    (hx : ∀ t : State, s.vm.Alike t.vm → H.size ≤ t.heap.size → (∀ q : Nat, q < H.size → t.heap[q]? = H[q]?) → XC cls s t)
    (hf : ∀ z ∈ locs, free z.base) (hc : cells + 1 ≤ mc) (hs : slots + 6 ≤ ms) :
    W p l e R s m args below meth c H locs cells slots (vx_MQ below Qc XC args s mc ms free) (F0 m pc ls rest) := by
  intro T hT X
  have htr : e.platform.stackTraces = false := (show e.platform.stackTraces = l.stackTraces by rw [X.admits.platform]).trans hl
  have Y := vx_rebase X (R' := { frames := R.frames, locals := R.locals, cells := 1, slots := 6 }) (Nat.le_refl _) (Nat.le_refl _) hRcells hRslots
  obtain ⟨s', hA⟩ : ∃ z, z = (T.setVm s.vm).setFrames (.invoking m args :: below) := ⟨_, rfl⟩
  rw [← hA] at Y
  have hvm : s'.vm = s.vm := by rw [hA]; rfl
  have hhp : s'.heap = H := by rw [hA]; exact hT
  have hW0 : s.WarmedH s'.vm := by rw [hvm]; exact State.WarmedH.refl s
  have hat' : ∀ w ∈ vx_atS own ic cls names, w.before args s' = true := fun w hw => vx_ot_at hW0 hvm.symm (hgood w (List.mem_cons_of_mem _ (List.mem_cons_of_mem _ hw))) (hat w hw)
  have hk' : (Cond.classLink own ik cls).before args s' = true := vx_ot_at hW0 hvm.symm (hgood _ List.mem_cons_self) hk
  have hini' : (Cond.initialized cls).before args s' = true := vx_ot_at hW0 hvm.symm (hgood _ (List.mem_cons_of_mem _ List.mem_cons_self)) hini
  have hU' : vx_Zq Bundle.tN "UNASSIGNED_STACK" Bundle.steD A s' s'.heap := by rw [hhp]; exact vx_Zq.moved hW0.alike (hU.kept hS.2.1)
  have hN' : vx_Zq Bundle.tN "SUPPRESSED_SENTINEL" Bundle.listD A s' s'.heap := by rw [hhp]; exact vx_Zq.moved hW0.alike (hN.kept hS.2.1)
  have h : ∀ w ∈ Bundle.ownAtoms own ic cls names, w.before args s' = true := vx_own hat' (vx_isRefq hU'.1) (vx_isRefq hN'.1) hU'.2.word hN'.2.word
  have hown' : s'.vm.findClass own = some m.cls := by rw [hvm]; exact hown
  have hins : (Cond.instantiable cls 6).before args s' = true := h _ (by simp [Bundle.ownAtoms])
  obtain ⟨vm₁, cX, kX, hfX, hkX, -, -, X₁, st1⟩ := Y.newCold hexec (own := own) (C := cls) (index := ik) (n := 6) hown' hk' hins hini'
    (g := F0 m pc ls rest) rfl (by rw [hb]; exact d0) (Nat.le_refl _) (Nat.le_refl _)
  generalize hT1 : (T.setVm vm₁).pushCell { cls := cX, slots := kX.instanceTypes.map defaultValue, vm := .none } = T1 at X₁ st1
  have hcat : (Value.ref T.heap.size).category = 1 := rfl
  have hcellA : T1.heap[T.heap.size]? = some (freshCell cX kX) := by rw [← hT1]; exact State.heap_pushCell_size _ _
  have d3' : decode c.code (pc + 3) = .ok (.dup, 1) := by rw [hb]; exact d3
  have d4' : decode c.code (pc + 4) = .ok (.ldc_w is, 3) := by rw [hb]; exact d4
  have hstr' : vk_R own is text sa s' := vk_R.warm hW0 hstr
  obtain ⟨U, hsteps, hrun, hend, hW, hsame, ce, hce, hO⟩ := X₁.ctorThrowS hexec htr (own := own) (cls := cls) (names := names) (ic := ic) hown' hcls hnames h (fun x hx => nomatch hx) hfX hkX hcellA (by rw [hhp, hT]; exact Nat.le_refl _) (msg := .ref sa) rfl
    (g := { method := m, pc := pc + 7, locals := ls, stack := .ref sa :: .ref T.heap.size :: .ref T.heap.size :: rest, locked := none }) rfl hsize rfl rfl (rest := rest) rfl
    (by rw [hb]; exact d7) (by rw [hb]; exact d10) hout hRframes (by simp only [List.map_cons, List.sum_cons, hcat]; omega) hlocks
  obtain ⟨f1, f2⟩ := vx_frame hsame
  rw [hhp] at f1 f2
  have hWs : s.WarmedH U.vm := State.WarmedH.trans hW0 hW
  have hcl : s.vm.findClass cls = some ce.cls := by
    have h9 := hO.cls
    rw [hvm] at h9
    exact h9
  have hall : s.sameButNew ({ U with vm := s.vm } : State) locs mc ms := by
    subst hA
    obtain ⟨e1, e2⟩ := hsame
    rw [State.setFrames_setFrames] at e1
    have h2 : (T.setVm s.vm).sameButNew ({ U with vm := s.vm } : State) [] (0 + 1) (0 + 6) := ⟨e1, e2⟩
    have h3 := X.same.trans h2
    rw [List.append_nil] at h3
    exact h3.mono hc hs
  refine ⟨U, ?_, .threw T.heap.size, hrun, hend, Or.inr ⟨T.heap.size, rfl, cls, ce, locs, hx U hWs.alike f1 (fun q hq => f2 q hq (fun z hz => nomatch hz)), hce, hO.vm, hcl, hWs, hall, hf⟩⟩
  refine st1 _ ?_
  show Steps p.tables e below (T1.setTop { method := m, pc := pc + 3, locals := ls, stack := .ref T.heap.size :: rest, locked := none }) _
  jvm_step X₁.here [X₁.here.top, hexec, d3', Value.category]
  exact X₁.ldcStringW hexec (own := own) (text := text) (index := is) (a := sa) hown' hstr'.1 hstr'.2
    (g := { method := m, pc := pc + 4, locals := ls, stack := .ref T.heap.size :: .ref T.heap.size :: rest, locked := none }) rfl d4' _ hsteps
end Ends
section Bodies
variable {l : Launch}
theorem vx_ofW {y : MethodName} {ws ws' : List Cond} {rm : Room} {Pc : Array Value → State → Prop} {Qc : Array Value → State → Outcome → State → Prop} {XC : String → State → State → Prop} {mc ms : Nat} {free : Addr → Prop} {cc : ByteArray} {maxL : Nat} {ret : Option FieldType}
    (hy : plainName y.cls = true) (hw : ws = Cond.code y cc maxL ret :: ws')
    (body : ∀ p e s m args below meth c s₁, BodyLoose p l y (headSpec ws rm) cc maxL ret e s m args below meth c s₁ → c.maxLocals = maxL → (∀ x ∈ c.exceptionTable.toList, False) → Pc args s →
      W p l e (headSpec ws rm).room s m args below meth c s.heap [] 0 0 (vx_MQ below Qc XC args s mc ms free) (entryFrame m args maxL)) : vx_Met l y ws rm Pc Qc XC mc ms free := by
  refine MetFree.of_bodyS (code := cc) (maxLocals := maxL) (ret := ret) hy ?_ ?_
  · intro args s m h hn
    obtain ⟨meth, c, h1, h2, h3, h4, h5, h6, -, -⟩ := Cond.code_spec hn (atoms_spec (ws := ws) h _ (by rw [hw]; exact List.mem_cons_self))
    exact ⟨meth, c, h1, h2, h3, h4, h5, h6⟩
  · intro p e s m args below meth c s₁ B hml hP _
    have hh0 : s₁.heap = s.heap := by rw [B.state]; rfl
    have ht : ∀ x ∈ c.exceptionTable.toList, False := by
      obtain ⟨meth9, c9, h1, h2, -, -, -, -, h7, -⟩ := Cond.code_spec B.named (atoms_spec (ws := ws) B.pre _ (by rw [hw]; exact List.mem_cons_self))
      cases Option.some.inj (h1.symm.trans B.method)
      cases Option.some.inj (h2.symm.trans (Stand.of_body B).code)
      intro x hx
      rw [Array.isEmpty_iff.mp h7] at hx
      cases hx
    obtain ⟨t, a1, o, b1, b2, b3⟩ := body p e s m args below meth c s₁ B hml ht hP s₁ hh0 (Stand.of_body B)
    exact ⟨t, o, a1, b1, b2, b3⟩
/-- the table of a body with handlers -/
theorem vx_table {p : Program} {x y : MethodName} {S : Spec} {cc bytes : ByteArray} {maxL maxL' : Nat} {ret ret' : Option FieldType} {e : Env} {s s₁ : State} {m : MethodId} {args : Array Value} {below : List Frame} {meth : Method} {c : Code} {hh : List (Nat × Nat × Nat × Nat)}
    (B : BodyLoose p l y S cc maxL ret e s m args below meth c s₁) (h : (Cond.codeWith y bytes maxL' ret' hh).before args s = true) : c.exceptionTable.toList = tableOf hh := by
  obtain ⟨m9, meth9, c9, hn9, h1, h2, -, -, h6, -⟩ := Cond.codeWith_spec h
  cases Option.some.inj (hn9.symm.trans B.named)
  cases Option.some.inj (h1.symm.trans B.method)
  cases Option.some.inj (h2.symm.trans (Stand.of_body B).code)
  rw [← h6, table_eq]
end Bodies
end VXA
/-! ===== END ===== -/
/-! ===== BEGIN a static call of a method with an exception table ===== -/
section VXS
variable {p : Program} {l : Launch} {e : Env} {R : Room} {s : State} {m : MethodId} {args : Array Value} {below : List Frame} {meth : Method} {c : Code} {T : State} {H : Heap} {locs : List Loc} {cells slots : Nat}
abbrev vx_CSW (R : Room) (s : State) (args : Array Value) (own : String) (index : Nat) (y : MethodName) (bytes : ByteArray) (maxL : Nat) (ret : Option FieldType) (hh : List (Nat × Nat × Nat × Nat)) (ws : List Cond) (rm : Room) (mc ms n : Nat) : Prop :=
  (rm.cells = mc ∧ rm.slots = ms ∧ rm.frames + 1 ≤ R.frames ∧ 8 + (maxL + 11) + rm.locals ≤ R.locals ∧ (∀ w ∈ ws, ∀ (a' : Array Value) (U : State), s.WarmedH U.vm → w.before a' U = true) ∧ Cond.codeWith y bytes maxL ret hh ∈ ws) ∧
  (Cond.codeWith y bytes maxL ret hh).before args s = true ∧ (Cond.initialized y.cls).before args s = true ∧ (y.cls ≠ "java/lang/invoke/MethodHandle" ∧ y.cls ≠ "java/lang/invoke/VarHandle") ∧
  (∀ sig, parseMethodDescriptor y.desc = some sig → n = sig.parameters.length) ∧ (Cond.methodLink own index y).before args s = true ∧ (Cond.static y).before args s = true
theorem vx_cwSW {own : String} {index maxL mc ms : Nat} {y : MethodName} {bytes : ByteArray} {ret : Option FieldType} {hh : List (Nat × Nat × Nat × Nat)} {Ts ws ws' : List Cond} {rm : Room} (n : Nat) (ht : ∀ w ∈ Ts, w.before args s = true) (hT : GoodIn Ts (va_wsS own index y ws)) (hw : ws = Cond.codeWith y bytes maxL ret hh :: ws') (hrc : rm.cells = mc) (hrs : rm.slots = ms)
    (hd : y.cls ≠ "java/lang/invoke/MethodHandle" ∧ y.cls ≠ "java/lang/invoke/VarHandle" ∧ (parseMethodDescriptor y.desc).map (fun d => d.parameters.length) = some n) (hR : rm.frames + 1 ≤ R.frames ∧ 8 + (maxL + 11) + rm.locals ≤ R.locals) :
    vx_CSW R s args own index y bytes maxL ret hh ws rm mc ms n := by
  have ok : ∀ w ∈ va_wsS own index y ws, w.before args s = true := fun w h => ht w (hT w h).1
  have hG : GoodIn Ts ws := fun w h => hT w (by unfold va_wsS; exact List.mem_append_right _ h)
  have hc : Cond.codeWith y bytes maxL ret hh ∈ ws := by rw [hw]; exact List.mem_cons_self
  refine ⟨⟨hrc, hrs, hR.1, hR.2, pay_in ht hG, hc⟩, ht _ (hG _ hc).1, ok _ (by simp [va_wsS]), ⟨hd.1, hd.2.1⟩, fun sig h => ?_, ok _ (by simp [va_wsS]), ok _ (by simp [va_wsS])⟩
  have h2 := hd.2.2
  rw [h] at h2
  exact (Option.some.inj h2).symm
theorem vx_callSW (X : Stand p l e R s m args below meth c T locs cells slots) (hexec : p.tables.exec = Jvm.exec) {own : String} {index : Nat} {y : MethodName} {bytes : ByteArray} {maxL : Nat} {ret : Option FieldType} {hh : List (Nat × Nat × Nat × Nat)}
    (hown : s.vm.findClass own = some m.cls) (hlink : (Cond.methodLink own index y).before args s = true) (hstat : (Cond.static y).before args s = true) (hinit : (Cond.initialized y.cls).before args s = true)
    (hcode : (Cond.codeWith y bytes maxL ret hh).before args s = true) (hy : y.cls ≠ "java/lang/invoke/MethodHandle" ∧ y.cls ≠ "java/lang/invoke/VarHandle")
    {W9 : Nat} {Pre : Pt → Array Value → Prop} {Post : Pt → Array Value → Option Value → Pt → Prop} (hK : Back l R p e below s args y 3 W9 Pre Post)
    {g : JFrame} (hg : g.method = m) (hsize : g.locals.size = c.maxLocals) {argsL rest : List Value} (hlen : ∀ sig, parseMethodDescriptor y.desc = some sig → argsL.length = sig.parameters.length)
    (hstack : g.stack = argsL.reverse ++ rest) (hW : 2 * g.monitorRoom + (rest.map fun v => v.category).sum ≤ W9) (hdg : decode c.code g.pc = .ok (.invokestatic index, 3))
    (hpre : ∀ vm₁, s.WarmedH vm₁ → Pre ⟨T.setVm vm₁, locs, cells, slots⟩ argsL.toArray) :
    ∃ (v : Option Value) (vm₁ : Vm) (B : Pt), s.WarmedH vm₁ ∧ Stand p l e R s m args below meth c B.U B.locs B.cells B.slots ∧ Post ⟨T.setVm vm₁, locs, cells, slots⟩ argsL.toArray v B ∧
      ∀ target, Steps p.tables e below (B.U.setTop { g with pc := g.pc + 3, stack := v.toList ++ rest }) target → Steps p.tables e below (T.setTop g) target := by
  obtain ⟨mk, methM, cM, hnamed, hmethM, -, -, -, -, -, -, hsigM⟩ := Cond.codeWith_spec hcode
  have hstatic : methM.isStatic = true := Cond.static_spec hnamed hmethM hstat
  obtain ⟨kP, hkP, -⟩ := className_of_methodNamed hnamed
  have hinitP : kP.init = .initialized := Cond.initialized_spec (findClass_of_methodNamed hnamed) hkP hinit
  obtain ⟨vm₁, X₁, hstep₁⟩ := X.invokestatic hexec hown hlink hnamed hmethM hstatic hkP hinitP hy (g := g) hg (argsL := argsL) (rest := rest) (hlen _ hsigM) hstack hdg
  obtain ⟨v, B, X', hpost, hsteps⟩ := hK m meth c ⟨T.setVm vm₁, locs, cells, slots⟩ { g with stack := rest } (.invokestatic index) mk argsL.toArray X₁ hg hsize hdg hW (X₁.named hnamed) (hpre vm₁ X₁.warmed)
  exact ⟨v, vm₁, B, X₁.warmed, X', hpost, fun target h => hstep₁ _ fun acts => by rw [doInvoke_state]; exact hsteps.trans h⟩
theorem vx_runSW {y : MethodName} {bytes cc : ByteArray} {maxL nL mc ms n index : Nat} {ret : Option FieldType} {hh : List (Nat × Nat × Nat × Nat)} {ws : List Cond} {rm : Room} {Pc : Array Value → State → Prop} {Qc : Array Value → State → Outcome → State → Prop} {free : Addr → Prop} {Ts : List Cond} {own : String} {As rest : List Value} {g : JFrame}
    (S : CallFix p m c cc nL s args Ts own) (hM : Met l y ws rm Pc Qc mc ms free) (cw : vx_CSW R s args own index y bytes maxL ret hh ws rm mc ms n) (hp : PreS s H Pc As)
    (hg : g.method = m) (hn : As.length = n) (hsize : g.locals.size = nL) (hstack : g.stack = As.reverse ++ rest) (hW : 2 * g.monitorRoom + (rest.map fun v => v.category).sum ≤ 8) (hdg : decode cc g.pc = .ok (.invokestatic index, 3)) (hf : cells + mc ≤ R.cells ∧ slots + ms ≤ R.slots) :
    va_Run p l e R s m args below meth c H locs cells slots mc ms g rest (Qc As.toArray) (free) := by
  obtain ⟨⟨hrc, hrs, hfr, hlo, hws, hcw⟩, hcode, hini, hy, hlen, hl, hstt⟩ := cw
  have hK : Back l R p e below s args y 3 8 (PreOf R mc ms Pc) (PostOf Qc mc ms free) := va_backW (hh := hh) (bytes := bytes) (maxL := maxL) (ret := ret) hM hp.1 hrc hrs hfr hlo hws hcw (fun a' U hW => word_at hW (Or.inl (by first | rfl | simp [Cond.onTables, Cond.keeps, Cond.steady])) hini)
  obtain ⟨hx, hb, hml, ho, -⟩ := S
  intro T hT X
  obtain ⟨v, vm₁, ⟨U', l2, c2, s2⟩, hW₁, X', ⟨g', mk, t, L, e1, e2, hq, h1, hL, h2, h3⟩, st⟩ := vx_callSW X hx (hh := hh) (bytes := bytes) (maxL := maxL) (ret := ret) ho hl hstt hini hcode hy hK hg (hsize.trans hml.symm) (argsL := As) (rest := rest) (fun sig h => hn.trans (hlen sig h)) hstack hW (by rw [hb]; exact hdg)
    (fun vm₁ hW₁ => ⟨hf.1, hf.2, hp.2 (T.setVm vm₁) hT hW₁⟩)
  dsimp only [Pt.U, Pt.locs, Pt.cells, Pt.slots] at X' e1 e2 h1 h2 h3 st
  subst h1; subst h2; subst h3
  exact ⟨v, (T.setVm vm₁).calling g' mk As.toArray, t, U', L, hT, X', hL, e1, e2, hq, st⟩
/-- not caught here, past rows that name other classes: it goes on to the caller -/
theorem vx_outP {p : Program} {l : Launch} {e : Env} {R : Room} {s : State} {m : MethodId} {args : Array Value} {below : List Frame} {meth : Method} {c : Code} {H : Heap} {locs : List Loc} {cells slots : Nat} {free : Addr → Prop} {ls : Array Slot} {rest : List Value} {Qc : Array Value → State → Outcome → State → Prop} {XC : String → State → State → Prop}
    {pc : Nat} {own E : String} {ce : Cell} {q : Addr} {mc ms : Nat} (hown : s.vm.findClass own = some m.cls) (hlocks : meth.locks = false)
    (hpass : ∀ z ∈ c.exceptionTable.toList, covers z pc = false ∨ (z.catchType ≠ 0 ∧ ∃ nm : String, (Cond.classLink own z.catchType nm).before args s = true ∧ va_Nc E nm s)) (hcell : H[q]? = some ce) (hv : ce.vm = .none) (hcl : s.vm.findClass E = some ce.cls)
    (hx : ∀ t : State, t.heap = H → s.vm.Alike t.vm → XC E s t) (hf : ∀ z ∈ locs, free z.base) (hc : cells ≤ mc) (hs : slots ≤ ms) :
    vx_W p l e R s m args below meth c H locs cells slots (vx_MQ below Qc XC args s mc ms free) (F0 m pc ls rest) q := by
  intro T hT X
  have hpl : e.platform.magicAccessors = ({} : Platform).magicAccessors := by rw [X.admits.platform]
  obtain ⟨vm', hW', X', st⟩ := X.outThrough hlocks q (g := F0 m pc ls rest) rfl rfl rfl (cell := ce) (by rw [hT]; exact hcell) (by rw [hv]; rfl)
    (by obtain ⟨k9, h9, -⟩ := Vm.findClass_spec hcl; exact ⟨k9, h9⟩) (fun z hz => by
      rcases hpass z hz with h | ⟨hz0, nm, hl1, hn1⟩
      · exact Or.inl h
      · obtain ⟨c6, hc6, hcl6⟩ := Cond.classLink_spec hown hl1 e.platform hpl
        obtain ⟨a8, b8, h1, h2, h3⟩ := hn1
        cases Option.some.inj (h1.symm.trans hcl)
        cases Option.some.inj (h2.symm.trans hc6)
        exact Or.inr ⟨hz0, _, hcl6, h3⟩)
  obtain ⟨g₀, hfr⟩ := X'.frames_eq
  have hcell9 : ((T.setVm vm').setFrames (.throwing q :: below)).heap[q]? = some ce := by
    show T.heap[q]? = some ce
    rw [hT]; exact hcell
  have hend : Ended ((T.setVm vm').setFrames (.throwing q :: below)) below (.threw q) := State.frames_setFrames _ (State.cur_lt_of_frames hfr)
  refine ⟨(T.setVm vm').setFrames (.throwing q :: below), ?_, .threw q, X'.here.running, hend, Or.inr ⟨q, rfl, E, ce, locs, hx _ hT (X'.ends _).1.alike, hcell9, hv, hcl, (X'.ends _).1, (X'.ends _).2.mono hc hs, hf⟩⟩
  rw [X.pushThrowing_eq]
  exact st
/-- a thing of a world lies in the heap -/
theorem vx_lt {D : va_G} {cl : List vw_C} {ws : va_W} {H1 : Heap} (h : va_P D cl ws H1) {k : Nat} {q : Nat × va_E} (hk : ws[k]? = some q) : q.1 < H1.size := (h k q hk).lt
end VXS
/-! ===== END ===== -/
/-! ===== BEGIN methods with a table of their own: called by a name, returning or throwing ===== -/
section VXH
/-! vx_backW, vx_callVX, vx_callSX, vx_callVW, vx_runVW, vx_runVX, vx_runSX, vx_ofWH follow the same proofs as their sisters above (Free/Laws.lean, Shelf42/LK1.lean); vx_outP calls Shelf42/NT130.lean (outThrough). -/
section
variable {l : Launch} {R : Room} {p : Program} {e : Env} {below : List Frame} {s : State} {sargs : Array Value} {y : MethodName} {len W9 : Nat}
theorem vx_backW {ws : List Cond} {rm : Room} {Pc : Array Value → State → Prop} {Qc : Array Value → State → Outcome → State → Prop} {XC : String → State → State → Prop} {mc ms : Nat} {free : Addr → Prop} {bytes : ByteArray} {maxL : Nat} {ret : Option FieldType} {hh : List (Nat × Nat × Nat × Nat)}
    (hM : vx_Met l y ws rm Pc Qc XC mc ms free) (hblind : FrameBlind Pc) (hrc : rm.cells = mc) (hrs : rm.slots = ms)
    (hframes : rm.frames + 1 ≤ R.frames) (hlocals : W9 + (maxL + 11) + rm.locals ≤ R.locals)
    (hws : ∀ w ∈ ws, ∀ a' U, s.WarmedH U.vm → w.before a' U = true) (hcode : Cond.codeWith y bytes maxL ret hh ∈ ws) (hinit : ∀ a' U, s.WarmedH U.vm → (Cond.initialized y.cls).before a' U = true) :
    vx_Back l R p e below s sargs y len W9 (PreOf R mc ms Pc) (PostOf Qc mc ms free) (vx_Post XC mc ms free) := by
  intro m meth c A g ig mk a X hg hsize hdg hW hn hp
  have h1 : (headSpec ws rm).pre.before a A.U = true := atoms_intro fun w hw => hws w hw _ _ X.warmed
  have h2 : (Cond.codeWith y bytes maxL ret hh).before a A.U = true := hws _ hcode _ _ X.warmed
  have h3 : (Cond.initialized y.cls).before a A.U = true := hinit _ _ X.warmed
  have h4 : A.cells + (headSpec ws rm).room.cells ≤ R.cells := by rw [show (headSpec ws rm).room.cells = mc from hrc]; exact hp.1
  have h5 : A.slots + (headSpec ws rm).room.slots ≤ R.slots := by rw [show (headSpec ws rm).room.slots = ms from hrs]; exact hp.2.1
  have hPc : Pc a (A.U.calling g mk a) := hblind _ _ _ _ hp.2.2
  obtain ⟨U, Ls, c0, s0⟩ := A
  dsimp only [Pt.U, Pt.locs, Pt.cells, Pt.slots] at h1 h2 h3 h4 h5 X hn hPc ⊢
  obtain ⟨m9, methY, cY, hn9, hmY, hcY, -, hlY, -⟩ := Cond.codeWith_spec h2
  cases Option.some.inj (hn9.symm.trans hn)
  obtain ⟨kY, hkY, -⟩ := className_of_methodNamed hn
  have hinitY : kY.init = .initialized := Cond.initialized_spec (findClass_of_methodNamed hn) hkY h3
  have h : At U g.method c below := by rw [hg]; exact X.here
  have hlocals9 : W9 + (maxL + 11) + (headSpec ws rm).room.locals ≤ R.locals := hlocals
  have happ : (headSpec ws rm).appliesLoose y e.platform (U.calling g mk a) = true :=
    Spec.appliesLoose_calling (g := g) h hdg hn hkY hinitY
      (X.room_calling (g := g) (R' := (headSpec ws rm).room) hsize hmY hcY hframes (by rw [hlY]; omega) h4 h5) h1
  obtain ⟨mid, hmid⟩ := h.above
  have hfr : (U.setTop g).frames = (.java g :: mid) ++ below := by rw [State.frames_setTop' g h.top, hmid]; rfl
  obtain ⟨o, s₂, hsteps, -, hend, hq⟩ := Steps.callFree hM p X.admits X.cas X.clock (acts := []) hfr happ hPc trivial
  have hq' : vx_Q Qc XC mc ms free a (U.calling g mk a) o s₂ := hq
  rw [State.frames_setTop' g h.top] at hend
  obtain ⟨g₀, hg0⟩ := Option.isSome_iff_exists.mp h.top
  obtain ⟨r, hr⟩ := State.topJava?_eq_some.mp hg0
  have hr' : (({ U with heap := s₂.heap, slotsUsed := s₂.slotsUsed } : State).setVm s₂.vm).frames = .java g₀ :: r := hr
  rcases hq' with ⟨hqc, L, hfe, hL⟩ | ⟨q, rfl, E, ce, L, hx, hce, hcv, hcl, hW₂, hsm, hL⟩
  · obtain ⟨⟨v, rfl⟩, hW₂, e2, q2, q3, q4, q5, q6⟩ := id hfe
    have e3 : s₂ = ({ (U.calling g mk a).setFrames s₂.frames with heap := s₂.heap, slotsUsed := s₂.slotsUsed } : State).setVm s₂.vm := by
      have : s₂ = ({ s₂ with vm := (U.calling g mk a).vm } : State).setVm s₂.vm := rfl
      rw [e2] at this
      exact this
    obtain ⟨c₂, i₂, len₂, hc₂, hd₂, hf₂⟩ := hend
    have hW' : U.WarmedH s₂.vm := hW₂
    have hcc : c₂ = c := by
      have h1 : s₂.code? g.method = U.code? g.method := by
        rw [State.code?_eq, State.code?_eq, hW'.alike.method?]
      exact Option.some.inj (hc₂.symm.trans (h1.trans h.code))
    subst hcc
    have hlen : len₂ = len := by rw [hdg] at hd₂; cases hd₂; rfl
    subst hlen
    have hs₂ : s₂ = (({ U with heap := s₂.heap, slotsUsed := s₂.slotsUsed } : State).setVm s₂.vm).setTop { g with pc := g.pc + len₂, stack := v.toList ++ g.stack } := by
      refine e3.trans ?_
      rw [hf₂, State.calling_eq h.top, State.setFrames_setFrames, State.setTop_of_frames _ hr', hr]
      rfl
    have hsame : U.sameButNew ({ U with heap := s₂.heap, slotsUsed := s₂.slotsUsed } : State) L mc ms := by
      refine ⟨?_, q2, q3, q4, q5, q6⟩
      obtain ⟨t, ht, -⟩ := State.frames_cons hr
      show ({ U with heap := s₂.heap, slotsUsed := s₂.slotsUsed } : State) = { U.setFrames U.frames with heap := s₂.heap, slotsUsed := s₂.slotsUsed }
      rw [State.setFrames_self ht]
    subst hg
    refine Or.inl ⟨v, ⟨(({ U with heap := s₂.heap, slotsUsed := s₂.slotsUsed } : State).setVm s₂.vm), Ls ++ L, c0 + mc, s0 + ms⟩,
      ⟨X.admits, X.cas, X.clock, X.frames, X.room, X.hears, X.method, X.code, (X.here.setHeapUsed s₂.heap s₂.slotsUsed).setVm hW'.alike, X.tail, State.WarmedH.trans X.warmed hW', X.limits, X.bytes, X.same.trans (hsame.setVm s.vm)⟩,
      ⟨g, mk, s₂, L, rfl, rfl, hqc, rfl, hL, rfl, rfl⟩, ?_⟩
    show Steps p.tables e below _ ((({ U with heap := s₂.heap, slotsUsed := s₂.slotsUsed } : State).setVm s₂.vm).setTop { g with pc := g.pc + len₂, stack := v.toList ++ g.stack })
    rw [← hs₂]
    exact hsteps
  · obtain ⟨e2, q2, q3, q4, q5, q6⟩ := id hsm
    have e3 : s₂ = ({ (U.calling g mk a).setFrames s₂.frames with heap := s₂.heap, slotsUsed := s₂.slotsUsed } : State).setVm s₂.vm := by
      have : s₂ = ({ s₂ with vm := (U.calling g mk a).vm } : State).setVm s₂.vm := rfl
      rw [e2] at this
      exact this
    have hf₂ : s₂.frames = .throwing q :: .java g :: U.frames.tail := hend
    have hW' : U.WarmedH s₂.vm := hW₂
    have hs₂ : s₂ = ((({ U with heap := s₂.heap, slotsUsed := s₂.slotsUsed } : State).setVm s₂.vm).setTop g).pushFrame (.throwing q) := by
      refine e3.trans ?_
      rw [hf₂, State.calling_eq h.top, State.setFrames_setFrames, State.pushFrame, State.frames_setTop _ hr', State.setTop_of_frames _ hr', State.setFrames_setFrames, hr]
      rfl
    have hsame : U.sameButNew ({ U with heap := s₂.heap, slotsUsed := s₂.slotsUsed } : State) L mc ms := by
      refine ⟨?_, q2, q3, q4, q5, q6⟩
      obtain ⟨t, ht, -⟩ := State.frames_cons hr
      show ({ U with heap := s₂.heap, slotsUsed := s₂.slotsUsed } : State) = { U.setFrames U.frames with heap := s₂.heap, slotsUsed := s₂.slotsUsed }
      rw [State.setFrames_self ht]
    subst hg
    refine Or.inr ⟨q, ⟨(({ U with heap := s₂.heap, slotsUsed := s₂.slotsUsed } : State).setVm s₂.vm), Ls ++ L, c0 + mc, s0 + ms⟩,
      ⟨X.admits, X.cas, X.clock, X.frames, X.room, X.hears, X.method, X.code, (X.here.setHeapUsed s₂.heap s₂.slotsUsed).setVm hW'.alike, X.tail, State.WarmedH.trans X.warmed hW', X.limits, X.bytes, X.same.trans (hsame.setVm s.vm)⟩,
      ⟨g, mk, s₂, L, E, ce, rfl, rfl, hx, hce, hcv, hcl, rfl, hL, rfl, rfl⟩, ?_⟩
    show Steps p.tables e below _ (((({ U with heap := s₂.heap, slotsUsed := s₂.slotsUsed } : State).setVm s₂.vm).setTop g).pushFrame (.throwing q))
    rw [← hs₂]
    exact hsteps
end
variable {p : Program} {l : Launch} {e : Env} {R : Room} {s : State} {m : MethodId} {args : Array Value} {below : List Frame} {meth : Method} {c : Code} {T : State} {H : Heap} {locs : List Loc} {cells slots : Nat}
theorem vx_callVX (X : Stand p l e R s m args below meth c T locs cells slots) (hexec : p.tables.exec = Jvm.exec) {own C : String} {index : Nat} {y : MethodName} {bytes : ByteArray} {maxL : Nat} {ret : Option FieldType} {hh : List (Nat × Nat × Nat × Nat)}
    (hown : s.vm.findClass own = some m.cls) (hlink : (Cond.methodLink own index y).before args s = true) (hinst : (Cond.instanceMethod y).before args s = true) (hsel : (Cond.selects C y y).before args s = true)
    (hcode : (Cond.codeWith y bytes maxL ret hh).before args s = true) (hy : y.cls ≠ "java/lang/invoke/MethodHandle" ∧ y.cls ≠ "java/lang/invoke/VarHandle")
    {W9 : Nat} {Pre : Pt → Array Value → Prop} {Post : Pt → Array Value → Option Value → Pt → Prop} {PostX : Pt → Array Value → Addr → Pt → Prop} (hK : vx_Back l R p e below s args y 3 W9 Pre Post PostX)
    {b : Addr} {cellB : Cell} (hcell : T.heap[b]? = some cellB) (hobj : cellB.vm.isStatics = false) (hcls : s.vm.findClass C = some cellB.cls)
    {g : JFrame} (hg : g.method = m) (hsize : g.locals.size = c.maxLocals) {argsL rest : List Value} (hlen : ∀ sig, parseMethodDescriptor y.desc = some sig → argsL.length = sig.parameters.length)
    (hstack : g.stack = argsL.reverse ++ .ref b :: rest) (hW : 2 * g.monitorRoom + (rest.map fun v => v.category).sum ≤ W9) (hdg : decode c.code g.pc = .ok (.invokevirtual index, 3))
    (hpre : ∀ vm₁, s.WarmedH vm₁ → Pre ⟨T.setVm vm₁, locs, cells, slots⟩ (Value.ref b :: argsL).toArray) :
    (∃ (v : Option Value) (vm₁ : Vm) (B : Pt), s.WarmedH vm₁ ∧ Stand p l e R s m args below meth c B.U B.locs B.cells B.slots ∧ Post ⟨T.setVm vm₁, locs, cells, slots⟩ (Value.ref b :: argsL).toArray v B ∧
      ∀ target, Steps p.tables e below (B.U.setTop { g with pc := g.pc + 3, stack := v.toList ++ rest }) target → Steps p.tables e below (T.setTop g) target) ∨
    (∃ (q : Addr) (vm₁ : Vm) (B : Pt), s.WarmedH vm₁ ∧ Stand p l e R s m args below meth c B.U B.locs B.cells B.slots ∧ PostX ⟨T.setVm vm₁, locs, cells, slots⟩ (Value.ref b :: argsL).toArray q B ∧
      Steps p.tables e below (T.setTop g) ((B.U.setTop { g with stack := rest }).pushFrame (.throwing q))) := by
  obtain ⟨mk, methM, hnamed, hmethM, hstM, habM⟩ := Cond.instanceMethod_spec hinst
  obtain ⟨m8, methM', cM, hn8, hmethM', -, -, -, -, -, -, hsigM⟩ := Cond.codeWith_spec hcode
  cases Option.some.inj (hn8.symm.trans hnamed)
  cases hmethM.symm.trans hmethM'
  obtain ⟨c2, r2, m2, q1, q2, q3, q4, kP, hkP, hkPi⟩ := Cond.selects_spec hsel
  cases hcls.symm.trans q1
  cases (State.methodFound?_of_named hnamed hy).symm.trans q2
  cases hnamed.symm.trans q3
  have hselP : selectMethod e.platform s.vm cellB.cls mk = .method mk := by rw [Launch.admits_selectMethod X.admits]; exact q4
  obtain ⟨vm₁, X₁, hstep₁⟩ := X.invokevirtual hexec hown hlink hnamed hmethM hstM hkP hkPi hy (a := b) (cell := cellB) hcell
    (fun z h => by rw [h] at hobj; cases hobj) hselP hmethM habM hkP hkPi (g := g) hg (argsL := argsL) (rest := rest) (hlen _ hsigM) hstack hdg
  rcases hK m meth c ⟨T.setVm vm₁, locs, cells, slots⟩ { g with stack := rest } (.invokevirtual index) mk (Value.ref b :: argsL).toArray X₁ hg hsize hdg hW (X₁.named hnamed) (hpre vm₁ X₁.warmed) with ⟨v, B, X', hpost, hsteps⟩ | ⟨q, B, X', hpost, hsteps⟩
  · exact Or.inl ⟨v, vm₁, B, X₁.warmed, X', hpost, fun target h => hstep₁ _ fun acts => by rw [doInvoke_state]; exact hsteps.trans h⟩
  · exact Or.inr ⟨q, vm₁, B, X₁.warmed, X', hpost, hstep₁ _ fun acts => by rw [doInvoke_state]; exact hsteps⟩
theorem vx_callSX (X : Stand p l e R s m args below meth c T locs cells slots) (hexec : p.tables.exec = Jvm.exec) {own : String} {index : Nat} {y : MethodName} {bytes : ByteArray} {maxL : Nat} {ret : Option FieldType} {hh : List (Nat × Nat × Nat × Nat)}
    (hown : s.vm.findClass own = some m.cls) (hlink : (Cond.methodLink own index y).before args s = true) (hstat : (Cond.static y).before args s = true) (hinit : (Cond.initialized y.cls).before args s = true)
    (hcode : (Cond.codeWith y bytes maxL ret hh).before args s = true) (hy : y.cls ≠ "java/lang/invoke/MethodHandle" ∧ y.cls ≠ "java/lang/invoke/VarHandle")
    {W9 : Nat} {Pre : Pt → Array Value → Prop} {Post : Pt → Array Value → Option Value → Pt → Prop} {PostX : Pt → Array Value → Addr → Pt → Prop} (hK : vx_Back l R p e below s args y 3 W9 Pre Post PostX)
    {g : JFrame} (hg : g.method = m) (hsize : g.locals.size = c.maxLocals) {argsL rest : List Value} (hlen : ∀ sig, parseMethodDescriptor y.desc = some sig → argsL.length = sig.parameters.length)
    (hstack : g.stack = argsL.reverse ++ rest) (hW : 2 * g.monitorRoom + (rest.map fun v => v.category).sum ≤ W9) (hdg : decode c.code g.pc = .ok (.invokestatic index, 3))
    (hpre : ∀ vm₁, s.WarmedH vm₁ → Pre ⟨T.setVm vm₁, locs, cells, slots⟩ argsL.toArray) :
    (∃ (v : Option Value) (vm₁ : Vm) (B : Pt), s.WarmedH vm₁ ∧ Stand p l e R s m args below meth c B.U B.locs B.cells B.slots ∧ Post ⟨T.setVm vm₁, locs, cells, slots⟩ argsL.toArray v B ∧
      ∀ target, Steps p.tables e below (B.U.setTop { g with pc := g.pc + 3, stack := v.toList ++ rest }) target → Steps p.tables e below (T.setTop g) target) ∨
    (∃ (q : Addr) (vm₁ : Vm) (B : Pt), s.WarmedH vm₁ ∧ Stand p l e R s m args below meth c B.U B.locs B.cells B.slots ∧ PostX ⟨T.setVm vm₁, locs, cells, slots⟩ argsL.toArray q B ∧
      Steps p.tables e below (T.setTop g) ((B.U.setTop { g with stack := rest }).pushFrame (.throwing q))) := by
  obtain ⟨mk, methM, cM, hnamed, hmethM, -, -, -, -, -, -, hsigM⟩ := Cond.codeWith_spec hcode
  have hstatic : methM.isStatic = true := Cond.static_spec hnamed hmethM hstat
  obtain ⟨kP, hkP, -⟩ := className_of_methodNamed hnamed
  have hinitP : kP.init = .initialized := Cond.initialized_spec (findClass_of_methodNamed hnamed) hkP hinit
  obtain ⟨vm₁, X₁, hstep₁⟩ := X.invokestatic hexec hown hlink hnamed hmethM hstatic hkP hinitP hy (g := g) hg (argsL := argsL) (rest := rest) (hlen _ hsigM) hstack hdg
  rcases hK m meth c ⟨T.setVm vm₁, locs, cells, slots⟩ { g with stack := rest } (.invokestatic index) mk argsL.toArray X₁ hg hsize hdg hW (X₁.named hnamed) (hpre vm₁ X₁.warmed) with ⟨v, B, X', hpost, hsteps⟩ | ⟨q, B, X', hpost, hsteps⟩
  · exact Or.inl ⟨v, vm₁, B, X₁.warmed, X', hpost, fun target h => hstep₁ _ fun acts => by rw [doInvoke_state]; exact hsteps.trans h⟩
  · exact Or.inr ⟨q, vm₁, B, X₁.warmed, X', hpost, hstep₁ _ fun acts => by rw [doInvoke_state]; exact hsteps⟩
theorem vx_callVW (X : Stand p l e R s m args below meth c T locs cells slots) (hexec : p.tables.exec = Jvm.exec) {own C : String} {index : Nat} {y : MethodName} {bytes : ByteArray} {maxL : Nat} {ret : Option FieldType} {hh : List (Nat × Nat × Nat × Nat)}
    (hown : s.vm.findClass own = some m.cls) (hlink : (Cond.methodLink own index y).before args s = true) (hinst : (Cond.instanceMethod y).before args s = true) (hsel : (Cond.selects C y y).before args s = true)
    (hcode : (Cond.codeWith y bytes maxL ret hh).before args s = true) (hy : y.cls ≠ "java/lang/invoke/MethodHandle" ∧ y.cls ≠ "java/lang/invoke/VarHandle")
    {W9 : Nat} {Pre : Pt → Array Value → Prop} {Post : Pt → Array Value → Option Value → Pt → Prop} (hK : Back l R p e below s args y 3 W9 Pre Post)
    {b : Addr} {cellB : Cell} (hcell : T.heap[b]? = some cellB) (hobj : cellB.vm.isStatics = false) (hcls : s.vm.findClass C = some cellB.cls)
    {g : JFrame} (hg : g.method = m) (hsize : g.locals.size = c.maxLocals) {argsL rest : List Value} (hlen : ∀ sig, parseMethodDescriptor y.desc = some sig → argsL.length = sig.parameters.length)
    (hstack : g.stack = argsL.reverse ++ .ref b :: rest) (hW : 2 * g.monitorRoom + (rest.map fun v => v.category).sum ≤ W9) (hdg : decode c.code g.pc = .ok (.invokevirtual index, 3))
    (hpre : ∀ vm₁, s.WarmedH vm₁ → Pre ⟨T.setVm vm₁, locs, cells, slots⟩ (Value.ref b :: argsL).toArray) :
    ∃ (v : Option Value) (vm₁ : Vm) (B : Pt), s.WarmedH vm₁ ∧ Stand p l e R s m args below meth c B.U B.locs B.cells B.slots ∧ Post ⟨T.setVm vm₁, locs, cells, slots⟩ (Value.ref b :: argsL).toArray v B ∧
      ∀ target, Steps p.tables e below (B.U.setTop { g with pc := g.pc + 3, stack := v.toList ++ rest }) target → Steps p.tables e below (T.setTop g) target := by
  obtain ⟨mk, methM, hnamed, hmethM, hstM, habM⟩ := Cond.instanceMethod_spec hinst
  obtain ⟨m8, methM', cM, hn8, hmethM', -, -, -, -, -, -, hsigM⟩ := Cond.codeWith_spec hcode
  cases Option.some.inj (hn8.symm.trans hnamed)
  cases hmethM.symm.trans hmethM'
  obtain ⟨c2, r2, m2, q1, q2, q3, q4, kP, hkP, hkPi⟩ := Cond.selects_spec hsel
  cases hcls.symm.trans q1
  cases (State.methodFound?_of_named hnamed hy).symm.trans q2
  cases hnamed.symm.trans q3
  have hselP : selectMethod e.platform s.vm cellB.cls mk = .method mk := by rw [Launch.admits_selectMethod X.admits]; exact q4
  obtain ⟨vm₁, X₁, hstep₁⟩ := X.invokevirtual hexec hown hlink hnamed hmethM hstM hkP hkPi hy (a := b) (cell := cellB) hcell
    (fun z h => by rw [h] at hobj; cases hobj) hselP hmethM habM hkP hkPi (g := g) hg (argsL := argsL) (rest := rest) (hlen _ hsigM) hstack hdg
  obtain ⟨v, B, X', hpost, hsteps⟩ := hK m meth c ⟨T.setVm vm₁, locs, cells, slots⟩ { g with stack := rest } (.invokevirtual index) mk (Value.ref b :: argsL).toArray X₁ hg hsize hdg hW (X₁.named hnamed) (hpre vm₁ X₁.warmed)
  exact ⟨v, vm₁, B, X₁.warmed, X', hpost, fun target h => hstep₁ _ fun acts => by rw [doInvoke_state]; exact hsteps.trans h⟩
abbrev vx_CVW (R : Room) (s : State) (args : Array Value) (own C : String) (index : Nat) (y : MethodName) (bytes : ByteArray) (maxL : Nat) (ret : Option FieldType) (hh : List (Nat × Nat × Nat × Nat)) (ws : List Cond) (rm : Room) (mc ms n : Nat) : Prop :=
  (rm.cells = mc ∧ rm.slots = ms ∧ rm.frames + 1 ≤ R.frames ∧ 8 + (maxL + 11) + rm.locals ≤ R.locals ∧ (∀ w ∈ ws, ∀ (a' : Array Value) (U : State), s.WarmedH U.vm → w.before a' U = true) ∧ Cond.codeWith y bytes maxL ret hh ∈ ws) ∧
  (Cond.codeWith y bytes maxL ret hh).before args s = true ∧ (Cond.initialized y.cls).before args s = true ∧ (y.cls ≠ "java/lang/invoke/MethodHandle" ∧ y.cls ≠ "java/lang/invoke/VarHandle") ∧
  (∀ sig, parseMethodDescriptor y.desc = some sig → n = sig.parameters.length) ∧ (Cond.methodLink own index y).before args s = true ∧ (Cond.instanceMethod y).before args s = true ∧ (Cond.selects C y y).before args s = true
theorem vx_cwVW {own C : String} {index maxL mc ms : Nat} {y : MethodName} {bytes : ByteArray} {ret : Option FieldType} {hh : List (Nat × Nat × Nat × Nat)} {Ts ws ws' : List Cond} {rm : Room} (n : Nat) (ht : ∀ w ∈ Ts, w.before args s = true) (hT : GoodIn Ts (wsV own index C y ws)) (hw : ws = Cond.codeWith y bytes maxL ret hh :: ws') (hrc : rm.cells = mc) (hrs : rm.slots = ms)
    (hd : y.cls = C ∧ y.cls ≠ "java/lang/invoke/MethodHandle" ∧ y.cls ≠ "java/lang/invoke/VarHandle" ∧ (parseMethodDescriptor y.desc).map (fun d => d.parameters.length) = some n) (hR : rm.frames + 1 ≤ R.frames ∧ 8 + (maxL + 11) + rm.locals ≤ R.locals) :
    vx_CVW R s args own C index y bytes maxL ret hh ws rm mc ms n := by
  obtain ⟨hC, hd⟩ := hd
  subst hC
  have ok : ∀ w ∈ wsV own index y.cls y ws, w.before args s = true := fun w h => ht w (hT w h).1
  have hG : GoodIn Ts ws := fun w h => hT w (by unfold wsV; exact List.mem_append_right _ h)
  have hc : Cond.codeWith y bytes maxL ret hh ∈ ws := by rw [hw]; exact List.mem_cons_self
  refine ⟨⟨hrc, hrs, hR.1, hR.2, pay_in ht hG, hc⟩, ht _ (hG _ hc).1, ok _ (by simp [wsV]), ⟨hd.1, hd.2.1⟩, fun sig h => ?_, ok _ (by simp [wsV]), ok _ (by simp [wsV]), ok _ (by simp [wsV])⟩
  have h2 := hd.2.2
  rw [h] at h2
  exact (Option.some.inj h2).symm
theorem vx_runVW {y : MethodName} {bytes cc : ByteArray} {maxL nL mc ms n index : Nat} {ret : Option FieldType} {hh : List (Nat × Nat × Nat × Nat)} {ws : List Cond} {rm : Room} {Pc : Array Value → State → Prop} {Qc : Array Value → State → Outcome → State → Prop} {free : Addr → Prop} {Ts : List Cond} {own C : String} {b : Addr} {As rest : List Value} {g : JFrame}
    (S : CallFix p m c cc nL s args Ts own) (hM : Met l y ws rm Pc Qc mc ms free) (cw : vx_CVW R s args own C index y bytes maxL ret hh ws rm mc ms n) (hp : PreV s H C b Pc As)
    (hg : g.method = m) (hn : As.length = n) (hsize : g.locals.size = nL) (hstack : g.stack = As.reverse ++ .ref b :: rest) (hW : 2 * g.monitorRoom + (rest.map fun v => v.category).sum ≤ 8) (hdg : decode cc g.pc = .ok (.invokevirtual index, 3)) (hf : cells + mc ≤ R.cells ∧ slots + ms ≤ R.slots) :
    va_Run p l e R s m args below meth c H locs cells slots mc ms g rest (Qc (Value.ref b :: As).toArray) free := by
  obtain ⟨⟨hrc, hrs, hfr, hlo, hws, hcw⟩, hcode, hini, hy, hlen, hl, hin, hse⟩ := cw
  have hK : Back l R p e below s args y 3 8 (PreOf R mc ms Pc) (PostOf Qc mc ms free) := va_backW (hh := hh) (bytes := bytes) (maxL := maxL) (ret := ret) hM hp.1 hrc hrs hfr hlo hws hcw (fun a' U hW => word_at hW (Or.inl (by first | rfl | simp [Cond.onTables, Cond.keeps, Cond.steady])) hini)
  obtain ⟨hx, hb, hml, ho, -⟩ := S
  obtain ⟨-, ⟨cellB, hcB, hoB, hclB⟩, hPc⟩ := hp
  intro T hT X
  obtain ⟨v, vm₁, ⟨U', l2, c2, s2⟩, hW₁, X', ⟨g', mk, t, L, e1, e2, hq, h1, hL, h2, h3⟩, st⟩ := vx_callVW X hx (C := C) (hh := hh) (bytes := bytes) (maxL := maxL) (ret := ret) ho hl hin hse hcode hy hK (by rw [hT]; exact hcB) hoB hclB hg (hsize.trans hml.symm) (argsL := As) (rest := rest) (fun sig h => hn.trans (hlen sig h)) hstack hW (by rw [hb]; exact hdg)
    (fun vm₁ hW₁ => ⟨hf.1, hf.2, hPc (T.setVm vm₁) hT hW₁⟩)
  dsimp only [Pt.U, Pt.locs, Pt.cells, Pt.slots] at X' e1 e2 h1 h2 h3 st
  subst h1; subst h2; subst h3
  exact ⟨v, (T.setVm vm₁).calling g' mk (Value.ref b :: As).toArray, t, U', L, hT, X', hL, e1, e2, hq, st⟩
section
variable {y : MethodName} {bytes cc : ByteArray} {maxL nL mc ms n index : Nat} {ret : Option FieldType} {ws : List Cond} {rm : Room} {Pc : Array Value → State → Prop} {Qc : Array Value → State → Outcome → State → Prop} {XC : String → State → State → Prop} {free : Addr → Prop} {Ts : List Cond} {own C : String} {b : Addr} {As rest : List Value} {g : JFrame}
theorem vx_runVX {hh : List (Nat × Nat × Nat × Nat)} (S : CallFix p m c cc nL s args Ts own) (hM : vx_Met l y ws rm Pc Qc XC mc ms free) (cw : vx_CVW R s args own C index y bytes maxL ret hh ws rm mc ms n) (hp : PreV s H C b Pc As)
    (hg : g.method = m) (hn : As.length = n) (hsize : g.locals.size = nL) (hstack : g.stack = As.reverse ++ .ref b :: rest) (hW : 2 * g.monitorRoom + (rest.map fun v => v.category).sum ≤ 8) (hdg : decode cc g.pc = .ok (.invokevirtual index, 3)) (hf : cells + mc ≤ R.cells ∧ slots + ms ≤ R.slots) :
    vx_Run p l e R s m args below meth c H locs cells slots mc ms g rest (Qc (Value.ref b :: As).toArray) XC free := by
  obtain ⟨⟨hrc, hrs, hfr, hlo, hws, hcw⟩, hcode, hini, hy, hlen, hl, hin, hse⟩ := cw
  have hK : vx_Back l R p e below s args y 3 8 (PreOf R mc ms Pc) (PostOf Qc mc ms free) (vx_Post XC mc ms free) := vx_backW (hh := hh) (bytes := bytes) (maxL := maxL) (ret := ret) hM hp.1 hrc hrs hfr hlo hws hcw (fun a' U hW => word_at hW (Or.inl (by first | rfl | simp [Cond.onTables, Cond.keeps, Cond.steady])) hini)
  obtain ⟨hx, hb, hml, ho, -⟩ := S
  obtain ⟨-, ⟨cellB, hcB, hoB, hclB⟩, hPc⟩ := hp
  intro T hT X
  rcases vx_callVX X hx (C := C) (hh := hh) (bytes := bytes) (maxL := maxL) (ret := ret) ho hl hin hse hcode hy hK (by rw [hT]; exact hcB) hoB hclB hg (hsize.trans hml.symm) (argsL := As) (rest := rest) (fun sig h => hn.trans (hlen sig h)) hstack hW (by rw [hb]; exact hdg)
    (fun vm₁ hW₁ => ⟨hf.1, hf.2, hPc (T.setVm vm₁) hT hW₁⟩) with ⟨v, vm₁, ⟨U', l2, c2, s2⟩, hW₁, X', ⟨g', mk, t, L, e1, e2, hq, h1, hL, h2, h3⟩, st⟩ | ⟨q, vm₁, ⟨U', l2, c2, s2⟩, hW₁, X', ⟨g', mk, t, L, E, ce, e1, e2, hq, hce, hcv, hcl, h1, hL, h2, h3⟩, st⟩
  · dsimp only [Pt.U, Pt.locs, Pt.cells, Pt.slots] at X' e1 e2 h1 h2 h3 st
    subst h1; subst h2; subst h3
    exact Or.inl ⟨v, (T.setVm vm₁).calling g' mk (Value.ref b :: As).toArray, t, U', L, hT, X', hL, e1, e2, hq, st⟩
  · dsimp only [Pt.U, Pt.locs, Pt.cells, Pt.slots] at X' e1 e2 h1 h2 h3 st hcl
    subst h1; subst h2; subst h3
    exact Or.inr ⟨q, (T.setVm vm₁).calling g' mk (Value.ref b :: As).toArray, t, U', L, E, ce, hT, X', hL, e1, e2, hq, hce, hcv, vx_cls hW₁ hcl, st⟩
theorem vx_runSX {hh : List (Nat × Nat × Nat × Nat)} (S : CallFix p m c cc nL s args Ts own) (hM : vx_Met l y ws rm Pc Qc XC mc ms free) (cw : vx_CSW R s args own index y bytes maxL ret hh ws rm mc ms n) (hp : PreS s H Pc As)
    (hg : g.method = m) (hn : As.length = n) (hsize : g.locals.size = nL) (hstack : g.stack = As.reverse ++ rest) (hW : 2 * g.monitorRoom + (rest.map fun v => v.category).sum ≤ 8) (hdg : decode cc g.pc = .ok (.invokestatic index, 3)) (hf : cells + mc ≤ R.cells ∧ slots + ms ≤ R.slots) :
    vx_Run p l e R s m args below meth c H locs cells slots mc ms g rest (Qc As.toArray) XC free := by
  obtain ⟨⟨hrc, hrs, hfr, hlo, hws, hcw⟩, hcode, hini, hy, hlen, hl, hstt⟩ := cw
  have hK : vx_Back l R p e below s args y 3 8 (PreOf R mc ms Pc) (PostOf Qc mc ms free) (vx_Post XC mc ms free) := vx_backW (hh := hh) (bytes := bytes) (maxL := maxL) (ret := ret) hM hp.1 hrc hrs hfr hlo hws hcw (fun a' U hW => word_at hW (Or.inl (by first | rfl | simp [Cond.onTables, Cond.keeps, Cond.steady])) hini)
  obtain ⟨hx, hb, hml, ho, -⟩ := S
  intro T hT X
  rcases vx_callSX X hx (hh := hh) (bytes := bytes) (maxL := maxL) (ret := ret) ho hl hstt hini hcode hy hK hg (hsize.trans hml.symm) (argsL := As) (rest := rest) (fun sig h => hn.trans (hlen sig h)) hstack hW (by rw [hb]; exact hdg)
    (fun vm₁ hW₁ => ⟨hf.1, hf.2, hp.2 (T.setVm vm₁) hT hW₁⟩) with ⟨v, vm₁, ⟨U', l2, c2, s2⟩, hW₁, X', ⟨g', mk, t, L, e1, e2, hq, h1, hL, h2, h3⟩, st⟩ | ⟨q, vm₁, ⟨U', l2, c2, s2⟩, hW₁, X', ⟨g', mk, t, L, E, ce, e1, e2, hq, hce, hcv, hcl, h1, hL, h2, h3⟩, st⟩
  · dsimp only [Pt.U, Pt.locs, Pt.cells, Pt.slots] at X' e1 e2 h1 h2 h3 st
    subst h1; subst h2; subst h3
    exact Or.inl ⟨v, (T.setVm vm₁).calling g' mk As.toArray, t, U', L, hT, X', hL, e1, e2, hq, st⟩
  · dsimp only [Pt.U, Pt.locs, Pt.cells, Pt.slots] at X' e1 e2 h1 h2 h3 st hcl
    subst h1; subst h2; subst h3
    exact Or.inr ⟨q, (T.setVm vm₁).calling g' mk As.toArray, t, U', L, E, ce, hT, X', hL, e1, e2, hq, hce, hcv, vx_cls hW₁ hcl, st⟩
end
end VXH
theorem vx_ofWH {l : Launch} {y : MethodName} {ws ws' : List Cond} {rm : Room} {Pc : Array Value → State → Prop} {Qc : Array Value → State → Outcome → State → Prop} {XC : String → State → State → Prop} {mc ms : Nat} {free : Addr → Prop} {cc : ByteArray} {maxL : Nat} {ret : Option FieldType} {hh : List (Nat × Nat × Nat × Nat)}
    (hy : plainName y.cls = true) (hw : ws = Cond.codeWith y cc maxL ret hh :: ws')
    (body : ∀ p e s m args below meth c s₁, BodyLoose p l y (headSpec ws rm) cc maxL ret e s m args below meth c s₁ → c.maxLocals = maxL → Pc args s →
      W p l e (headSpec ws rm).room s m args below meth c s.heap [] 0 0 (vx_MQ below Qc XC args s mc ms free) (entryFrame m args maxL)) : vx_Met l y ws rm Pc Qc XC mc ms free := by
  refine MetFree.of_bodyS (code := cc) (maxLocals := maxL) (ret := ret) hy ?_ ?_
  · intro args s m h hn
    obtain ⟨m9, meth, c, hn9, h1, h2, h3, h4, -, h5, h6, -⟩ := Cond.codeWith_spec (atoms_spec (ws := ws) h _ (by rw [hw]; exact List.mem_cons_self))
    cases hn.symm.trans hn9
    exact ⟨meth, c, h1, h2, h3, h4, h5, h6⟩
  · intro p e s m args below meth c s₁ B hml hP _
    have hh0 : s₁.heap = s.heap := by rw [B.state]; rfl
    obtain ⟨t, a1, o, b1, b2, b3⟩ := body p e s m args below meth c s₁ B hml hP s₁ hh0 (Stand.of_body B)
    exact ⟨t, o, a1, b1, b2, b3⟩
/-! ===== END ===== -/
end
section
def RX0 : String := "PartitionedCache$CommandText"
def TX0 : u_T := fun k => match k with
  | 0 => ("PartitionedCache$CommandText", "signs", "[C", true)
  | _ => ("PartitionedCache$CommandText", "length", "I", false)
def tyX0 : Nat → FieldType := fun k => match k with
  | 0 => .array .char
  | _ => .int
abbrev wsX00 : List Cond := u_ws RX0 TX0 2
theorem nmX0 : ∀ a, a < 2 → ∀ b, b < 2 → a ≠ b → (TX0 a).2.1 ≠ (TX0 b).2.1 := by decide +kernel
theorem tyX0_ok : ∀ k, k < 2 → parseFieldDescriptor (TX0 k).2.2.1 = some (tyX0 k) := by decide +kernel
abbrev cX0_init : ByteArray := prog_2_method_1_code
def yX0_init : MethodName := ⟨RX0, "<init>", "()V"⟩
abbrev cX0_append : ByteArray := prog_2_method_2_code
def yX0_append : MethodName := ⟨RX0, "append", "(C)V"⟩
abbrev cX0_signAt : ByteArray := prog_2_method_3_code
def yX0_signAt : MethodName := ⟨RX0, "signAt", "(I)I"⟩
abbrev cX0_commandBeginsAt : ByteArray := prog_2_method_4_code
def yX0_commandBeginsAt : MethodName := ⟨RX0, "commandBeginsAt", "(I)Z"⟩
abbrev cX0_numberAt : ByteArray := prog_2_method_5_code
def yX0_numberAt : MethodName := ⟨RX0, "numberAt", "(I)I"⟩
abbrev cX0_firstError : ByteArray := prog_2_method_6_code
def yX0_firstError : MethodName := ⟨RX0, "firstError", "()I"⟩
abbrev cX0_stageAfter : ByteArray := prog_2_method_7_code
def yX0_stageAfter : MethodName := ⟨RX0, "stageAfter", "(III)I"⟩
abbrev cX0_stageAfterFirst : ByteArray := prog_2_method_8_code
def yX0_stageAfterFirst : MethodName := ⟨RX0, "stageAfterFirst", "(I)I"⟩
abbrev cX0_mayGoOn : ByteArray := prog_2_method_9_code
def yX0_mayGoOn : MethodName := ⟨RX0, "mayGoOn", "(II)Z"⟩
abbrev cX0_isDigit : ByteArray := prog_2_method_10_code
def yX0_isDigit : MethodName := ⟨RX0, "isDigit", "(I)Z"⟩
abbrev cX0_isTenantDigit : ByteArray := prog_2_method_11_code
def yX0_isTenantDigit : MethodName := ⟨RX0, "isTenantDigit", "(I)Z"⟩
def RX1 : String := "PartitionedCache$History"
def TX1 : u_T := fun k => match k with
  | 0 => ("PartitionedCache$History", "ring", "[LPartitionedCache$State;", true)
  | 1 => ("PartitionedCache$History", "oldest", "I", false)
  | _ => ("PartitionedCache$History", "size", "I", false)
def tyX1 : Nat → FieldType := fun k => match k with
  | 0 => .array (.object "PartitionedCache$State")
  | 1 => .int
  | _ => .int
abbrev wsX10 : List Cond := u_ws RX1 TX1 3
theorem nmX1 : ∀ a, a < 3 → ∀ b, b < 3 → a ≠ b → (TX1 a).2.1 ≠ (TX1 b).2.1 := by decide +kernel
theorem tyX1_ok : ∀ k, k < 3 → parseFieldDescriptor (TX1 k).2.2.1 = some (tyX1 k) := by decide +kernel
abbrev cX1_init : ByteArray := prog_3_method_1_code
def yX1_init : MethodName := ⟨RX1, "<init>", "()V"⟩
abbrev cX1_push : ByteArray := prog_3_method_2_code
def yX1_push : MethodName := ⟨RX1, "push", "(LPartitionedCache$State;)V"⟩
abbrev cX1_popInto : ByteArray := prog_3_method_3_code
def yX1_popInto : MethodName := ⟨RX1, "popInto", "(LPartitionedCache$State;)V"⟩
def RX2 : String := "PartitionedCache$Monitors"
def TX2 : u_T := fun k => match k with
  | 0 => ("PartitionedCache$Monitors", "addresses", "[I", true)
  | _ => ("PartitionedCache$Monitors", "gains", "[I", true)
def tyX2 : Nat → FieldType := fun k => match k with
  | 0 => .array .int
  | _ => .array .int
abbrev wsX20 : List Cond := u_ws RX2 TX2 2
theorem nmX2 : ∀ a, a < 2 → ∀ b, b < 2 → a ≠ b → (TX2 a).2.1 ≠ (TX2 b).2.1 := by decide +kernel
theorem tyX2_ok : ∀ k, k < 2 → parseFieldDescriptor (TX2 k).2.2.1 = some (tyX2 k) := by decide +kernel
abbrev cX2_init : ByteArray := prog_4_method_1_code
def yX2_init : MethodName := ⟨RX2, "<init>", "()V"⟩
abbrev cX2_copyFrom : ByteArray := prog_4_method_2_code
def yX2_copyFrom : MethodName := ⟨RX2, "copyFrom", "(LPartitionedCache$Monitors;)V"⟩
abbrev cX2_note : ByteArray := prog_4_method_3_code
def yX2_note : MethodName := ⟨RX2, "note", "(II)V"⟩
abbrev cX2_utilityOf : ByteArray := prog_4_method_4_code
def yX2_utilityOf : MethodName := ⟨RX2, "utilityOf", "(II)I"⟩
abbrev cX2_sumOfGains : ByteArray := prog_4_method_5_code
def yX2_sumOfGains : MethodName := ⟨RX2, "sumOfGains", "()I"⟩
abbrev cX2_halve : ByteArray := prog_4_method_6_code
def yX2_halve : MethodName := ⟨RX2, "halve", "()V"⟩
def RX3 : String := "PartitionedCache$Places"
def TX3 : u_T := fun k => match k with
  | 0 => ("PartitionedCache$Places", "owners", "[I", true)
  | 1 => ("PartitionedCache$Places", "held", "[I", true)
  | _ => ("PartitionedCache$Places", "stamps", "[I", true)
def tyX3 : Nat → FieldType := fun k => match k with
  | 0 => .array .int
  | 1 => .array .int
  | _ => .array .int
abbrev wsX30 : List Cond := u_ws RX3 TX3 3
theorem nmX3 : ∀ a, a < 3 → ∀ b, b < 3 → a ≠ b → (TX3 a).2.1 ≠ (TX3 b).2.1 := by decide +kernel
theorem tyX3_ok : ∀ k, k < 3 → parseFieldDescriptor (TX3 k).2.2.1 = some (tyX3 k) := by decide +kernel
abbrev cX3_init : ByteArray := prog_5_method_1_code
def yX3_init : MethodName := ⟨RX3, "<init>", "()V"⟩
abbrev cX3_copyFrom : ByteArray := prog_5_method_2_code
def yX3_copyFrom : MethodName := ⟨RX3, "copyFrom", "(LPartitionedCache$Places;)V"⟩
abbrev cX3_ownedWays : ByteArray := prog_5_method_3_code
def yX3_ownedWays : MethodName := ⟨RX3, "ownedWays", "(I)I"⟩
abbrev cX3_resultOf : ByteArray := prog_5_method_4_code
def yX3_resultOf : MethodName := ⟨RX3, "resultOf", "(II)I"⟩
abbrev cX3_placeOf : ByteArray := prog_5_method_5_code
def yX3_placeOf : MethodName := ⟨RX3, "placeOf", "(II)I"⟩
abbrev cX3_renew : ByteArray := prog_5_method_6_code
def yX3_renew : MethodName := ⟨RX3, "renew", "(III)V"⟩
abbrev cX3_placeToFill : ByteArray := prog_5_method_7_code
def yX3_placeToFill : MethodName := ⟨RX3, "placeToFill", "(II)I"⟩
abbrev cX3_holdsLineOf : ByteArray := prog_5_method_8_code
def yX3_holdsLineOf : MethodName := ⟨RX3, "holdsLineOf", "(II)Z"⟩
abbrev cX3_linesInWay : ByteArray := prog_5_method_9_code
def yX3_linesInWay : MethodName := ⟨RX3, "linesInWay", "(II)I"⟩
abbrev cX3_linesOf : ByteArray := prog_5_method_10_code
def yX3_linesOf : MethodName := ⟨RX3, "linesOf", "(I)I"⟩
abbrev cX3_linesInOwnWays : ByteArray := prog_5_method_11_code
def yX3_linesInOwnWays : MethodName := ⟨RX3, "linesInOwnWays", "(I)I"⟩
abbrev cX3_allLines : ByteArray := prog_5_method_12_code
def yX3_allLines : MethodName := ⟨RX3, "allLines", "()I"⟩
abbrev cX3_removeLinesOf : ByteArray := prog_5_method_13_code
def yX3_removeLinesOf : MethodName := ⟨RX3, "removeLinesOf", "(I)I"⟩
abbrev cX3_wayWithFewestLines : ByteArray := prog_5_method_14_code
def yX3_wayWithFewestLines : MethodName := ⟨RX3, "wayWithFewestLines", "(I)I"⟩
def RX4 : String := "PartitionedCache$State"
def TX4 : u_T := fun k => match k with
  | 0 => ("PartitionedCache$State", "places", "LPartitionedCache$Places;", true)
  | 1 => ("PartitionedCache$State", "monitors", "LPartitionedCache$Monitors;", true)
  | 2 => ("PartitionedCache$State", "leasts", "[I", true)
  | 3 => ("PartitionedCache$State", "counts", "[I", true)
  | 4 => ("PartitionedCache$State", "epoch", "I", false)
  | _ => ("PartitionedCache$State", "accesses", "I", false)
def tyX4 : Nat → FieldType := fun k => match k with
  | 0 => .object "PartitionedCache$Places"
  | 1 => .object "PartitionedCache$Monitors"
  | 2 => .array .int
  | 3 => .array .int
  | 4 => .int
  | _ => .int
abbrev wsX40 : List Cond := u_ws RX4 TX4 6
theorem nmX4 : ∀ a, a < 6 → ∀ b, b < 6 → a ≠ b → (TX4 a).2.1 ≠ (TX4 b).2.1 := by decide +kernel
theorem tyX4_ok : ∀ k, k < 6 → parseFieldDescriptor (TX4 k).2.2.1 = some (tyX4 k) := by decide +kernel
abbrev cX4_init : ByteArray := prog_6_method_1_code
def yX4_init : MethodName := ⟨RX4, "<init>", "()V"⟩
abbrev cX4_copyFrom : ByteArray := prog_6_method_2_code
def yX4_copyFrom : MethodName := ⟨RX4, "copyFrom", "(LPartitionedCache$State;)V"⟩
def RX5 : String := "PartitionedCache$Targets"
def TX5 : u_T := fun k => match k with
  | _ => ("PartitionedCache$Targets", "ways", "[I", true)
def tyX5 : Nat → FieldType := fun k => match k with
  | _ => .array .int
abbrev wsX50 : List Cond := u_ws RX5 TX5 1
theorem nmX5 : ∀ a, a < 1 → ∀ b, b < 1 → a ≠ b → (TX5 a).2.1 ≠ (TX5 b).2.1 := by decide +kernel
theorem tyX5_ok : ∀ k, k < 1 → parseFieldDescriptor (TX5 k).2.2.1 = some (tyX5 k) := by decide +kernel
abbrev cX5_init : ByteArray := prog_7_method_1_code
def yX5_init : MethodName := ⟨RX5, "<init>", "()V"⟩
abbrev cX5_compute : ByteArray := prog_7_method_2_code
def yX5_compute : MethodName := ⟨RX5, "compute", "(LPartitionedCache$State;)V"⟩
abbrev cX5_growOne : ByteArray := prog_7_method_3_code
def yX5_growOne : MethodName := ⟨RX5, "growOne", "(LPartitionedCache$Monitors;I)I"⟩
abbrev cX5_lowest : ByteArray := prog_7_method_4_code
def yX5_lowest : MethodName := ⟨RX5, "lowest", "()I"⟩
def RX6 : String := "PartitionedCache"
def TX6 : u_T := fun k => match k with
  | 0 => ("PartitionedCache", "now", "LPartitionedCache$State;", true)
  | 1 => ("PartitionedCache", "targets", "LPartitionedCache$Targets;", true)
  | 2 => ("PartitionedCache", "history", "LPartitionedCache$History;", true)
  | 3 => ("PartitionedCache", "text", "LPartitionedCache$CommandText;", true)
  | 4 => ("PartitionedCache", "slots", "[LPartitionedCache$State;", true)
  | _ => ("PartitionedCache", "slotFilled", "[Z", true)
def tyX6 : Nat → FieldType := fun k => match k with
  | 0 => .object "PartitionedCache$State"
  | 1 => .object "PartitionedCache$Targets"
  | 2 => .object "PartitionedCache$History"
  | 3 => .object "PartitionedCache$CommandText"
  | 4 => .array (.object "PartitionedCache$State")
  | _ => .array .boolean
abbrev wsX60 : List Cond := u_ws RX6 TX6 6
theorem nmX6 : ∀ a, a < 6 → ∀ b, b < 6 → a ≠ b → (TX6 a).2.1 ≠ (TX6 b).2.1 := by decide +kernel
theorem tyX6_ok : ∀ k, k < 6 → parseFieldDescriptor (TX6 k).2.2.1 = some (tyX6 k) := by decide +kernel
abbrev cX6_init : ByteArray := prog_1_method_1_code
def yX6_init : MethodName := ⟨RX6, "<init>", "()V"⟩
abbrev cX6_access : ByteArray := prog_1_method_2_code
def yX6_access : MethodName := ⟨RX6, "access", "(II)I"⟩
abbrev cX6_stream : ByteArray := prog_1_method_3_code
def yX6_stream : MethodName := ⟨RX6, "stream", "(IIII)I"⟩
abbrev cX6_flush : ByteArray := prog_1_method_4_code
def yX6_flush : MethodName := ⟨RX6, "flush", "(I)I"⟩
abbrev cX6_moveWay : ByteArray := prog_1_method_5_code
def yX6_moveWay : MethodName := ⟨RX6, "moveWay", "()I"⟩
abbrev cX6_giveWay : ByteArray := prog_1_method_6_code
def yX6_giveWay : MethodName := ⟨RX6, "giveWay", "(II)I"⟩
abbrev cX6_setLeast : ByteArray := prog_1_method_7_code
def yX6_setLeast : MethodName := ⟨RX6, "setLeast", "(II)I"⟩
abbrev cX6_setEpoch : ByteArray := prog_1_method_8_code
def yX6_setEpoch : MethodName := ⟨RX6, "setEpoch", "(I)I"⟩
abbrev cX6_halveGains : ByteArray := prog_1_method_9_code
def yX6_halveGains : MethodName := ⟨RX6, "halveGains", "()I"⟩
abbrev cX6_appendText : ByteArray := prog_1_method_10_code
def yX6_appendText : MethodName := ⟨RX6, "appendText", "(I)I"⟩
abbrev cX6_clearText : ByteArray := prog_1_method_11_code
def yX6_clearText : MethodName := ⟨RX6, "clearText", "()I"⟩
abbrev cX6_errorPosition : ByteArray := prog_1_method_12_code
def yX6_errorPosition : MethodName := ⟨RX6, "errorPosition", "()I"⟩
abbrev cX6_runText : ByteArray := prog_1_method_13_code
def yX6_runText : MethodName := ⟨RX6, "runText", "()I"⟩
abbrev cX6_undo : ByteArray := prog_1_method_14_code
def yX6_undo : MethodName := ⟨RX6, "undo", "()I"⟩
abbrev cX6_save : ByteArray := prog_1_method_15_code
def yX6_save : MethodName := ⟨RX6, "save", "(I)I"⟩
abbrev cX6_restore : ByteArray := prog_1_method_16_code
def yX6_restore : MethodName := ⟨RX6, "restore", "(I)I"⟩
abbrev cX6_owner : ByteArray := prog_1_method_17_code
def yX6_owner : MethodName := ⟨RX6, "owner", "(I)I"⟩
abbrev cX6_waysOf : ByteArray := prog_1_method_18_code
def yX6_waysOf : MethodName := ⟨RX6, "waysOf", "(I)I"⟩
abbrev cX6_line : ByteArray := prog_1_method_19_code
def yX6_line : MethodName := ⟨RX6, "line", "(II)I"⟩
abbrev cX6_lines : ByteArray := prog_1_method_20_code
def yX6_lines : MethodName := ⟨RX6, "lines", "(IZ)I"⟩
abbrev cX6_ifAccessed : ByteArray := prog_1_method_21_code
def yX6_ifAccessed : MethodName := ⟨RX6, "ifAccessed", "(II)I"⟩
abbrev cX6_victim : ByteArray := prog_1_method_22_code
def yX6_victim : MethodName := ⟨RX6, "victim", "(II)I"⟩
abbrev cX6_gain : ByteArray := prog_1_method_23_code
def yX6_gain : MethodName := ⟨RX6, "gain", "(II)I"⟩
abbrev cX6_utility : ByteArray := prog_1_method_24_code
def yX6_utility : MethodName := ⟨RX6, "utility", "(II)I"⟩
abbrev cX6_monitored : ByteArray := prog_1_method_25_code
def yX6_monitored : MethodName := ⟨RX6, "monitored", "(III)I"⟩
abbrev cX6_target : ByteArray := prog_1_method_26_code
def yX6_target : MethodName := ⟨RX6, "target", "(I)I"⟩
abbrev cX6_movesLeft : ByteArray := prog_1_method_27_code
def yX6_movesLeft : MethodName := ⟨RX6, "movesLeft", "()I"⟩
abbrev cX6_totalUtility : ByteArray := prog_1_method_28_code
def yX6_totalUtility : MethodName := ⟨RX6, "totalUtility", "()I"⟩
abbrev cX6_count : ByteArray := prog_1_method_29_code
def yX6_count : MethodName := ⟨RX6, "count", "(II)I"⟩
abbrev cX6_accesses : ByteArray := prog_1_method_30_code
def yX6_accesses : MethodName := ⟨RX6, "accesses", "()I"⟩
abbrev cX6_hitRate : ByteArray := prog_1_method_31_code
def yX6_hitRate : MethodName := ⟨RX6, "hitRate", "(I)D"⟩
abbrev cX6_savedStates : ByteArray := prog_1_method_32_code
def yX6_savedStates : MethodName := ⟨RX6, "savedStates", "()I"⟩
abbrev cX6_textLength : ByteArray := prog_1_method_33_code
def yX6_textLength : MethodName := ⟨RX6, "textLength", "()I"⟩
abbrev cX6_requireTenant : ByteArray := prog_1_method_34_code
def yX6_requireTenant : MethodName := ⟨RX6, "requireTenant", "(I)V"⟩
abbrev cX6_requireIndex : ByteArray := prog_1_method_35_code
def yX6_requireIndex : MethodName := ⟨RX6, "requireIndex", "(II)V"⟩
abbrev cX6_requireArgument : ByteArray := prog_1_method_36_code
def yX6_requireArgument : MethodName := ⟨RX6, "requireArgument", "(III)V"⟩
abbrev cX6_isSampled : ByteArray := prog_1_method_37_code
def yX6_isSampled : MethodName := ⟨RX6, "isSampled", "(I)Z"⟩
abbrev cX6_listStart : ByteArray := prog_1_method_38_code
def yX6_listStart : MethodName := ⟨RX6, "listStart", "(II)I"⟩
abbrev cX6_makeAccess : ByteArray := prog_1_method_39_code
def yX6_makeAccess : MethodName := ⟨RX6, "makeAccess", "(II)I"⟩
abbrev cX6_bringIn : ByteArray := prog_1_method_40_code
def yX6_bringIn : MethodName := ⟨RX6, "bringIn", "(II)V"⟩
abbrev cX6_moveOneWay : ByteArray := prog_1_method_41_code
def yX6_moveOneWay : MethodName := ⟨RX6, "moveOneWay", "()I"⟩
abbrev cX6_deficitOf : ByteArray := prog_1_method_42_code
def yX6_deficitOf : MethodName := ⟨RX6, "deficitOf", "(I)I"⟩
abbrev cX6_runCommand : ByteArray := prog_1_method_43_code
def yX6_runCommand : MethodName := ⟨RX6, "runCommand", "(I)I"⟩
def RX7 : String := "PartitionedCacheModel"
def TX7 : u_T := fun k => match k with
  | 0 => ("PartitionedCacheModel", "row", "[I", true)
  | 1 => ("PartitionedCacheModel", "past", "[I", true)
  | 2 => ("PartitionedCacheModel", "slots", "[I", true)
  | 3 => ("PartitionedCacheModel", "has", "[Z", true)
  | 4 => ("PartitionedCacheModel", "states", "I", false)
  | 5 => ("PartitionedCacheModel", "targets", "[I", true)
  | 6 => ("PartitionedCacheModel", "buffer", "[I", true)
  | 7 => ("PartitionedCacheModel", "length", "I", false)
  | 8 => ("PartitionedCacheModel", "at", "I", false)
  | 9 => ("PartitionedCacheModel", "number", "I", false)
  | _ => ("PartitionedCacheModel", "thrown", "I", false)
def tyX7 : Nat → FieldType := fun k => match k with
  | 0 => .array .int
  | 1 => .array .int
  | 2 => .array .int
  | 3 => .array .boolean
  | 4 => .int
  | 5 => .array .int
  | 6 => .array .int
  | 7 => .int
  | 8 => .int
  | 9 => .int
  | _ => .int
abbrev wsX70 : List Cond := u_ws RX7 TX7 11
theorem nmX7 : ∀ a, a < 11 → ∀ b, b < 11 → a ≠ b → (TX7 a).2.1 ≠ (TX7 b).2.1 := by decide +kernel
theorem tyX7_ok : ∀ k, k < 11 → parseFieldDescriptor (TX7 k).2.2.1 = some (tyX7 k) := by decide +kernel
abbrev cX7_init : ByteArray := prog_9_method_1_code
def yX7_init : MethodName := ⟨RX7, "<init>", "()V"⟩
abbrev cX7_thrown : ByteArray := prog_9_method_2_code
def yX7_thrown : MethodName := ⟨RX7, "thrown", "()I"⟩
abbrev cX7_fails : ByteArray := prog_9_method_3_code
def yX7_fails : MethodName := ⟨RX7, "fails", "(I)I"⟩
abbrev cX7_in : ByteArray := prog_9_method_4_code
def yX7_in : MethodName := ⟨RX7, "in", "(III)Z"⟩
abbrev cX7_record : ByteArray := prog_9_method_5_code
def yX7_record : MethodName := ⟨RX7, "record", "()V"⟩
abbrev cX7_owned : ByteArray := prog_9_method_6_code
def yX7_owned : MethodName := ⟨RX7, "owned", "(I)I"⟩
abbrev cX7_linesOf : ByteArray := prog_9_method_7_code
def yX7_linesOf : MethodName := ⟨RX7, "linesOf", "(IZ)I"⟩
abbrev cX7_allLines : ByteArray := prog_9_method_8_code
def yX7_allLines : MethodName := ⟨RX7, "allLines", "()I"⟩
abbrev cX7_find : ByteArray := prog_9_method_9_code
def yX7_find : MethodName := ⟨RX7, "find", "(II)I"⟩
abbrev cX7_placeFor : ByteArray := prog_9_method_10_code
def yX7_placeFor : MethodName := ⟨RX7, "placeFor", "(II)I"⟩
abbrev cX7_wouldBe : ByteArray := prog_9_method_11_code
def yX7_wouldBe : MethodName := ⟨RX7, "wouldBe", "(II)I"⟩
abbrev cX7_watch : ByteArray := prog_9_method_12_code
def yX7_watch : MethodName := ⟨RX7, "watch", "(II)V"⟩
abbrev cX7_halve : ByteArray := prog_9_method_13_code
def yX7_halve : MethodName := ⟨RX7, "halve", "()I"⟩
abbrev cX7_gained : ByteArray := prog_9_method_14_code
def yX7_gained : MethodName := ⟨RX7, "gained", "(II)I"⟩
abbrev cX7_lowestTarget : ByteArray := prog_9_method_15_code
def yX7_lowestTarget : MethodName := ⟨RX7, "lowestTarget", "()I"⟩
abbrev cX7_giveSome : ByteArray := prog_9_method_16_code
def yX7_giveSome : MethodName := ⟨RX7, "giveSome", "(I)I"⟩
abbrev cX7_findTargets : ByteArray := prog_9_method_17_code
def yX7_findTargets : MethodName := ⟨RX7, "findTargets", "()V"⟩
abbrev cX7_deficit : ByteArray := prog_9_method_18_code
def yX7_deficit : MethodName := ⟨RX7, "deficit", "(I)I"⟩
abbrev cX7_linesIn : ByteArray := prog_9_method_19_code
def yX7_linesIn : MethodName := ⟨RX7, "linesIn", "(II)I"⟩
abbrev cX7_move : ByteArray := prog_9_method_20_code
def yX7_move : MethodName := ⟨RX7, "move", "()I"⟩
abbrev cX7_put : ByteArray := prog_9_method_21_code
def yX7_put : MethodName := ⟨RX7, "put", "(II)V"⟩
abbrev cX7_visits : ByteArray := prog_9_method_22_code
def yX7_visits : MethodName := ⟨RX7, "visits", "(II)I"⟩
abbrev cX7_flushes : ByteArray := prog_9_method_23_code
def yX7_flushes : MethodName := ⟨RX7, "flushes", "(I)I"⟩
abbrev cX7_access : ByteArray := prog_9_method_24_code
def yX7_access : MethodName := ⟨RX7, "access", "(II)I"⟩
abbrev cX7_stream : ByteArray := prog_9_method_25_code
def yX7_stream : MethodName := ⟨RX7, "stream", "(IIII)I"⟩
abbrev cX7_flush : ByteArray := prog_9_method_26_code
def yX7_flush : MethodName := ⟨RX7, "flush", "(I)I"⟩
abbrev cX7_moveWay : ByteArray := prog_9_method_27_code
def yX7_moveWay : MethodName := ⟨RX7, "moveWay", "()I"⟩
abbrev cX7_giveWay : ByteArray := prog_9_method_28_code
def yX7_giveWay : MethodName := ⟨RX7, "giveWay", "(II)I"⟩
abbrev cX7_setLeast : ByteArray := prog_9_method_29_code
def yX7_setLeast : MethodName := ⟨RX7, "setLeast", "(II)I"⟩
abbrev cX7_setEpoch : ByteArray := prog_9_method_30_code
def yX7_setEpoch : MethodName := ⟨RX7, "setEpoch", "(I)I"⟩
abbrev cX7_halveGains : ByteArray := prog_9_method_31_code
def yX7_halveGains : MethodName := ⟨RX7, "halveGains", "()I"⟩
abbrev cX7_appendText : ByteArray := prog_9_method_32_code
def yX7_appendText : MethodName := ⟨RX7, "appendText", "(I)I"⟩
abbrev cX7_clearText : ByteArray := prog_9_method_33_code
def yX7_clearText : MethodName := ⟨RX7, "clearText", "()I"⟩
abbrev cX7_sees : ByteArray := prog_9_method_34_code
def yX7_sees : MethodName := ⟨RX7, "sees", "(II)Z"⟩
abbrev cX7_takes : ByteArray := prog_9_method_35_code
def yX7_takes : MethodName := ⟨RX7, "takes", "(I)Z"⟩
abbrev cX7_reads : ByteArray := prog_9_method_36_code
def yX7_reads : MethodName := ⟨RX7, "reads", "()Z"⟩
abbrev cX7_command : ByteArray := prog_9_method_37_code
def yX7_command : MethodName := ⟨RX7, "command", "()I"⟩
abbrev cX7_isValid : ByteArray := prog_9_method_38_code
def yX7_isValid : MethodName := ⟨RX7, "isValid", "()Z"⟩
abbrev cX7_errorPosition : ByteArray := prog_9_method_39_code
def yX7_errorPosition : MethodName := ⟨RX7, "errorPosition", "()I"⟩
abbrev cX7_does : ByteArray := prog_9_method_40_code
def yX7_does : MethodName := ⟨RX7, "does", "(I)I"⟩
abbrev cX7_runText : ByteArray := prog_9_method_41_code
def yX7_runText : MethodName := ⟨RX7, "runText", "()I"⟩
abbrev cX7_undo : ByteArray := prog_9_method_42_code
def yX7_undo : MethodName := ⟨RX7, "undo", "()I"⟩
abbrev cX7_save : ByteArray := prog_9_method_43_code
def yX7_save : MethodName := ⟨RX7, "save", "(I)I"⟩
abbrev cX7_restore : ByteArray := prog_9_method_44_code
def yX7_restore : MethodName := ⟨RX7, "restore", "(I)I"⟩
abbrev cX7_owner : ByteArray := prog_9_method_45_code
def yX7_owner : MethodName := ⟨RX7, "owner", "(I)I"⟩
abbrev cX7_waysOf : ByteArray := prog_9_method_46_code
def yX7_waysOf : MethodName := ⟨RX7, "waysOf", "(I)I"⟩
abbrev cX7_line : ByteArray := prog_9_method_47_code
def yX7_line : MethodName := ⟨RX7, "line", "(II)I"⟩
abbrev cX7_lines : ByteArray := prog_9_method_48_code
def yX7_lines : MethodName := ⟨RX7, "lines", "(IZ)I"⟩
abbrev cX7_ifAccessed : ByteArray := prog_9_method_49_code
def yX7_ifAccessed : MethodName := ⟨RX7, "ifAccessed", "(II)I"⟩
abbrev cX7_victim : ByteArray := prog_9_method_50_code
def yX7_victim : MethodName := ⟨RX7, "victim", "(II)I"⟩
abbrev cX7_gain : ByteArray := prog_9_method_51_code
def yX7_gain : MethodName := ⟨RX7, "gain", "(II)I"⟩
abbrev cX7_utility : ByteArray := prog_9_method_52_code
def yX7_utility : MethodName := ⟨RX7, "utility", "(II)I"⟩
abbrev cX7_monitored : ByteArray := prog_9_method_53_code
def yX7_monitored : MethodName := ⟨RX7, "monitored", "(III)I"⟩
abbrev cX7_target : ByteArray := prog_9_method_54_code
def yX7_target : MethodName := ⟨RX7, "target", "(I)I"⟩
abbrev cX7_movesLeft : ByteArray := prog_9_method_55_code
def yX7_movesLeft : MethodName := ⟨RX7, "movesLeft", "()I"⟩
abbrev cX7_totalUtility : ByteArray := prog_9_method_56_code
def yX7_totalUtility : MethodName := ⟨RX7, "totalUtility", "()I"⟩
abbrev cX7_count : ByteArray := prog_9_method_57_code
def yX7_count : MethodName := ⟨RX7, "count", "(II)I"⟩
abbrev cX7_accesses : ByteArray := prog_9_method_58_code
def yX7_accesses : MethodName := ⟨RX7, "accesses", "()I"⟩
abbrev cX7_hitRate : ByteArray := prog_9_method_59_code
def yX7_hitRate : MethodName := ⟨RX7, "hitRate", "(I)D"⟩
abbrev cX7_savedStates : ByteArray := prog_9_method_60_code
def yX7_savedStates : MethodName := ⟨RX7, "savedStates", "()I"⟩
abbrev cX7_textLength : ByteArray := prog_9_method_61_code
def yX7_textLength : MethodName := ⟨RX7, "textLength", "()I"⟩
def RJ9 : String := "java/lang/Math"
def TJ9 : u_T := fun k => match k with
  | _ => ("", "", "", false)
def tyJ9 : Nat → FieldType := fun k => match k with
  | _ => .int
abbrev wsJ90 : List Cond := u_ws RJ9 TJ9 0
theorem nmJ9 : ∀ a, a < 0 → ∀ b, b < 0 → a ≠ b → (TJ9 a).2.1 ≠ (TJ9 b).2.1 := by decide +kernel
theorem tyJ9_ok : ∀ k, k < 0 → parseFieldDescriptor (TJ9 k).2.2.1 = some (tyJ9 k) := by decide +kernel
abbrev cJ9_max_7cf53 : ByteArray := prog_14_method_65_code
def yJ9_max_7cf53 : MethodName := ⟨RJ9, "max", "(II)I"⟩
def RJ0 : String := "java/lang/String"
def TJ0 : u_T := fun k => match k with
  | _ => ("", "", "", false)
def tyJ0 : Nat → FieldType := fun k => match k with
  | _ => .int
abbrev wsJ00 : List Cond := u_ws RJ0 TJ0 0
theorem nmJ0 : ∀ a, a < 0 → ∀ b, b < 0 → a ≠ b → (TJ0 a).2.1 ≠ (TJ0 b).2.1 := by decide +kernel
theorem tyJ0_ok : ∀ k, k < 0 → parseFieldDescriptor (TJ0 k).2.2.1 = some (tyJ0 k) := by decide +kernel
def RJ10 : String := "java/lang/System"
def TJ10 : u_T := fun k => match k with
  | _ => ("", "", "", false)
def tyJ10 : Nat → FieldType := fun k => match k with
  | _ => .int
abbrev wsJ100 : List Cond := u_ws RJ10 TJ10 0
theorem nmJ10 : ∀ a, a < 0 → ∀ b, b < 0 → a ≠ b → (TJ10 a).2.1 ≠ (TJ10 b).2.1 := by decide +kernel
theorem tyJ10_ok : ∀ k, k < 0 → parseFieldDescriptor (TJ10 k).2.2.1 = some (tyJ10 k) := by decide +kernel
def RL : String := "PartitionedCacheLaw"
abbrev cL_access : ByteArray := method_3_code
def yL_access : MethodName := ⟨RL, "access", "(LPartitionedCache;II[J)I"⟩
abbrev cL_stream : ByteArray := method_4_code
def yL_stream : MethodName := ⟨RL, "stream", "(LPartitionedCache;IIII[J)I"⟩
abbrev cL_flush : ByteArray := method_5_code
def yL_flush : MethodName := ⟨RL, "flush", "(LPartitionedCache;I[J)I"⟩
abbrev cL_giveWay : ByteArray := method_6_code
def yL_giveWay : MethodName := ⟨RL, "giveWay", "(LPartitionedCache;II[J)I"⟩
abbrev cL_setLeast : ByteArray := method_7_code
def yL_setLeast : MethodName := ⟨RL, "setLeast", "(LPartitionedCache;II[J)I"⟩
abbrev cL_setEpoch : ByteArray := method_8_code
def yL_setEpoch : MethodName := ⟨RL, "setEpoch", "(LPartitionedCache;I[J)I"⟩
abbrev cL_appendText : ByteArray := method_9_code
def yL_appendText : MethodName := ⟨RL, "appendText", "(LPartitionedCache;I[J)I"⟩
abbrev cL_runText : ByteArray := method_10_code
def yL_runText : MethodName := ⟨RL, "runText", "(LPartitionedCache;[J)I"⟩
abbrev cL_undo : ByteArray := method_11_code
def yL_undo : MethodName := ⟨RL, "undo", "(LPartitionedCache;[J)I"⟩
abbrev cL_save : ByteArray := method_12_code
def yL_save : MethodName := ⟨RL, "save", "(LPartitionedCache;I[J)I"⟩
abbrev cL_restore : ByteArray := method_13_code
def yL_restore : MethodName := ⟨RL, "restore", "(LPartitionedCache;I[J)I"⟩
abbrev cL_owner : ByteArray := method_14_code
def yL_owner : MethodName := ⟨RL, "owner", "(LPartitionedCache;I[J)I"⟩
abbrev cL_waysOf : ByteArray := method_15_code
def yL_waysOf : MethodName := ⟨RL, "waysOf", "(LPartitionedCache;I[J)I"⟩
abbrev cL_line : ByteArray := method_16_code
def yL_line : MethodName := ⟨RL, "line", "(LPartitionedCache;II[J)I"⟩
abbrev cL_lines : ByteArray := method_17_code
def yL_lines : MethodName := ⟨RL, "lines", "(LPartitionedCache;IZ[J)I"⟩
abbrev cL_ifAccessed : ByteArray := method_18_code
def yL_ifAccessed : MethodName := ⟨RL, "ifAccessed", "(LPartitionedCache;II[J)I"⟩
abbrev cL_victim : ByteArray := method_19_code
def yL_victim : MethodName := ⟨RL, "victim", "(LPartitionedCache;II[J)I"⟩
abbrev cL_gain : ByteArray := method_20_code
def yL_gain : MethodName := ⟨RL, "gain", "(LPartitionedCache;II[J)I"⟩
abbrev cL_utility : ByteArray := method_21_code
def yL_utility : MethodName := ⟨RL, "utility", "(LPartitionedCache;II[J)I"⟩
abbrev cL_monitored : ByteArray := method_22_code
def yL_monitored : MethodName := ⟨RL, "monitored", "(LPartitionedCache;III[J)I"⟩
abbrev cL_target : ByteArray := method_23_code
def yL_target : MethodName := ⟨RL, "target", "(LPartitionedCache;I[J)I"⟩
abbrev cL_count : ByteArray := method_24_code
def yL_count : MethodName := ⟨RL, "count", "(LPartitionedCache;II[J)I"⟩
abbrev cL_hitRate : ByteArray := method_25_code
def yL_hitRate : MethodName := ⟨RL, "hitRate", "(LPartitionedCache;I[D)I"⟩
abbrev cL_law : ByteArray := code
def yL_law : MethodName := ⟨RL, "law", "([I)Z"⟩
def wsX0_init : List Cond := .code yX0_init cX0_init 1 none :: ([.methodLink RX0 3 objectInit, .instanceMethod objectInit, .code objectInit ⟨#[0xb1]⟩ 1 none, .arrayClass .char, .fieldLink RX0 9 "PartitionedCache$CommandText" "signs" "[C", .fieldLink RX0 15 "PartitionedCache$CommandText" "length" "I"] ++ wsX00)
def wsX0_append : List Cond := .code yX0_append cX0_append 2 none :: ([.fieldLink RX0 15 "PartitionedCache$CommandText" "length" "I", .fieldLink RX0 9 "PartitionedCache$CommandText" "signs" "[C"] ++ wsX00)
def wsX0_signAt : List Cond := .code yX0_signAt cX0_signAt 2 (some .int) :: ([.fieldLink RX0 15 "PartitionedCache$CommandText" "length" "I", .fieldLink RX0 9 "PartitionedCache$CommandText" "signs" "[C"] ++ wsX00)
def wsX0_commandBeginsAt : List Cond := .code yX0_commandBeginsAt cX0_commandBeginsAt 2 (some .boolean) :: ([.methodLink RX0 19 yX0_signAt, .instanceMethod yX0_signAt, .selects RX0 yX0_signAt yX0_signAt, .initialized RX0, .code yX0_signAt cX0_signAt 2 (some .int), .fieldLink RX0 15 "PartitionedCache$CommandText" "length" "I", .fieldLink RX0 9 "PartitionedCache$CommandText" "signs" "[C"] ++ wsX00)
def wsX0_isDigit : List Cond := .code yX0_isDigit cX0_isDigit 1 (some .boolean) :: ([])
def wsX0_numberAt : List Cond := .code yX0_numberAt cX0_numberAt 4 (some .int) :: ([.fieldLink RX0 15 "PartitionedCache$CommandText" "length" "I", .methodLink RX0 19 yX0_signAt, .instanceMethod yX0_signAt, .selects RX0 yX0_signAt yX0_signAt, .initialized RX0, .code yX0_signAt cX0_signAt 2 (some .int), .fieldLink RX0 9 "PartitionedCache$CommandText" "signs" "[C", .methodLink RX0 23 yX0_isDigit, .static yX0_isDigit, .code yX0_isDigit cX0_isDigit 1 (some .boolean)] ++ wsX00)
def wsX0_isTenantDigit : List Cond := .code yX0_isTenantDigit cX0_isTenantDigit 1 (some .boolean) :: ([])
def wsX0_stageAfterFirst : List Cond := .code yX0_stageAfterFirst cX0_stageAfterFirst 1 (some .int) :: ([.methodLink RX0 38 yX0_isTenantDigit, .static yX0_isTenantDigit, .initialized RX0, .code yX0_isTenantDigit cX0_isTenantDigit 1 (some .boolean)])
def wsX0_mayGoOn : List Cond := .code yX0_mayGoOn cX0_mayGoOn 2 (some .boolean) :: ([])
def wsX0_stageAfter : List Cond := .code yX0_stageAfter cX0_stageAfter 3 (some .int) :: ([.methodLink RX0 31 yX0_stageAfterFirst, .static yX0_stageAfterFirst, .initialized RX0, .code yX0_stageAfterFirst cX0_stageAfterFirst 1 (some .int), .methodLink RX0 38 yX0_isTenantDigit, .static yX0_isTenantDigit, .code yX0_isTenantDigit cX0_isTenantDigit 1 (some .boolean), .methodLink RX0 23 yX0_isDigit, .static yX0_isDigit, .code yX0_isDigit cX0_isDigit 1 (some .boolean), .methodLink RX0 34 yX0_mayGoOn, .static yX0_mayGoOn, .code yX0_mayGoOn cX0_mayGoOn 2 (some .boolean)])
def wsX0_firstError : List Cond := .code yX0_firstError cX0_firstError 6 (some .int) :: ([.fieldLink RX0 15 "PartitionedCache$CommandText" "length" "I", .methodLink RX0 19 yX0_signAt, .instanceMethod yX0_signAt, .selects RX0 yX0_signAt yX0_signAt, .initialized RX0, .code yX0_signAt cX0_signAt 2 (some .int), .fieldLink RX0 9 "PartitionedCache$CommandText" "signs" "[C", .methodLink RX0 27 yX0_stageAfter, .static yX0_stageAfter, .code yX0_stageAfter cX0_stageAfter 3 (some .int), .methodLink RX0 31 yX0_stageAfterFirst, .static yX0_stageAfterFirst, .code yX0_stageAfterFirst cX0_stageAfterFirst 1 (some .int), .methodLink RX0 38 yX0_isTenantDigit, .static yX0_isTenantDigit, .code yX0_isTenantDigit cX0_isTenantDigit 1 (some .boolean), .methodLink RX0 23 yX0_isDigit, .static yX0_isDigit, .code yX0_isDigit cX0_isDigit 1 (some .boolean), .methodLink RX0 34 yX0_mayGoOn, .static yX0_mayGoOn, .code yX0_mayGoOn cX0_mayGoOn 2 (some .boolean)] ++ wsX00)
def wsX3_init : List Cond := .code yX3_init cX3_init 2 none :: ([.methodLink RX3 3 objectInit, .instanceMethod objectInit, .code objectInit ⟨#[0xb1]⟩ 1 none, .arrayClass .int, .fieldLink RX3 9 "PartitionedCache$Places" "owners" "[I", .fieldLink RX3 15 "PartitionedCache$Places" "held" "[I", .fieldLink RX3 18 "PartitionedCache$Places" "stamps" "[I"] ++ wsX30)
def wsX2_init : List Cond := .code yX2_init cX2_init 2 none :: ([.methodLink RX2 3 objectInit, .instanceMethod objectInit, .code objectInit ⟨#[0xb1]⟩ 1 none, .arrayClass .int, .fieldLink RX2 9 "PartitionedCache$Monitors" "addresses" "[I", .fieldLink RX2 15 "PartitionedCache$Monitors" "gains" "[I"] ++ wsX20)
def wsX4_init_r1 : List Cond := [Cond.methodLink RX4 3 objectInit, Cond.instanceMethod objectInit, Cond.code objectInit ⟨#[0xb1]⟩ 1 none, Cond.classLink RX4 9 RX3, Cond.instantiable RX3 3, Cond.initialized RX3, Cond.fieldLink RX4 12 "PartitionedCache$State" "places" "LPartitionedCache$Places;", Cond.classLink RX4 18 RX2, Cond.instantiable RX2 2, Cond.initialized RX2, Cond.fieldLink RX4 21 "PartitionedCache$State" "monitors" "LPartitionedCache$Monitors;", Cond.arrayClass .int, Cond.fieldLink RX4 25 "PartitionedCache$State" "leasts" "[I", Cond.fieldLink RX4 29 "PartitionedCache$State" "counts" "[I", Cond.fieldLink RX4 32 "PartitionedCache$State" "epoch" "I", Cond.fieldLink RX4 36 "PartitionedCache$State" "accesses" "I", Cond.methodLink RX4 11 yX3_init, Cond.instanceMethod yX3_init, Cond.code yX3_init cX3_init 2 none, Cond.methodLink RX3 3 objectInit, Cond.fieldLink RX3 9 "PartitionedCache$Places" "owners" "[I", Cond.fieldLink RX3 15 "PartitionedCache$Places" "held" "[I", Cond.fieldLink RX3 18 "PartitionedCache$Places" "stamps" "[I", Cond.methodLink RX4 20 yX2_init]
def wsX4_init_r2 : List Cond := [Cond.instanceMethod yX2_init, Cond.code yX2_init cX2_init 2 none, Cond.methodLink RX2 3 objectInit, Cond.fieldLink RX2 9 "PartitionedCache$Monitors" "addresses" "[I", Cond.fieldLink RX2 15 "PartitionedCache$Monitors" "gains" "[I"]
def wsX4_init : List Cond := .code yX4_init cX4_init 2 none :: ((wsX4_init_r1 ++ wsX4_init_r2) ++ wsX30 ++ wsX40 ++ wsX20)
def wsX1_init_r1 : List Cond := [Cond.methodLink RX1 3 objectInit, Cond.instanceMethod objectInit, Cond.code objectInit ⟨#[0xb1]⟩ 1 none, Cond.classLink RX1 9 RX4, Cond.fieldLink RX1 11 "PartitionedCache$History" "ring" "[LPartitionedCache$State;", Cond.fieldLink RX1 17 "PartitionedCache$History" "oldest" "I", Cond.fieldLink RX1 21 "PartitionedCache$History" "size" "I", Cond.instantiable RX4 6, Cond.initialized RX4, Cond.methodLink RX1 24 yX4_init, Cond.instanceMethod yX4_init, Cond.code yX4_init cX4_init 2 none, Cond.methodLink RX4 3 objectInit, Cond.classLink RX4 9 RX3, Cond.instantiable RX3 3, Cond.initialized RX3, Cond.fieldLink RX4 12 "PartitionedCache$State" "places" "LPartitionedCache$Places;", Cond.classLink RX4 18 RX2, Cond.instantiable RX2 2, Cond.initialized RX2, Cond.fieldLink RX4 21 "PartitionedCache$State" "monitors" "LPartitionedCache$Monitors;", Cond.arrayClass .int, Cond.fieldLink RX4 25 "PartitionedCache$State" "leasts" "[I", Cond.fieldLink RX4 29 "PartitionedCache$State" "counts" "[I"]
def wsX1_init_r2 : List Cond := [Cond.fieldLink RX4 32 "PartitionedCache$State" "epoch" "I", Cond.fieldLink RX4 36 "PartitionedCache$State" "accesses" "I", Cond.methodLink RX4 11 yX3_init, Cond.instanceMethod yX3_init, Cond.code yX3_init cX3_init 2 none, Cond.methodLink RX3 3 objectInit, Cond.fieldLink RX3 9 "PartitionedCache$Places" "owners" "[I", Cond.fieldLink RX3 15 "PartitionedCache$Places" "held" "[I", Cond.fieldLink RX3 18 "PartitionedCache$Places" "stamps" "[I", Cond.methodLink RX4 20 yX2_init, Cond.instanceMethod yX2_init, Cond.code yX2_init cX2_init 2 none, Cond.methodLink RX2 3 objectInit, Cond.fieldLink RX2 9 "PartitionedCache$Monitors" "addresses" "[I", Cond.fieldLink RX2 15 "PartitionedCache$Monitors" "gains" "[I"]
def wsX1_init : List Cond := .code yX1_init cX1_init 2 none :: ((wsX1_init_r1 ++ wsX1_init_r2) ++ wsX10 ++ wsX40 ++ wsX30 ++ wsX20)
def wsX3_copyFrom : List Cond := .code yX3_copyFrom cX3_copyFrom 2 none :: ([.fieldLink RX3 9 "PartitionedCache$Places" "owners" "[I", .methodLink RX3 21 arraycopyName, .native arraycopyName, .static arraycopyName, .initialized "java/lang/System", .fieldLink RX3 15 "PartitionedCache$Places" "held" "[I", .fieldLink RX3 18 "PartitionedCache$Places" "stamps" "[I"] ++ wsX30)
def wsX2_copyFrom : List Cond := .code yX2_copyFrom cX2_copyFrom 2 none :: ([.fieldLink RX2 9 "PartitionedCache$Monitors" "addresses" "[I", .methodLink RX2 18 arraycopyName, .native arraycopyName, .static arraycopyName, .initialized "java/lang/System", .fieldLink RX2 15 "PartitionedCache$Monitors" "gains" "[I"] ++ wsX20)
def wsX4_copyFrom_r1 : List Cond := [Cond.fieldLink RX4 12 "PartitionedCache$State" "places" "LPartitionedCache$Places;", Cond.fieldLink RX4 21 "PartitionedCache$State" "monitors" "LPartitionedCache$Monitors;", Cond.fieldLink RX4 25 "PartitionedCache$State" "leasts" "[I", Cond.methodLink RX4 46 arraycopyName, Cond.native arraycopyName, Cond.static arraycopyName, Cond.initialized "java/lang/System", Cond.fieldLink RX4 29 "PartitionedCache$State" "counts" "[I", Cond.fieldLink RX4 32 "PartitionedCache$State" "epoch" "I", Cond.fieldLink RX4 36 "PartitionedCache$State" "accesses" "I", Cond.methodLink RX4 39 yX3_copyFrom, Cond.instanceMethod yX3_copyFrom, Cond.selects RX3 yX3_copyFrom yX3_copyFrom, Cond.initialized RX3, Cond.code yX3_copyFrom cX3_copyFrom 2 none, Cond.fieldLink RX3 9 "PartitionedCache$Places" "owners" "[I", Cond.methodLink RX3 21 arraycopyName, Cond.fieldLink RX3 15 "PartitionedCache$Places" "held" "[I", Cond.fieldLink RX3 18 "PartitionedCache$Places" "stamps" "[I", Cond.methodLink RX4 43 yX2_copyFrom, Cond.instanceMethod yX2_copyFrom, Cond.selects RX2 yX2_copyFrom yX2_copyFrom, Cond.initialized RX2, Cond.code yX2_copyFrom cX2_copyFrom 2 none]
def wsX4_copyFrom_r2 : List Cond := [Cond.fieldLink RX2 9 "PartitionedCache$Monitors" "addresses" "[I", Cond.methodLink RX2 18 arraycopyName, Cond.fieldLink RX2 15 "PartitionedCache$Monitors" "gains" "[I"]
def wsX4_copyFrom : List Cond := .code yX4_copyFrom cX4_copyFrom 2 none :: ((wsX4_copyFrom_r1 ++ wsX4_copyFrom_r2) ++ wsX40 ++ wsX30 ++ wsX20)
def wsX1_push_r1 : List Cond := [Cond.fieldLink RX1 11 "PartitionedCache$History" "ring" "[LPartitionedCache$State;", Cond.fieldLink RX1 17 "PartitionedCache$History" "oldest" "I", Cond.fieldLink RX1 21 "PartitionedCache$History" "size" "I", Cond.methodLink RX1 25 yX4_copyFrom, Cond.instanceMethod yX4_copyFrom, Cond.selects RX4 yX4_copyFrom yX4_copyFrom, Cond.initialized RX4, Cond.code yX4_copyFrom cX4_copyFrom 2 none, Cond.fieldLink RX4 12 "PartitionedCache$State" "places" "LPartitionedCache$Places;", Cond.fieldLink RX4 21 "PartitionedCache$State" "monitors" "LPartitionedCache$Monitors;", Cond.fieldLink RX4 25 "PartitionedCache$State" "leasts" "[I", Cond.methodLink RX4 46 arraycopyName, Cond.native arraycopyName, Cond.static arraycopyName, Cond.initialized "java/lang/System", Cond.fieldLink RX4 29 "PartitionedCache$State" "counts" "[I", Cond.fieldLink RX4 32 "PartitionedCache$State" "epoch" "I", Cond.fieldLink RX4 36 "PartitionedCache$State" "accesses" "I", Cond.methodLink RX4 39 yX3_copyFrom, Cond.instanceMethod yX3_copyFrom, Cond.selects RX3 yX3_copyFrom yX3_copyFrom, Cond.initialized RX3, Cond.code yX3_copyFrom cX3_copyFrom 2 none, Cond.fieldLink RX3 9 "PartitionedCache$Places" "owners" "[I"]
def wsX1_push_r2 : List Cond := [Cond.methodLink RX3 21 arraycopyName, Cond.fieldLink RX3 15 "PartitionedCache$Places" "held" "[I", Cond.fieldLink RX3 18 "PartitionedCache$Places" "stamps" "[I", Cond.methodLink RX4 43 yX2_copyFrom, Cond.instanceMethod yX2_copyFrom, Cond.selects RX2 yX2_copyFrom yX2_copyFrom, Cond.initialized RX2, Cond.code yX2_copyFrom cX2_copyFrom 2 none, Cond.fieldLink RX2 9 "PartitionedCache$Monitors" "addresses" "[I", Cond.methodLink RX2 18 arraycopyName, Cond.fieldLink RX2 15 "PartitionedCache$Monitors" "gains" "[I"]
def wsX1_push : List Cond := .code yX1_push cX1_push 2 none :: ((wsX1_push_r1 ++ wsX1_push_r2) ++ wsX10 ++ wsX40 ++ wsX30 ++ wsX20)
def wsX1_popInto_r1 : List Cond := [Cond.fieldLink RX1 21 "PartitionedCache$History" "size" "I", Cond.fieldLink RX1 11 "PartitionedCache$History" "ring" "[LPartitionedCache$State;", Cond.fieldLink RX1 17 "PartitionedCache$History" "oldest" "I", Cond.methodLink RX1 25 yX4_copyFrom, Cond.instanceMethod yX4_copyFrom, Cond.selects RX4 yX4_copyFrom yX4_copyFrom, Cond.initialized RX4, Cond.code yX4_copyFrom cX4_copyFrom 2 none, Cond.fieldLink RX4 12 "PartitionedCache$State" "places" "LPartitionedCache$Places;", Cond.fieldLink RX4 21 "PartitionedCache$State" "monitors" "LPartitionedCache$Monitors;", Cond.fieldLink RX4 25 "PartitionedCache$State" "leasts" "[I", Cond.methodLink RX4 46 arraycopyName, Cond.native arraycopyName, Cond.static arraycopyName, Cond.initialized "java/lang/System", Cond.fieldLink RX4 29 "PartitionedCache$State" "counts" "[I", Cond.fieldLink RX4 32 "PartitionedCache$State" "epoch" "I", Cond.fieldLink RX4 36 "PartitionedCache$State" "accesses" "I", Cond.methodLink RX4 39 yX3_copyFrom, Cond.instanceMethod yX3_copyFrom, Cond.selects RX3 yX3_copyFrom yX3_copyFrom, Cond.initialized RX3, Cond.code yX3_copyFrom cX3_copyFrom 2 none, Cond.fieldLink RX3 9 "PartitionedCache$Places" "owners" "[I"]
def wsX1_popInto_r2 : List Cond := [Cond.methodLink RX3 21 arraycopyName, Cond.fieldLink RX3 15 "PartitionedCache$Places" "held" "[I", Cond.fieldLink RX3 18 "PartitionedCache$Places" "stamps" "[I", Cond.methodLink RX4 43 yX2_copyFrom, Cond.instanceMethod yX2_copyFrom, Cond.selects RX2 yX2_copyFrom yX2_copyFrom, Cond.initialized RX2, Cond.code yX2_copyFrom cX2_copyFrom 2 none, Cond.fieldLink RX2 9 "PartitionedCache$Monitors" "addresses" "[I", Cond.methodLink RX2 18 arraycopyName, Cond.fieldLink RX2 15 "PartitionedCache$Monitors" "gains" "[I"]
def wsX1_popInto : List Cond := .code yX1_popInto cX1_popInto 2 none :: ((wsX1_popInto_r1 ++ wsX1_popInto_r2) ++ wsX10 ++ wsX40 ++ wsX30 ++ wsX20)
def wsX6_isSampled : List Cond := .code yX6_isSampled cX6_isSampled 1 (some .boolean) :: ([])
def wsX6_listStart : List Cond := .code yX6_listStart cX6_listStart 2 (some .int) :: ([])
def wsX2_note : List Cond := .code yX2_note cX2_note 7 none :: ([.fieldLink RX2 9 "PartitionedCache$Monitors" "addresses" "[I", .fieldLink RX2 15 "PartitionedCache$Monitors" "gains" "[I", .static yX6_isSampled, .initialized RX6, .code yX6_isSampled cX6_isSampled 1 (some .boolean), .static yX6_listStart, .code yX6_listStart cX6_listStart 2 (some .int)] ++ wsX20)
def wsX2_utilityOf : List Cond := .code yX2_utilityOf cX2_utilityOf 5 (some .int) :: ([.fieldLink RX2 15 "PartitionedCache$Monitors" "gains" "[I"] ++ wsX20)
def wsX2_sumOfGains : List Cond := .code yX2_sumOfGains cX2_sumOfGains 3 (some .int) :: ([.fieldLink RX2 15 "PartitionedCache$Monitors" "gains" "[I"] ++ wsX20)
def wsX2_halve : List Cond := .code yX2_halve cX2_halve 2 none :: ([.fieldLink RX2 15 "PartitionedCache$Monitors" "gains" "[I"] ++ wsX20)
def wsX3_ownedWays : List Cond := .code yX3_ownedWays cX3_ownedWays 4 (some .int) :: ([.fieldLink RX3 9 "PartitionedCache$Places" "owners" "[I"] ++ wsX30)
def wsX3_placeOf : List Cond := .code yX3_placeOf cX3_placeOf 5 (some .int) :: ([.fieldLink RX3 15 "PartitionedCache$Places" "held" "[I"] ++ wsX30)
def wsX3_resultOf : List Cond := .code yX3_resultOf cX3_resultOf 3 (some .int) :: ([.methodLink RX3 27 yX3_placeOf, .instanceMethod yX3_placeOf, .selects RX3 yX3_placeOf yX3_placeOf, .initialized RX3, .code yX3_placeOf cX3_placeOf 5 (some .int), .fieldLink RX3 15 "PartitionedCache$Places" "held" "[I", .methodLink RX3 31 yX3_ownedWays, .instanceMethod yX3_ownedWays, .selects RX3 yX3_ownedWays yX3_ownedWays, .code yX3_ownedWays cX3_ownedWays 4 (some .int), .fieldLink RX3 9 "PartitionedCache$Places" "owners" "[I"] ++ wsX30)
def wsX3_renew : List Cond := .code yX3_renew cX3_renew 5 none :: ([.fieldLink RX3 18 "PartitionedCache$Places" "stamps" "[I", .methodLink RX3 27 yX3_placeOf, .instanceMethod yX3_placeOf, .selects RX3 yX3_placeOf yX3_placeOf, .initialized RX3, .code yX3_placeOf cX3_placeOf 5 (some .int), .fieldLink RX3 15 "PartitionedCache$Places" "held" "[I"] ++ wsX30)
def wsX3_placeToFill : List Cond := .code yX3_placeToFill cX3_placeToFill 7 (some .int) :: ([.fieldLink RX3 9 "PartitionedCache$Places" "owners" "[I", .fieldLink RX3 15 "PartitionedCache$Places" "held" "[I", .fieldLink RX3 18 "PartitionedCache$Places" "stamps" "[I"] ++ wsX30)
def wsX3_holdsLineOf : List Cond := .code yX3_holdsLineOf cX3_holdsLineOf 3 (some .boolean) :: ([.fieldLink RX3 15 "PartitionedCache$Places" "held" "[I"] ++ wsX30)
def wsX3_linesInWay : List Cond := .code yX3_linesInWay cX3_linesInWay 5 (some .int) :: ([.methodLink RX3 35 yX3_holdsLineOf, .instanceMethod yX3_holdsLineOf, .selects RX3 yX3_holdsLineOf yX3_holdsLineOf, .initialized RX3, .code yX3_holdsLineOf cX3_holdsLineOf 3 (some .boolean), .fieldLink RX3 15 "PartitionedCache$Places" "held" "[I"] ++ wsX30)
def wsX3_linesOf : List Cond := .code yX3_linesOf cX3_linesOf 4 (some .int) :: ([.methodLink RX3 39 yX3_linesInWay, .instanceMethod yX3_linesInWay, .selects RX3 yX3_linesInWay yX3_linesInWay, .initialized RX3, .code yX3_linesInWay cX3_linesInWay 5 (some .int), .methodLink RX3 35 yX3_holdsLineOf, .instanceMethod yX3_holdsLineOf, .selects RX3 yX3_holdsLineOf yX3_holdsLineOf, .code yX3_holdsLineOf cX3_holdsLineOf 3 (some .boolean), .fieldLink RX3 15 "PartitionedCache$Places" "held" "[I"] ++ wsX30)
def wsX3_linesInOwnWays : List Cond := .code yX3_linesInOwnWays cX3_linesInOwnWays 4 (some .int) :: ([.fieldLink RX3 9 "PartitionedCache$Places" "owners" "[I", .methodLink RX3 39 yX3_linesInWay, .instanceMethod yX3_linesInWay, .selects RX3 yX3_linesInWay yX3_linesInWay, .initialized RX3, .code yX3_linesInWay cX3_linesInWay 5 (some .int), .methodLink RX3 35 yX3_holdsLineOf, .instanceMethod yX3_holdsLineOf, .selects RX3 yX3_holdsLineOf yX3_holdsLineOf, .code yX3_holdsLineOf cX3_holdsLineOf 3 (some .boolean), .fieldLink RX3 15 "PartitionedCache$Places" "held" "[I"] ++ wsX30)
def wsX3_allLines : List Cond := .code yX3_allLines cX3_allLines 3 (some .int) :: ([.methodLink RX3 42 yX3_linesOf, .instanceMethod yX3_linesOf, .selects RX3 yX3_linesOf yX3_linesOf, .initialized RX3, .code yX3_linesOf cX3_linesOf 4 (some .int), .methodLink RX3 39 yX3_linesInWay, .instanceMethod yX3_linesInWay, .selects RX3 yX3_linesInWay yX3_linesInWay, .code yX3_linesInWay cX3_linesInWay 5 (some .int), .methodLink RX3 35 yX3_holdsLineOf, .instanceMethod yX3_holdsLineOf, .selects RX3 yX3_holdsLineOf yX3_holdsLineOf, .code yX3_holdsLineOf cX3_holdsLineOf 3 (some .boolean), .fieldLink RX3 15 "PartitionedCache$Places" "held" "[I"] ++ wsX30)
def wsX3_removeLinesOf : List Cond := .code yX3_removeLinesOf cX3_removeLinesOf 4 (some .int) :: ([.fieldLink RX3 15 "PartitionedCache$Places" "held" "[I", .methodLink RX3 35 yX3_holdsLineOf, .instanceMethod yX3_holdsLineOf, .selects RX3 yX3_holdsLineOf yX3_holdsLineOf, .initialized RX3, .code yX3_holdsLineOf cX3_holdsLineOf 3 (some .boolean)] ++ wsX30)
def wsX3_wayWithFewestLines : List Cond := .code yX3_wayWithFewestLines cX3_wayWithFewestLines 5 (some .int) :: ([.fieldLink RX3 9 "PartitionedCache$Places" "owners" "[I", .methodLink RX3 39 yX3_linesInWay, .instanceMethod yX3_linesInWay, .selects RX3 yX3_linesInWay yX3_linesInWay, .initialized RX3, .code yX3_linesInWay cX3_linesInWay 5 (some .int), .methodLink RX3 35 yX3_holdsLineOf, .instanceMethod yX3_holdsLineOf, .selects RX3 yX3_holdsLineOf yX3_holdsLineOf, .code yX3_holdsLineOf cX3_holdsLineOf 3 (some .boolean), .fieldLink RX3 15 "PartitionedCache$Places" "held" "[I"] ++ wsX30)
def wsX5_init : List Cond := .code yX5_init cX5_init 1 none :: ([.methodLink RX5 3 objectInit, .instanceMethod objectInit, .code objectInit ⟨#[0xb1]⟩ 1 none, .arrayClass .int, .fieldLink RX5 9 "PartitionedCache$Targets" "ways" "[I"] ++ wsX50)
def wsX5_lowest : List Cond := .code yX5_lowest cX5_lowest 3 (some .int) :: ([.fieldLink RX5 9 "PartitionedCache$Targets" "ways" "[I"] ++ wsX50)
def wsX5_growOne : List Cond := .code yX5_growOne cX5_growOne 9 (some .int) :: ([.fieldLink RX5 9 "PartitionedCache$Targets" "ways" "[I", .fieldLink RX5 28 "PartitionedCache$Monitors" "gains" "[I", .methodLink RX5 33 yX5_lowest, .instanceMethod yX5_lowest, .selects RX5 yX5_lowest yX5_lowest, .initialized RX5, .code yX5_lowest cX5_lowest 3 (some .int)] ++ wsX50 ++ wsX20)
def wsX5_compute : List Cond := .code yX5_compute cX5_compute 4 none :: ([.fieldLink RX5 9 "PartitionedCache$Targets" "ways" "[I", .fieldLink RX5 15 "PartitionedCache$State" "leasts" "[I", .fieldLink RX5 20 "PartitionedCache$State" "monitors" "LPartitionedCache$Monitors;", .methodLink RX5 24 yX5_growOne, .instanceMethod yX5_growOne, .selects RX5 yX5_growOne yX5_growOne, .initialized RX5, .code yX5_growOne cX5_growOne 9 (some .int), .fieldLink RX5 28 "PartitionedCache$Monitors" "gains" "[I", .methodLink RX5 33 yX5_lowest, .instanceMethod yX5_lowest, .selects RX5 yX5_lowest yX5_lowest, .code yX5_lowest cX5_lowest 3 (some .int)] ++ wsX50 ++ wsX40 ++ wsX20)
def wsX6_init_r1 : List Cond := [Cond.methodLink RX6 3 objectInit, Cond.instanceMethod objectInit, Cond.code objectInit ⟨#[0xb1]⟩ 1 none, Cond.classLink RX6 9 RX4, Cond.instantiable RX4 6, Cond.initialized RX4, Cond.fieldLink RX6 12 "PartitionedCache" "now" "LPartitionedCache$State;", Cond.classLink RX6 16 RX5, Cond.instantiable RX5 1, Cond.initialized RX5, Cond.fieldLink RX6 19 "PartitionedCache" "targets" "LPartitionedCache$Targets;", Cond.classLink RX6 23 RX1, Cond.instantiable RX1 3, Cond.initialized RX1, Cond.fieldLink RX6 26 "PartitionedCache" "history" "LPartitionedCache$History;", Cond.classLink RX6 30 RX0, Cond.instantiable RX0 2, Cond.initialized RX0, Cond.fieldLink RX6 33 "PartitionedCache" "text" "LPartitionedCache$CommandText;", Cond.fieldLink RX6 37 "PartitionedCache" "slots" "[LPartitionedCache$State;", Cond.arrayClass .boolean, Cond.fieldLink RX6 41 "PartitionedCache" "slotFilled" "[Z", Cond.methodLink RX6 11 yX4_init, Cond.instanceMethod yX4_init]
def wsX6_init_r2 : List Cond := [Cond.code yX4_init cX4_init 2 none, Cond.methodLink RX4 3 objectInit, Cond.classLink RX4 9 RX3, Cond.instantiable RX3 3, Cond.initialized RX3, Cond.fieldLink RX4 12 "PartitionedCache$State" "places" "LPartitionedCache$Places;", Cond.classLink RX4 18 RX2, Cond.instantiable RX2 2, Cond.initialized RX2, Cond.fieldLink RX4 21 "PartitionedCache$State" "monitors" "LPartitionedCache$Monitors;", Cond.arrayClass .int, Cond.fieldLink RX4 25 "PartitionedCache$State" "leasts" "[I", Cond.fieldLink RX4 29 "PartitionedCache$State" "counts" "[I", Cond.fieldLink RX4 32 "PartitionedCache$State" "epoch" "I", Cond.fieldLink RX4 36 "PartitionedCache$State" "accesses" "I", Cond.methodLink RX4 11 yX3_init, Cond.instanceMethod yX3_init, Cond.code yX3_init cX3_init 2 none, Cond.methodLink RX3 3 objectInit, Cond.fieldLink RX3 9 "PartitionedCache$Places" "owners" "[I", Cond.fieldLink RX3 15 "PartitionedCache$Places" "held" "[I", Cond.fieldLink RX3 18 "PartitionedCache$Places" "stamps" "[I", Cond.methodLink RX4 20 yX2_init, Cond.instanceMethod yX2_init]
def wsX6_init_r3 : List Cond := [Cond.code yX2_init cX2_init 2 none, Cond.methodLink RX2 3 objectInit, Cond.fieldLink RX2 9 "PartitionedCache$Monitors" "addresses" "[I", Cond.fieldLink RX2 15 "PartitionedCache$Monitors" "gains" "[I", Cond.instanceMethod yX5_init, Cond.code yX5_init cX5_init 1 none, Cond.methodLink RX5 3 objectInit, Cond.fieldLink RX5 9 "PartitionedCache$Targets" "ways" "[I", Cond.methodLink RX6 25 yX1_init, Cond.instanceMethod yX1_init, Cond.code yX1_init cX1_init 2 none, Cond.methodLink RX1 3 objectInit, Cond.classLink RX1 9 RX4, Cond.fieldLink RX1 11 "PartitionedCache$History" "ring" "[LPartitionedCache$State;", Cond.fieldLink RX1 17 "PartitionedCache$History" "oldest" "I", Cond.fieldLink RX1 21 "PartitionedCache$History" "size" "I", Cond.methodLink RX1 24 yX4_init, Cond.instanceMethod yX0_init, Cond.code yX0_init cX0_init 1 none, Cond.methodLink RX0 3 objectInit, Cond.arrayClass .char, Cond.fieldLink RX0 9 "PartitionedCache$CommandText" "signs" "[C", Cond.fieldLink RX0 15 "PartitionedCache$CommandText" "length" "I"]
def wsX6_init : List Cond := .code yX6_init cX6_init 2 none :: ((wsX6_init_r1 ++ (wsX6_init_r2 ++ wsX6_init_r3)) ++ wsX40 ++ wsX60 ++ wsX50 ++ wsX10 ++ wsX00 ++ wsX30 ++ wsX20)
def wsX6_requireIndex : List Cond := .code yX6_requireIndex cX6_requireIndex 2 none :: ([.classLink RX6 171 "java/lang/IndexOutOfBoundsException", .initialized "java/lang/IndexOutOfBoundsException"] ++ (vx_atS RX6 175 "java/lang/IndexOutOfBoundsException" ["java/lang/RuntimeException", "java/lang/Exception"]).filter goodWord)
def wsX6_requireTenant : List Cond := .code yX6_requireTenant cX6_requireTenant 1 none :: ([.methodLink RX6 75 yX6_requireIndex, .static yX6_requireIndex, .initialized RX6, .code yX6_requireIndex cX6_requireIndex 2 none, .classLink RX6 171 "java/lang/IndexOutOfBoundsException", .initialized "java/lang/IndexOutOfBoundsException"] ++ (vx_atS RX6 175 "java/lang/IndexOutOfBoundsException" ["java/lang/RuntimeException", "java/lang/Exception"]).filter goodWord)
def wsX6_requireArgument : List Cond := .code yX6_requireArgument cX6_requireArgument 3 none :: ([.classLink RX6 204 "java/lang/IllegalArgumentException", .initialized "java/lang/IllegalArgumentException"] ++ (vx_atS RX6 208 "java/lang/IllegalArgumentException" ["java/lang/RuntimeException", "java/lang/Exception"]).filter goodWord)
def wsX6_bringIn : List Cond := .code yX6_bringIn cX6_bringIn 5 none :: ([.fieldLink RX6 12 "PartitionedCache" "now" "LPartitionedCache$State;", .fieldLink RX6 61 "PartitionedCache$State" "places" "LPartitionedCache$Places;", .fieldLink RX6 196 "PartitionedCache$State" "counts" "[I", .fieldLink RX6 147 "PartitionedCache$Places" "held" "[I", .fieldLink RX6 222 "PartitionedCache$Places" "stamps" "[I", .fieldLink RX6 199 "PartitionedCache$State" "accesses" "I", .methodLink RX6 159 yX3_placeToFill, .instanceMethod yX3_placeToFill, .selects RX3 yX3_placeToFill yX3_placeToFill, .initialized RX3, .code yX3_placeToFill cX3_placeToFill 7 (some .int), .fieldLink RX3 9 "PartitionedCache$Places" "owners" "[I", .fieldLink RX3 15 "PartitionedCache$Places" "held" "[I", .fieldLink RX3 18 "PartitionedCache$Places" "stamps" "[I", .methodLink RX6 218 yX3_holdsLineOf, .instanceMethod yX3_holdsLineOf, .selects RX3 yX3_holdsLineOf yX3_holdsLineOf, .code yX3_holdsLineOf cX3_holdsLineOf 3 (some .boolean)] ++ wsX60 ++ wsX40 ++ wsX30)
def wsX6_deficitOf : List Cond := .code yX6_deficitOf cX6_deficitOf 2 (some .int) :: ([.fieldLink RX6 19 "PartitionedCache" "targets" "LPartitionedCache$Targets;", .fieldLink RX6 185 "PartitionedCache$Targets" "ways" "[I", .fieldLink RX6 12 "PartitionedCache" "now" "LPartitionedCache$State;", .fieldLink RX6 61 "PartitionedCache$State" "places" "LPartitionedCache$Places;", .methodLink RX6 144 yX3_ownedWays, .instanceMethod yX3_ownedWays, .selects RX3 yX3_ownedWays yX3_ownedWays, .initialized RX3, .code yX3_ownedWays cX3_ownedWays 4 (some .int), .fieldLink RX3 9 "PartitionedCache$Places" "owners" "[I"] ++ wsX60 ++ wsX50 ++ wsX40 ++ wsX30)
def wsX6_moveOneWay_r1 : List Cond := [Cond.fieldLink RX6 19 "PartitionedCache" "targets" "LPartitionedCache$Targets;", Cond.fieldLink RX6 12 "PartitionedCache" "now" "LPartitionedCache$State;", Cond.fieldLink RX6 61 "PartitionedCache$State" "places" "LPartitionedCache$Places;", Cond.fieldLink RX6 79 "PartitionedCache$Places" "owners" "[I", Cond.methodLink RX6 182 yX5_compute, Cond.instanceMethod yX5_compute, Cond.selects RX5 yX5_compute yX5_compute, Cond.initialized RX5, Cond.code yX5_compute cX5_compute 4 none, Cond.fieldLink RX5 9 "PartitionedCache$Targets" "ways" "[I", Cond.fieldLink RX5 15 "PartitionedCache$State" "leasts" "[I", Cond.fieldLink RX5 20 "PartitionedCache$State" "monitors" "LPartitionedCache$Monitors;", Cond.methodLink RX5 24 yX5_growOne, Cond.instanceMethod yX5_growOne, Cond.selects RX5 yX5_growOne yX5_growOne, Cond.code yX5_growOne cX5_growOne 9 (some .int), Cond.fieldLink RX5 28 "PartitionedCache$Monitors" "gains" "[I", Cond.methodLink RX5 33 yX5_lowest, Cond.instanceMethod yX5_lowest, Cond.selects RX5 yX5_lowest yX5_lowest, Cond.code yX5_lowest cX5_lowest 3 (some .int), Cond.methodLink RX6 188 yX6_deficitOf, Cond.instanceMethod yX6_deficitOf, Cond.selects RX6 yX6_deficitOf yX6_deficitOf]
def wsX6_moveOneWay_r2 : List Cond := [Cond.initialized RX6, Cond.code yX6_deficitOf cX6_deficitOf 2 (some .int), Cond.fieldLink RX6 185 "PartitionedCache$Targets" "ways" "[I", Cond.methodLink RX6 144 yX3_ownedWays, Cond.instanceMethod yX3_ownedWays, Cond.selects RX3 yX3_ownedWays yX3_ownedWays, Cond.initialized RX3, Cond.code yX3_ownedWays cX3_ownedWays 4 (some .int), Cond.fieldLink RX3 9 "PartitionedCache$Places" "owners" "[I", Cond.methodLink RX6 225 yX3_wayWithFewestLines, Cond.instanceMethod yX3_wayWithFewestLines, Cond.selects RX3 yX3_wayWithFewestLines yX3_wayWithFewestLines, Cond.code yX3_wayWithFewestLines cX3_wayWithFewestLines 5 (some .int), Cond.methodLink RX3 39 yX3_linesInWay, Cond.instanceMethod yX3_linesInWay, Cond.selects RX3 yX3_linesInWay yX3_linesInWay, Cond.code yX3_linesInWay cX3_linesInWay 5 (some .int), Cond.methodLink RX3 35 yX3_holdsLineOf, Cond.instanceMethod yX3_holdsLineOf, Cond.selects RX3 yX3_holdsLineOf yX3_holdsLineOf, Cond.code yX3_holdsLineOf cX3_holdsLineOf 3 (some .boolean), Cond.fieldLink RX3 15 "PartitionedCache$Places" "held" "[I"]
def wsX6_moveOneWay : List Cond := .code yX6_moveOneWay cX6_moveOneWay 4 (some .int) :: ((wsX6_moveOneWay_r1 ++ wsX6_moveOneWay_r2) ++ wsX60 ++ wsX40 ++ wsX30 ++ wsX50 ++ wsX20)
def wsX6_makeAccess_r1 : List Cond := [Cond.fieldLink RX6 12 "PartitionedCache" "now" "LPartitionedCache$State;", Cond.fieldLink RX6 90 "PartitionedCache$State" "monitors" "LPartitionedCache$Monitors;", Cond.fieldLink RX6 199 "PartitionedCache$State" "accesses" "I", Cond.fieldLink RX6 61 "PartitionedCache$State" "places" "LPartitionedCache$Places;", Cond.fieldLink RX6 196 "PartitionedCache$State" "counts" "[I", Cond.fieldLink RX6 86 "PartitionedCache$State" "epoch" "I", Cond.methodLink RX6 209 yX2_note, Cond.instanceMethod yX2_note, Cond.selects RX2 yX2_note yX2_note, Cond.initialized RX2, Cond.code yX2_note cX2_note 7 none, Cond.fieldLink RX2 9 "PartitionedCache$Monitors" "addresses" "[I", Cond.fieldLink RX2 15 "PartitionedCache$Monitors" "gains" "[I", Cond.static yX6_isSampled, Cond.initialized RX6, Cond.code yX6_isSampled cX6_isSampled 1 (some .boolean), Cond.static yX6_listStart, Cond.code yX6_listStart cX6_listStart 2 (some .int), Cond.methodLink RX6 156 yX3_resultOf, Cond.instanceMethod yX3_resultOf, Cond.selects RX3 yX3_resultOf yX3_resultOf, Cond.initialized RX3, Cond.code yX3_resultOf cX3_resultOf 3 (some .int), Cond.methodLink RX3 27 yX3_placeOf]
def wsX6_makeAccess_r2 : List Cond := [Cond.instanceMethod yX3_placeOf, Cond.selects RX3 yX3_placeOf yX3_placeOf, Cond.code yX3_placeOf cX3_placeOf 5 (some .int), Cond.fieldLink RX3 15 "PartitionedCache$Places" "held" "[I", Cond.methodLink RX3 31 yX3_ownedWays, Cond.instanceMethod yX3_ownedWays, Cond.selects RX3 yX3_ownedWays yX3_ownedWays, Cond.code yX3_ownedWays cX3_ownedWays 4 (some .int), Cond.fieldLink RX3 9 "PartitionedCache$Places" "owners" "[I", Cond.methodLink RX6 212 yX3_renew, Cond.instanceMethod yX3_renew, Cond.selects RX3 yX3_renew yX3_renew, Cond.code yX3_renew cX3_renew 5 none, Cond.fieldLink RX3 18 "PartitionedCache$Places" "stamps" "[I", Cond.methodLink RX6 215 yX6_bringIn, Cond.instanceMethod yX6_bringIn, Cond.selects RX6 yX6_bringIn yX6_bringIn, Cond.code yX6_bringIn cX6_bringIn 5 none, Cond.fieldLink RX6 147 "PartitionedCache$Places" "held" "[I", Cond.fieldLink RX6 222 "PartitionedCache$Places" "stamps" "[I", Cond.methodLink RX6 159 yX3_placeToFill, Cond.instanceMethod yX3_placeToFill, Cond.selects RX3 yX3_placeToFill yX3_placeToFill, Cond.code yX3_placeToFill cX3_placeToFill 7 (some .int)]
def wsX6_makeAccess_r3 : List Cond := [Cond.methodLink RX6 218 yX3_holdsLineOf, Cond.instanceMethod yX3_holdsLineOf, Cond.selects RX3 yX3_holdsLineOf yX3_holdsLineOf, Cond.code yX3_holdsLineOf cX3_holdsLineOf 3 (some .boolean), Cond.methodLink RX6 71 yX6_moveOneWay, Cond.instanceMethod yX6_moveOneWay, Cond.selects RX6 yX6_moveOneWay yX6_moveOneWay, Cond.code yX6_moveOneWay cX6_moveOneWay 4 (some .int), Cond.fieldLink RX6 19 "PartitionedCache" "targets" "LPartitionedCache$Targets;", Cond.fieldLink RX6 79 "PartitionedCache$Places" "owners" "[I", Cond.methodLink RX6 182 yX5_compute, Cond.instanceMethod yX5_compute, Cond.selects RX5 yX5_compute yX5_compute, Cond.initialized RX5, Cond.code yX5_compute cX5_compute 4 none, Cond.fieldLink RX5 9 "PartitionedCache$Targets" "ways" "[I", Cond.fieldLink RX5 15 "PartitionedCache$State" "leasts" "[I", Cond.fieldLink RX5 20 "PartitionedCache$State" "monitors" "LPartitionedCache$Monitors;", Cond.methodLink RX5 24 yX5_growOne, Cond.instanceMethod yX5_growOne, Cond.selects RX5 yX5_growOne yX5_growOne, Cond.code yX5_growOne cX5_growOne 9 (some .int), Cond.fieldLink RX5 28 "PartitionedCache$Monitors" "gains" "[I", Cond.methodLink RX5 33 yX5_lowest]
def wsX6_makeAccess_r4 : List Cond := [Cond.instanceMethod yX5_lowest, Cond.selects RX5 yX5_lowest yX5_lowest, Cond.code yX5_lowest cX5_lowest 3 (some .int), Cond.methodLink RX6 188 yX6_deficitOf, Cond.instanceMethod yX6_deficitOf, Cond.selects RX6 yX6_deficitOf yX6_deficitOf, Cond.code yX6_deficitOf cX6_deficitOf 2 (some .int), Cond.fieldLink RX6 185 "PartitionedCache$Targets" "ways" "[I", Cond.methodLink RX6 144 yX3_ownedWays, Cond.methodLink RX6 225 yX3_wayWithFewestLines, Cond.instanceMethod yX3_wayWithFewestLines, Cond.selects RX3 yX3_wayWithFewestLines yX3_wayWithFewestLines, Cond.code yX3_wayWithFewestLines cX3_wayWithFewestLines 5 (some .int), Cond.methodLink RX3 39 yX3_linesInWay, Cond.instanceMethod yX3_linesInWay, Cond.selects RX3 yX3_linesInWay yX3_linesInWay, Cond.code yX3_linesInWay cX3_linesInWay 5 (some .int), Cond.methodLink RX3 35 yX3_holdsLineOf, Cond.methodLink RX6 94 yX2_halve, Cond.instanceMethod yX2_halve, Cond.selects RX2 yX2_halve yX2_halve, Cond.code yX2_halve cX2_halve 2 none]
def wsX6_makeAccess : List Cond := .code yX6_makeAccess cX6_makeAccess 4 (some .int) :: ((wsX6_makeAccess_r1 ++ (wsX6_makeAccess_r2 ++ (wsX6_makeAccess_r3 ++ wsX6_makeAccess_r4))) ++ wsX60 ++ wsX40 ++ wsX20 ++ wsX30 ++ wsX50)
def wsX6_access_r1 : List Cond := [Cond.fieldLink RX6 26 "PartitionedCache" "history" "LPartitionedCache$History;", Cond.fieldLink RX6 12 "PartitionedCache" "now" "LPartitionedCache$State;", Cond.methodLink RX6 45 yX6_requireTenant, Cond.static yX6_requireTenant, Cond.initialized RX6, Cond.code yX6_requireTenant cX6_requireTenant 1 none, Cond.methodLink RX6 75 yX6_requireIndex, Cond.static yX6_requireIndex, Cond.code yX6_requireIndex cX6_requireIndex 2 none, Cond.classLink RX6 171 "java/lang/IndexOutOfBoundsException", Cond.initialized "java/lang/IndexOutOfBoundsException", Cond.methodLink RX6 49 yX6_requireArgument, Cond.static yX6_requireArgument, Cond.code yX6_requireArgument cX6_requireArgument 3 none, Cond.classLink RX6 204 "java/lang/IllegalArgumentException", Cond.initialized "java/lang/IllegalArgumentException", Cond.methodLink RX6 53 yX1_push, Cond.instanceMethod yX1_push, Cond.selects RX1 yX1_push yX1_push, Cond.initialized RX1, Cond.code yX1_push cX1_push 2 none, Cond.fieldLink RX1 11 "PartitionedCache$History" "ring" "[LPartitionedCache$State;", Cond.fieldLink RX1 17 "PartitionedCache$History" "oldest" "I", Cond.fieldLink RX1 21 "PartitionedCache$History" "size" "I"]
def wsX6_access_r2 : List Cond := [Cond.methodLink RX1 25 yX4_copyFrom, Cond.instanceMethod yX4_copyFrom, Cond.selects RX4 yX4_copyFrom yX4_copyFrom, Cond.initialized RX4, Cond.code yX4_copyFrom cX4_copyFrom 2 none, Cond.fieldLink RX4 12 "PartitionedCache$State" "places" "LPartitionedCache$Places;", Cond.fieldLink RX4 21 "PartitionedCache$State" "monitors" "LPartitionedCache$Monitors;", Cond.fieldLink RX4 25 "PartitionedCache$State" "leasts" "[I", Cond.methodLink RX4 46 arraycopyName, Cond.native arraycopyName, Cond.static arraycopyName, Cond.initialized "java/lang/System", Cond.fieldLink RX4 29 "PartitionedCache$State" "counts" "[I", Cond.fieldLink RX4 32 "PartitionedCache$State" "epoch" "I", Cond.fieldLink RX4 36 "PartitionedCache$State" "accesses" "I", Cond.methodLink RX4 39 yX3_copyFrom, Cond.instanceMethod yX3_copyFrom, Cond.selects RX3 yX3_copyFrom yX3_copyFrom, Cond.initialized RX3, Cond.code yX3_copyFrom cX3_copyFrom 2 none, Cond.fieldLink RX3 9 "PartitionedCache$Places" "owners" "[I", Cond.methodLink RX3 21 arraycopyName, Cond.fieldLink RX3 15 "PartitionedCache$Places" "held" "[I", Cond.fieldLink RX3 18 "PartitionedCache$Places" "stamps" "[I"]
def wsX6_access_r3 : List Cond := [Cond.methodLink RX4 43 yX2_copyFrom, Cond.instanceMethod yX2_copyFrom, Cond.selects RX2 yX2_copyFrom yX2_copyFrom, Cond.initialized RX2, Cond.code yX2_copyFrom cX2_copyFrom 2 none, Cond.fieldLink RX2 9 "PartitionedCache$Monitors" "addresses" "[I", Cond.methodLink RX2 18 arraycopyName, Cond.fieldLink RX2 15 "PartitionedCache$Monitors" "gains" "[I", Cond.methodLink RX6 57 yX6_makeAccess, Cond.instanceMethod yX6_makeAccess, Cond.selects RX6 yX6_makeAccess yX6_makeAccess, Cond.code yX6_makeAccess cX6_makeAccess 4 (some .int), Cond.fieldLink RX6 90 "PartitionedCache$State" "monitors" "LPartitionedCache$Monitors;", Cond.fieldLink RX6 199 "PartitionedCache$State" "accesses" "I", Cond.fieldLink RX6 61 "PartitionedCache$State" "places" "LPartitionedCache$Places;", Cond.fieldLink RX6 196 "PartitionedCache$State" "counts" "[I", Cond.fieldLink RX6 86 "PartitionedCache$State" "epoch" "I", Cond.methodLink RX6 209 yX2_note, Cond.instanceMethod yX2_note, Cond.selects RX2 yX2_note yX2_note, Cond.code yX2_note cX2_note 7 none, Cond.static yX6_isSampled, Cond.code yX6_isSampled cX6_isSampled 1 (some .boolean), Cond.static yX6_listStart]
def wsX6_access_r4 : List Cond := [Cond.code yX6_listStart cX6_listStart 2 (some .int), Cond.methodLink RX6 156 yX3_resultOf, Cond.instanceMethod yX3_resultOf, Cond.selects RX3 yX3_resultOf yX3_resultOf, Cond.code yX3_resultOf cX3_resultOf 3 (some .int), Cond.methodLink RX3 27 yX3_placeOf, Cond.instanceMethod yX3_placeOf, Cond.selects RX3 yX3_placeOf yX3_placeOf, Cond.code yX3_placeOf cX3_placeOf 5 (some .int), Cond.methodLink RX3 31 yX3_ownedWays, Cond.instanceMethod yX3_ownedWays, Cond.selects RX3 yX3_ownedWays yX3_ownedWays, Cond.code yX3_ownedWays cX3_ownedWays 4 (some .int), Cond.methodLink RX6 212 yX3_renew, Cond.instanceMethod yX3_renew, Cond.selects RX3 yX3_renew yX3_renew, Cond.code yX3_renew cX3_renew 5 none, Cond.methodLink RX6 215 yX6_bringIn, Cond.instanceMethod yX6_bringIn, Cond.selects RX6 yX6_bringIn yX6_bringIn, Cond.code yX6_bringIn cX6_bringIn 5 none, Cond.fieldLink RX6 147 "PartitionedCache$Places" "held" "[I", Cond.fieldLink RX6 222 "PartitionedCache$Places" "stamps" "[I", Cond.methodLink RX6 159 yX3_placeToFill]
def wsX6_access_r5 : List Cond := [Cond.instanceMethod yX3_placeToFill, Cond.selects RX3 yX3_placeToFill yX3_placeToFill, Cond.code yX3_placeToFill cX3_placeToFill 7 (some .int), Cond.methodLink RX6 218 yX3_holdsLineOf, Cond.instanceMethod yX3_holdsLineOf, Cond.selects RX3 yX3_holdsLineOf yX3_holdsLineOf, Cond.code yX3_holdsLineOf cX3_holdsLineOf 3 (some .boolean), Cond.methodLink RX6 71 yX6_moveOneWay, Cond.instanceMethod yX6_moveOneWay, Cond.selects RX6 yX6_moveOneWay yX6_moveOneWay, Cond.code yX6_moveOneWay cX6_moveOneWay 4 (some .int), Cond.fieldLink RX6 19 "PartitionedCache" "targets" "LPartitionedCache$Targets;", Cond.fieldLink RX6 79 "PartitionedCache$Places" "owners" "[I", Cond.methodLink RX6 182 yX5_compute, Cond.instanceMethod yX5_compute, Cond.selects RX5 yX5_compute yX5_compute, Cond.initialized RX5, Cond.code yX5_compute cX5_compute 4 none, Cond.fieldLink RX5 9 "PartitionedCache$Targets" "ways" "[I", Cond.fieldLink RX5 15 "PartitionedCache$State" "leasts" "[I", Cond.fieldLink RX5 20 "PartitionedCache$State" "monitors" "LPartitionedCache$Monitors;", Cond.methodLink RX5 24 yX5_growOne, Cond.instanceMethod yX5_growOne, Cond.selects RX5 yX5_growOne yX5_growOne]
def wsX6_access_r6 : List Cond := [Cond.code yX5_growOne cX5_growOne 9 (some .int), Cond.fieldLink RX5 28 "PartitionedCache$Monitors" "gains" "[I", Cond.methodLink RX5 33 yX5_lowest, Cond.instanceMethod yX5_lowest, Cond.selects RX5 yX5_lowest yX5_lowest, Cond.code yX5_lowest cX5_lowest 3 (some .int), Cond.methodLink RX6 188 yX6_deficitOf, Cond.instanceMethod yX6_deficitOf, Cond.selects RX6 yX6_deficitOf yX6_deficitOf, Cond.code yX6_deficitOf cX6_deficitOf 2 (some .int), Cond.fieldLink RX6 185 "PartitionedCache$Targets" "ways" "[I", Cond.methodLink RX6 144 yX3_ownedWays, Cond.methodLink RX6 225 yX3_wayWithFewestLines, Cond.instanceMethod yX3_wayWithFewestLines, Cond.selects RX3 yX3_wayWithFewestLines yX3_wayWithFewestLines, Cond.code yX3_wayWithFewestLines cX3_wayWithFewestLines 5 (some .int), Cond.methodLink RX3 39 yX3_linesInWay, Cond.instanceMethod yX3_linesInWay, Cond.selects RX3 yX3_linesInWay yX3_linesInWay, Cond.code yX3_linesInWay cX3_linesInWay 5 (some .int), Cond.methodLink RX3 35 yX3_holdsLineOf, Cond.methodLink RX6 94 yX2_halve, Cond.instanceMethod yX2_halve, Cond.selects RX2 yX2_halve yX2_halve]
def wsX6_access_r7 : List Cond := [Cond.code yX2_halve cX2_halve 2 none]
def wsX6_access : List Cond := .code yX6_access cX6_access 3 (some .int) :: ((wsX6_access_r1 ++ (wsX6_access_r2 ++ (wsX6_access_r3 ++ (wsX6_access_r4 ++ (wsX6_access_r5 ++ (wsX6_access_r6 ++ wsX6_access_r7)))))) ++ wsX60 ++ wsX10 ++ wsX40 ++ wsX30 ++ wsX20 ++ wsX50 ++ (vx_atS RX6 175 "java/lang/IndexOutOfBoundsException" ["java/lang/RuntimeException", "java/lang/Exception"]).filter goodWord ++ (vx_atS RX6 208 "java/lang/IllegalArgumentException" ["java/lang/RuntimeException", "java/lang/Exception"]).filter goodWord)
def wsX6_stream_r1 : List Cond := [Cond.fieldLink RX6 26 "PartitionedCache" "history" "LPartitionedCache$History;", Cond.fieldLink RX6 12 "PartitionedCache" "now" "LPartitionedCache$State;", Cond.methodLink RX6 45 yX6_requireTenant, Cond.static yX6_requireTenant, Cond.initialized RX6, Cond.code yX6_requireTenant cX6_requireTenant 1 none, Cond.methodLink RX6 75 yX6_requireIndex, Cond.static yX6_requireIndex, Cond.code yX6_requireIndex cX6_requireIndex 2 none, Cond.classLink RX6 171 "java/lang/IndexOutOfBoundsException", Cond.initialized "java/lang/IndexOutOfBoundsException", Cond.methodLink RX6 49 yX6_requireArgument, Cond.static yX6_requireArgument, Cond.code yX6_requireArgument cX6_requireArgument 3 none, Cond.classLink RX6 204 "java/lang/IllegalArgumentException", Cond.initialized "java/lang/IllegalArgumentException", Cond.methodLink RX6 53 yX1_push, Cond.instanceMethod yX1_push, Cond.selects RX1 yX1_push yX1_push, Cond.initialized RX1, Cond.code yX1_push cX1_push 2 none, Cond.fieldLink RX1 11 "PartitionedCache$History" "ring" "[LPartitionedCache$State;", Cond.fieldLink RX1 17 "PartitionedCache$History" "oldest" "I", Cond.fieldLink RX1 21 "PartitionedCache$History" "size" "I"]
def wsX6_stream_r2 : List Cond := [Cond.methodLink RX1 25 yX4_copyFrom, Cond.instanceMethod yX4_copyFrom, Cond.selects RX4 yX4_copyFrom yX4_copyFrom, Cond.initialized RX4, Cond.code yX4_copyFrom cX4_copyFrom 2 none, Cond.fieldLink RX4 12 "PartitionedCache$State" "places" "LPartitionedCache$Places;", Cond.fieldLink RX4 21 "PartitionedCache$State" "monitors" "LPartitionedCache$Monitors;", Cond.fieldLink RX4 25 "PartitionedCache$State" "leasts" "[I", Cond.methodLink RX4 46 arraycopyName, Cond.native arraycopyName, Cond.static arraycopyName, Cond.initialized "java/lang/System", Cond.fieldLink RX4 29 "PartitionedCache$State" "counts" "[I", Cond.fieldLink RX4 32 "PartitionedCache$State" "epoch" "I", Cond.fieldLink RX4 36 "PartitionedCache$State" "accesses" "I", Cond.methodLink RX4 39 yX3_copyFrom, Cond.instanceMethod yX3_copyFrom, Cond.selects RX3 yX3_copyFrom yX3_copyFrom, Cond.initialized RX3, Cond.code yX3_copyFrom cX3_copyFrom 2 none, Cond.fieldLink RX3 9 "PartitionedCache$Places" "owners" "[I", Cond.methodLink RX3 21 arraycopyName, Cond.fieldLink RX3 15 "PartitionedCache$Places" "held" "[I", Cond.fieldLink RX3 18 "PartitionedCache$Places" "stamps" "[I"]
def wsX6_stream_r3 : List Cond := [Cond.methodLink RX4 43 yX2_copyFrom, Cond.instanceMethod yX2_copyFrom, Cond.selects RX2 yX2_copyFrom yX2_copyFrom, Cond.initialized RX2, Cond.code yX2_copyFrom cX2_copyFrom 2 none, Cond.fieldLink RX2 9 "PartitionedCache$Monitors" "addresses" "[I", Cond.methodLink RX2 18 arraycopyName, Cond.fieldLink RX2 15 "PartitionedCache$Monitors" "gains" "[I", Cond.methodLink RX6 57 yX6_makeAccess, Cond.instanceMethod yX6_makeAccess, Cond.selects RX6 yX6_makeAccess yX6_makeAccess, Cond.code yX6_makeAccess cX6_makeAccess 4 (some .int), Cond.fieldLink RX6 90 "PartitionedCache$State" "monitors" "LPartitionedCache$Monitors;", Cond.fieldLink RX6 199 "PartitionedCache$State" "accesses" "I", Cond.fieldLink RX6 61 "PartitionedCache$State" "places" "LPartitionedCache$Places;", Cond.fieldLink RX6 196 "PartitionedCache$State" "counts" "[I", Cond.fieldLink RX6 86 "PartitionedCache$State" "epoch" "I", Cond.methodLink RX6 209 yX2_note, Cond.instanceMethod yX2_note, Cond.selects RX2 yX2_note yX2_note, Cond.code yX2_note cX2_note 7 none, Cond.static yX6_isSampled, Cond.code yX6_isSampled cX6_isSampled 1 (some .boolean), Cond.static yX6_listStart]
def wsX6_stream_r4 : List Cond := [Cond.code yX6_listStart cX6_listStart 2 (some .int), Cond.methodLink RX6 156 yX3_resultOf, Cond.instanceMethod yX3_resultOf, Cond.selects RX3 yX3_resultOf yX3_resultOf, Cond.code yX3_resultOf cX3_resultOf 3 (some .int), Cond.methodLink RX3 27 yX3_placeOf, Cond.instanceMethod yX3_placeOf, Cond.selects RX3 yX3_placeOf yX3_placeOf, Cond.code yX3_placeOf cX3_placeOf 5 (some .int), Cond.methodLink RX3 31 yX3_ownedWays, Cond.instanceMethod yX3_ownedWays, Cond.selects RX3 yX3_ownedWays yX3_ownedWays, Cond.code yX3_ownedWays cX3_ownedWays 4 (some .int), Cond.methodLink RX6 212 yX3_renew, Cond.instanceMethod yX3_renew, Cond.selects RX3 yX3_renew yX3_renew, Cond.code yX3_renew cX3_renew 5 none, Cond.methodLink RX6 215 yX6_bringIn, Cond.instanceMethod yX6_bringIn, Cond.selects RX6 yX6_bringIn yX6_bringIn, Cond.code yX6_bringIn cX6_bringIn 5 none, Cond.fieldLink RX6 147 "PartitionedCache$Places" "held" "[I", Cond.fieldLink RX6 222 "PartitionedCache$Places" "stamps" "[I", Cond.methodLink RX6 159 yX3_placeToFill]
def wsX6_stream_r5 : List Cond := [Cond.instanceMethod yX3_placeToFill, Cond.selects RX3 yX3_placeToFill yX3_placeToFill, Cond.code yX3_placeToFill cX3_placeToFill 7 (some .int), Cond.methodLink RX6 218 yX3_holdsLineOf, Cond.instanceMethod yX3_holdsLineOf, Cond.selects RX3 yX3_holdsLineOf yX3_holdsLineOf, Cond.code yX3_holdsLineOf cX3_holdsLineOf 3 (some .boolean), Cond.methodLink RX6 71 yX6_moveOneWay, Cond.instanceMethod yX6_moveOneWay, Cond.selects RX6 yX6_moveOneWay yX6_moveOneWay, Cond.code yX6_moveOneWay cX6_moveOneWay 4 (some .int), Cond.fieldLink RX6 19 "PartitionedCache" "targets" "LPartitionedCache$Targets;", Cond.fieldLink RX6 79 "PartitionedCache$Places" "owners" "[I", Cond.methodLink RX6 182 yX5_compute, Cond.instanceMethod yX5_compute, Cond.selects RX5 yX5_compute yX5_compute, Cond.initialized RX5, Cond.code yX5_compute cX5_compute 4 none, Cond.fieldLink RX5 9 "PartitionedCache$Targets" "ways" "[I", Cond.fieldLink RX5 15 "PartitionedCache$State" "leasts" "[I", Cond.fieldLink RX5 20 "PartitionedCache$State" "monitors" "LPartitionedCache$Monitors;", Cond.methodLink RX5 24 yX5_growOne, Cond.instanceMethod yX5_growOne, Cond.selects RX5 yX5_growOne yX5_growOne]
def wsX6_stream_r6 : List Cond := [Cond.code yX5_growOne cX5_growOne 9 (some .int), Cond.fieldLink RX5 28 "PartitionedCache$Monitors" "gains" "[I", Cond.methodLink RX5 33 yX5_lowest, Cond.instanceMethod yX5_lowest, Cond.selects RX5 yX5_lowest yX5_lowest, Cond.code yX5_lowest cX5_lowest 3 (some .int), Cond.methodLink RX6 188 yX6_deficitOf, Cond.instanceMethod yX6_deficitOf, Cond.selects RX6 yX6_deficitOf yX6_deficitOf, Cond.code yX6_deficitOf cX6_deficitOf 2 (some .int), Cond.fieldLink RX6 185 "PartitionedCache$Targets" "ways" "[I", Cond.methodLink RX6 144 yX3_ownedWays, Cond.methodLink RX6 225 yX3_wayWithFewestLines, Cond.instanceMethod yX3_wayWithFewestLines, Cond.selects RX3 yX3_wayWithFewestLines yX3_wayWithFewestLines, Cond.code yX3_wayWithFewestLines cX3_wayWithFewestLines 5 (some .int), Cond.methodLink RX3 39 yX3_linesInWay, Cond.instanceMethod yX3_linesInWay, Cond.selects RX3 yX3_linesInWay yX3_linesInWay, Cond.code yX3_linesInWay cX3_linesInWay 5 (some .int), Cond.methodLink RX3 35 yX3_holdsLineOf, Cond.methodLink RX6 94 yX2_halve, Cond.instanceMethod yX2_halve, Cond.selects RX2 yX2_halve yX2_halve]
def wsX6_stream_r7 : List Cond := [Cond.code yX2_halve cX2_halve 2 none]
def wsX6_stream : List Cond := .code yX6_stream cX6_stream 7 (some .int) :: ((wsX6_stream_r1 ++ (wsX6_stream_r2 ++ (wsX6_stream_r3 ++ (wsX6_stream_r4 ++ (wsX6_stream_r5 ++ (wsX6_stream_r6 ++ wsX6_stream_r7)))))) ++ wsX60 ++ wsX10 ++ wsX40 ++ wsX30 ++ wsX20 ++ wsX50 ++ (vx_atS RX6 175 "java/lang/IndexOutOfBoundsException" ["java/lang/RuntimeException", "java/lang/Exception"]).filter goodWord ++ (vx_atS RX6 208 "java/lang/IllegalArgumentException" ["java/lang/RuntimeException", "java/lang/Exception"]).filter goodWord)
def wsX6_flush_r1 : List Cond := [Cond.fieldLink RX6 26 "PartitionedCache" "history" "LPartitionedCache$History;", Cond.fieldLink RX6 12 "PartitionedCache" "now" "LPartitionedCache$State;", Cond.fieldLink RX6 61 "PartitionedCache$State" "places" "LPartitionedCache$Places;", Cond.methodLink RX6 45 yX6_requireTenant, Cond.static yX6_requireTenant, Cond.initialized RX6, Cond.code yX6_requireTenant cX6_requireTenant 1 none, Cond.methodLink RX6 75 yX6_requireIndex, Cond.static yX6_requireIndex, Cond.code yX6_requireIndex cX6_requireIndex 2 none, Cond.classLink RX6 171 "java/lang/IndexOutOfBoundsException", Cond.initialized "java/lang/IndexOutOfBoundsException", Cond.methodLink RX6 53 yX1_push, Cond.instanceMethod yX1_push, Cond.selects RX1 yX1_push yX1_push, Cond.initialized RX1, Cond.code yX1_push cX1_push 2 none, Cond.fieldLink RX1 11 "PartitionedCache$History" "ring" "[LPartitionedCache$State;", Cond.fieldLink RX1 17 "PartitionedCache$History" "oldest" "I", Cond.fieldLink RX1 21 "PartitionedCache$History" "size" "I", Cond.methodLink RX1 25 yX4_copyFrom, Cond.instanceMethod yX4_copyFrom, Cond.selects RX4 yX4_copyFrom yX4_copyFrom, Cond.initialized RX4]
def wsX6_flush_r2 : List Cond := [Cond.code yX4_copyFrom cX4_copyFrom 2 none, Cond.fieldLink RX4 12 "PartitionedCache$State" "places" "LPartitionedCache$Places;", Cond.fieldLink RX4 21 "PartitionedCache$State" "monitors" "LPartitionedCache$Monitors;", Cond.fieldLink RX4 25 "PartitionedCache$State" "leasts" "[I", Cond.methodLink RX4 46 arraycopyName, Cond.native arraycopyName, Cond.static arraycopyName, Cond.initialized "java/lang/System", Cond.fieldLink RX4 29 "PartitionedCache$State" "counts" "[I", Cond.fieldLink RX4 32 "PartitionedCache$State" "epoch" "I", Cond.fieldLink RX4 36 "PartitionedCache$State" "accesses" "I", Cond.methodLink RX4 39 yX3_copyFrom, Cond.instanceMethod yX3_copyFrom, Cond.selects RX3 yX3_copyFrom yX3_copyFrom, Cond.initialized RX3, Cond.code yX3_copyFrom cX3_copyFrom 2 none, Cond.fieldLink RX3 9 "PartitionedCache$Places" "owners" "[I", Cond.methodLink RX3 21 arraycopyName, Cond.fieldLink RX3 15 "PartitionedCache$Places" "held" "[I", Cond.fieldLink RX3 18 "PartitionedCache$Places" "stamps" "[I", Cond.methodLink RX4 43 yX2_copyFrom, Cond.instanceMethod yX2_copyFrom, Cond.selects RX2 yX2_copyFrom yX2_copyFrom, Cond.initialized RX2]
def wsX6_flush_r3 : List Cond := [Cond.code yX2_copyFrom cX2_copyFrom 2 none, Cond.fieldLink RX2 9 "PartitionedCache$Monitors" "addresses" "[I", Cond.methodLink RX2 18 arraycopyName, Cond.fieldLink RX2 15 "PartitionedCache$Monitors" "gains" "[I", Cond.methodLink RX6 65 yX3_removeLinesOf, Cond.instanceMethod yX3_removeLinesOf, Cond.selects RX3 yX3_removeLinesOf yX3_removeLinesOf, Cond.code yX3_removeLinesOf cX3_removeLinesOf 4 (some .int), Cond.methodLink RX3 35 yX3_holdsLineOf, Cond.instanceMethod yX3_holdsLineOf, Cond.selects RX3 yX3_holdsLineOf yX3_holdsLineOf, Cond.code yX3_holdsLineOf cX3_holdsLineOf 3 (some .boolean)]
def wsX6_flush : List Cond := .code yX6_flush cX6_flush 2 (some .int) :: ((wsX6_flush_r1 ++ (wsX6_flush_r2 ++ wsX6_flush_r3)) ++ wsX60 ++ wsX40 ++ wsX10 ++ wsX30 ++ wsX20 ++ (vx_atS RX6 175 "java/lang/IndexOutOfBoundsException" ["java/lang/RuntimeException", "java/lang/Exception"]).filter goodWord)
def wsX6_moveWay_r1 : List Cond := [Cond.fieldLink RX6 26 "PartitionedCache" "history" "LPartitionedCache$History;", Cond.fieldLink RX6 12 "PartitionedCache" "now" "LPartitionedCache$State;", Cond.methodLink RX6 53 yX1_push, Cond.instanceMethod yX1_push, Cond.selects RX1 yX1_push yX1_push, Cond.initialized RX1, Cond.code yX1_push cX1_push 2 none, Cond.fieldLink RX1 11 "PartitionedCache$History" "ring" "[LPartitionedCache$State;", Cond.fieldLink RX1 17 "PartitionedCache$History" "oldest" "I", Cond.fieldLink RX1 21 "PartitionedCache$History" "size" "I", Cond.methodLink RX1 25 yX4_copyFrom, Cond.instanceMethod yX4_copyFrom, Cond.selects RX4 yX4_copyFrom yX4_copyFrom, Cond.initialized RX4, Cond.code yX4_copyFrom cX4_copyFrom 2 none, Cond.fieldLink RX4 12 "PartitionedCache$State" "places" "LPartitionedCache$Places;", Cond.fieldLink RX4 21 "PartitionedCache$State" "monitors" "LPartitionedCache$Monitors;", Cond.fieldLink RX4 25 "PartitionedCache$State" "leasts" "[I", Cond.methodLink RX4 46 arraycopyName, Cond.native arraycopyName, Cond.static arraycopyName, Cond.initialized "java/lang/System", Cond.fieldLink RX4 29 "PartitionedCache$State" "counts" "[I", Cond.fieldLink RX4 32 "PartitionedCache$State" "epoch" "I"]
def wsX6_moveWay_r2 : List Cond := [Cond.fieldLink RX4 36 "PartitionedCache$State" "accesses" "I", Cond.methodLink RX4 39 yX3_copyFrom, Cond.instanceMethod yX3_copyFrom, Cond.selects RX3 yX3_copyFrom yX3_copyFrom, Cond.initialized RX3, Cond.code yX3_copyFrom cX3_copyFrom 2 none, Cond.fieldLink RX3 9 "PartitionedCache$Places" "owners" "[I", Cond.methodLink RX3 21 arraycopyName, Cond.fieldLink RX3 15 "PartitionedCache$Places" "held" "[I", Cond.fieldLink RX3 18 "PartitionedCache$Places" "stamps" "[I", Cond.methodLink RX4 43 yX2_copyFrom, Cond.instanceMethod yX2_copyFrom, Cond.selects RX2 yX2_copyFrom yX2_copyFrom, Cond.initialized RX2, Cond.code yX2_copyFrom cX2_copyFrom 2 none, Cond.fieldLink RX2 9 "PartitionedCache$Monitors" "addresses" "[I", Cond.methodLink RX2 18 arraycopyName, Cond.fieldLink RX2 15 "PartitionedCache$Monitors" "gains" "[I", Cond.methodLink RX6 71 yX6_moveOneWay, Cond.instanceMethod yX6_moveOneWay, Cond.selects RX6 yX6_moveOneWay yX6_moveOneWay, Cond.initialized RX6, Cond.code yX6_moveOneWay cX6_moveOneWay 4 (some .int), Cond.fieldLink RX6 19 "PartitionedCache" "targets" "LPartitionedCache$Targets;"]
def wsX6_moveWay_r3 : List Cond := [Cond.fieldLink RX6 61 "PartitionedCache$State" "places" "LPartitionedCache$Places;", Cond.fieldLink RX6 79 "PartitionedCache$Places" "owners" "[I", Cond.methodLink RX6 182 yX5_compute, Cond.instanceMethod yX5_compute, Cond.selects RX5 yX5_compute yX5_compute, Cond.initialized RX5, Cond.code yX5_compute cX5_compute 4 none, Cond.fieldLink RX5 9 "PartitionedCache$Targets" "ways" "[I", Cond.fieldLink RX5 15 "PartitionedCache$State" "leasts" "[I", Cond.fieldLink RX5 20 "PartitionedCache$State" "monitors" "LPartitionedCache$Monitors;", Cond.methodLink RX5 24 yX5_growOne, Cond.instanceMethod yX5_growOne, Cond.selects RX5 yX5_growOne yX5_growOne, Cond.code yX5_growOne cX5_growOne 9 (some .int), Cond.fieldLink RX5 28 "PartitionedCache$Monitors" "gains" "[I", Cond.methodLink RX5 33 yX5_lowest, Cond.instanceMethod yX5_lowest, Cond.selects RX5 yX5_lowest yX5_lowest, Cond.code yX5_lowest cX5_lowest 3 (some .int), Cond.methodLink RX6 188 yX6_deficitOf, Cond.instanceMethod yX6_deficitOf, Cond.selects RX6 yX6_deficitOf yX6_deficitOf, Cond.code yX6_deficitOf cX6_deficitOf 2 (some .int), Cond.fieldLink RX6 185 "PartitionedCache$Targets" "ways" "[I"]
def wsX6_moveWay_r4 : List Cond := [Cond.methodLink RX6 144 yX3_ownedWays, Cond.instanceMethod yX3_ownedWays, Cond.selects RX3 yX3_ownedWays yX3_ownedWays, Cond.code yX3_ownedWays cX3_ownedWays 4 (some .int), Cond.methodLink RX6 225 yX3_wayWithFewestLines, Cond.instanceMethod yX3_wayWithFewestLines, Cond.selects RX3 yX3_wayWithFewestLines yX3_wayWithFewestLines, Cond.code yX3_wayWithFewestLines cX3_wayWithFewestLines 5 (some .int), Cond.methodLink RX3 39 yX3_linesInWay, Cond.instanceMethod yX3_linesInWay, Cond.selects RX3 yX3_linesInWay yX3_linesInWay, Cond.code yX3_linesInWay cX3_linesInWay 5 (some .int), Cond.methodLink RX3 35 yX3_holdsLineOf, Cond.instanceMethod yX3_holdsLineOf, Cond.selects RX3 yX3_holdsLineOf yX3_holdsLineOf, Cond.code yX3_holdsLineOf cX3_holdsLineOf 3 (some .boolean)]
def wsX6_moveWay : List Cond := .code yX6_moveWay cX6_moveWay 1 (some .int) :: ((wsX6_moveWay_r1 ++ (wsX6_moveWay_r2 ++ (wsX6_moveWay_r3 ++ wsX6_moveWay_r4))) ++ wsX60 ++ wsX10 ++ wsX40 ++ wsX30 ++ wsX20 ++ wsX50)
def wsX6_giveWay_r1 : List Cond := [Cond.fieldLink RX6 26 "PartitionedCache" "history" "LPartitionedCache$History;", Cond.fieldLink RX6 12 "PartitionedCache" "now" "LPartitionedCache$State;", Cond.fieldLink RX6 61 "PartitionedCache$State" "places" "LPartitionedCache$Places;", Cond.fieldLink RX6 79 "PartitionedCache$Places" "owners" "[I", Cond.methodLink RX6 75 yX6_requireIndex, Cond.static yX6_requireIndex, Cond.initialized RX6, Cond.code yX6_requireIndex cX6_requireIndex 2 none, Cond.classLink RX6 171 "java/lang/IndexOutOfBoundsException", Cond.initialized "java/lang/IndexOutOfBoundsException", Cond.methodLink RX6 45 yX6_requireTenant, Cond.static yX6_requireTenant, Cond.code yX6_requireTenant cX6_requireTenant 1 none, Cond.methodLink RX6 53 yX1_push, Cond.instanceMethod yX1_push, Cond.selects RX1 yX1_push yX1_push, Cond.initialized RX1, Cond.code yX1_push cX1_push 2 none, Cond.fieldLink RX1 11 "PartitionedCache$History" "ring" "[LPartitionedCache$State;", Cond.fieldLink RX1 17 "PartitionedCache$History" "oldest" "I", Cond.fieldLink RX1 21 "PartitionedCache$History" "size" "I", Cond.methodLink RX1 25 yX4_copyFrom, Cond.instanceMethod yX4_copyFrom, Cond.selects RX4 yX4_copyFrom yX4_copyFrom]
def wsX6_giveWay_r2 : List Cond := [Cond.initialized RX4, Cond.code yX4_copyFrom cX4_copyFrom 2 none, Cond.fieldLink RX4 12 "PartitionedCache$State" "places" "LPartitionedCache$Places;", Cond.fieldLink RX4 21 "PartitionedCache$State" "monitors" "LPartitionedCache$Monitors;", Cond.fieldLink RX4 25 "PartitionedCache$State" "leasts" "[I", Cond.methodLink RX4 46 arraycopyName, Cond.native arraycopyName, Cond.static arraycopyName, Cond.initialized "java/lang/System", Cond.fieldLink RX4 29 "PartitionedCache$State" "counts" "[I", Cond.fieldLink RX4 32 "PartitionedCache$State" "epoch" "I", Cond.fieldLink RX4 36 "PartitionedCache$State" "accesses" "I", Cond.methodLink RX4 39 yX3_copyFrom, Cond.instanceMethod yX3_copyFrom, Cond.selects RX3 yX3_copyFrom yX3_copyFrom, Cond.initialized RX3, Cond.code yX3_copyFrom cX3_copyFrom 2 none, Cond.fieldLink RX3 9 "PartitionedCache$Places" "owners" "[I", Cond.methodLink RX3 21 arraycopyName, Cond.fieldLink RX3 15 "PartitionedCache$Places" "held" "[I", Cond.fieldLink RX3 18 "PartitionedCache$Places" "stamps" "[I", Cond.methodLink RX4 43 yX2_copyFrom, Cond.instanceMethod yX2_copyFrom, Cond.selects RX2 yX2_copyFrom yX2_copyFrom]
def wsX6_giveWay_r3 : List Cond := [Cond.initialized RX2, Cond.code yX2_copyFrom cX2_copyFrom 2 none, Cond.fieldLink RX2 9 "PartitionedCache$Monitors" "addresses" "[I", Cond.methodLink RX2 18 arraycopyName, Cond.fieldLink RX2 15 "PartitionedCache$Monitors" "gains" "[I"]
def wsX6_giveWay : List Cond := .code yX6_giveWay cX6_giveWay 4 (some .int) :: ((wsX6_giveWay_r1 ++ (wsX6_giveWay_r2 ++ wsX6_giveWay_r3)) ++ wsX60 ++ wsX40 ++ wsX30 ++ wsX10 ++ wsX20 ++ (vx_atS RX6 175 "java/lang/IndexOutOfBoundsException" ["java/lang/RuntimeException", "java/lang/Exception"]).filter goodWord)
def wsX6_setLeast_r1 : List Cond := [Cond.fieldLink RX6 26 "PartitionedCache" "history" "LPartitionedCache$History;", Cond.fieldLink RX6 12 "PartitionedCache" "now" "LPartitionedCache$State;", Cond.fieldLink RX6 83 "PartitionedCache$State" "leasts" "[I", Cond.methodLink RX6 45 yX6_requireTenant, Cond.static yX6_requireTenant, Cond.initialized RX6, Cond.code yX6_requireTenant cX6_requireTenant 1 none, Cond.methodLink RX6 75 yX6_requireIndex, Cond.static yX6_requireIndex, Cond.code yX6_requireIndex cX6_requireIndex 2 none, Cond.classLink RX6 171 "java/lang/IndexOutOfBoundsException", Cond.initialized "java/lang/IndexOutOfBoundsException", Cond.methodLink RX6 49 yX6_requireArgument, Cond.static yX6_requireArgument, Cond.code yX6_requireArgument cX6_requireArgument 3 none, Cond.classLink RX6 204 "java/lang/IllegalArgumentException", Cond.initialized "java/lang/IllegalArgumentException", Cond.methodLink RX6 53 yX1_push, Cond.instanceMethod yX1_push, Cond.selects RX1 yX1_push yX1_push, Cond.initialized RX1, Cond.code yX1_push cX1_push 2 none, Cond.fieldLink RX1 11 "PartitionedCache$History" "ring" "[LPartitionedCache$State;", Cond.fieldLink RX1 17 "PartitionedCache$History" "oldest" "I"]
def wsX6_setLeast_r2 : List Cond := [Cond.fieldLink RX1 21 "PartitionedCache$History" "size" "I", Cond.methodLink RX1 25 yX4_copyFrom, Cond.instanceMethod yX4_copyFrom, Cond.selects RX4 yX4_copyFrom yX4_copyFrom, Cond.initialized RX4, Cond.code yX4_copyFrom cX4_copyFrom 2 none, Cond.fieldLink RX4 12 "PartitionedCache$State" "places" "LPartitionedCache$Places;", Cond.fieldLink RX4 21 "PartitionedCache$State" "monitors" "LPartitionedCache$Monitors;", Cond.fieldLink RX4 25 "PartitionedCache$State" "leasts" "[I", Cond.methodLink RX4 46 arraycopyName, Cond.native arraycopyName, Cond.static arraycopyName, Cond.initialized "java/lang/System", Cond.fieldLink RX4 29 "PartitionedCache$State" "counts" "[I", Cond.fieldLink RX4 32 "PartitionedCache$State" "epoch" "I", Cond.fieldLink RX4 36 "PartitionedCache$State" "accesses" "I", Cond.methodLink RX4 39 yX3_copyFrom, Cond.instanceMethod yX3_copyFrom, Cond.selects RX3 yX3_copyFrom yX3_copyFrom, Cond.initialized RX3, Cond.code yX3_copyFrom cX3_copyFrom 2 none, Cond.fieldLink RX3 9 "PartitionedCache$Places" "owners" "[I", Cond.methodLink RX3 21 arraycopyName, Cond.fieldLink RX3 15 "PartitionedCache$Places" "held" "[I"]
def wsX6_setLeast_r3 : List Cond := [Cond.fieldLink RX3 18 "PartitionedCache$Places" "stamps" "[I", Cond.methodLink RX4 43 yX2_copyFrom, Cond.instanceMethod yX2_copyFrom, Cond.selects RX2 yX2_copyFrom yX2_copyFrom, Cond.initialized RX2, Cond.code yX2_copyFrom cX2_copyFrom 2 none, Cond.fieldLink RX2 9 "PartitionedCache$Monitors" "addresses" "[I", Cond.methodLink RX2 18 arraycopyName, Cond.fieldLink RX2 15 "PartitionedCache$Monitors" "gains" "[I"]
def wsX6_setLeast : List Cond := .code yX6_setLeast cX6_setLeast 4 (some .int) :: ((wsX6_setLeast_r1 ++ (wsX6_setLeast_r2 ++ wsX6_setLeast_r3)) ++ wsX60 ++ wsX40 ++ wsX10 ++ wsX30 ++ wsX20 ++ (vx_atS RX6 175 "java/lang/IndexOutOfBoundsException" ["java/lang/RuntimeException", "java/lang/Exception"]).filter goodWord ++ (vx_atS RX6 208 "java/lang/IllegalArgumentException" ["java/lang/RuntimeException", "java/lang/Exception"]).filter goodWord)
def wsX6_setEpoch_r1 : List Cond := [Cond.fieldLink RX6 26 "PartitionedCache" "history" "LPartitionedCache$History;", Cond.fieldLink RX6 12 "PartitionedCache" "now" "LPartitionedCache$State;", Cond.fieldLink RX6 86 "PartitionedCache$State" "epoch" "I", Cond.methodLink RX6 49 yX6_requireArgument, Cond.static yX6_requireArgument, Cond.initialized RX6, Cond.code yX6_requireArgument cX6_requireArgument 3 none, Cond.classLink RX6 204 "java/lang/IllegalArgumentException", Cond.initialized "java/lang/IllegalArgumentException", Cond.methodLink RX6 53 yX1_push, Cond.instanceMethod yX1_push, Cond.selects RX1 yX1_push yX1_push, Cond.initialized RX1, Cond.code yX1_push cX1_push 2 none, Cond.fieldLink RX1 11 "PartitionedCache$History" "ring" "[LPartitionedCache$State;", Cond.fieldLink RX1 17 "PartitionedCache$History" "oldest" "I", Cond.fieldLink RX1 21 "PartitionedCache$History" "size" "I", Cond.methodLink RX1 25 yX4_copyFrom, Cond.instanceMethod yX4_copyFrom, Cond.selects RX4 yX4_copyFrom yX4_copyFrom, Cond.initialized RX4, Cond.code yX4_copyFrom cX4_copyFrom 2 none, Cond.fieldLink RX4 12 "PartitionedCache$State" "places" "LPartitionedCache$Places;", Cond.fieldLink RX4 21 "PartitionedCache$State" "monitors" "LPartitionedCache$Monitors;"]
def wsX6_setEpoch_r2 : List Cond := [Cond.fieldLink RX4 25 "PartitionedCache$State" "leasts" "[I", Cond.methodLink RX4 46 arraycopyName, Cond.native arraycopyName, Cond.static arraycopyName, Cond.initialized "java/lang/System", Cond.fieldLink RX4 29 "PartitionedCache$State" "counts" "[I", Cond.fieldLink RX4 32 "PartitionedCache$State" "epoch" "I", Cond.fieldLink RX4 36 "PartitionedCache$State" "accesses" "I", Cond.methodLink RX4 39 yX3_copyFrom, Cond.instanceMethod yX3_copyFrom, Cond.selects RX3 yX3_copyFrom yX3_copyFrom, Cond.initialized RX3, Cond.code yX3_copyFrom cX3_copyFrom 2 none, Cond.fieldLink RX3 9 "PartitionedCache$Places" "owners" "[I", Cond.methodLink RX3 21 arraycopyName, Cond.fieldLink RX3 15 "PartitionedCache$Places" "held" "[I", Cond.fieldLink RX3 18 "PartitionedCache$Places" "stamps" "[I", Cond.methodLink RX4 43 yX2_copyFrom, Cond.instanceMethod yX2_copyFrom, Cond.selects RX2 yX2_copyFrom yX2_copyFrom, Cond.initialized RX2, Cond.code yX2_copyFrom cX2_copyFrom 2 none, Cond.fieldLink RX2 9 "PartitionedCache$Monitors" "addresses" "[I", Cond.methodLink RX2 18 arraycopyName]
def wsX6_setEpoch_r3 : List Cond := [Cond.fieldLink RX2 15 "PartitionedCache$Monitors" "gains" "[I"]
def wsX6_setEpoch : List Cond := .code yX6_setEpoch cX6_setEpoch 3 (some .int) :: ((wsX6_setEpoch_r1 ++ (wsX6_setEpoch_r2 ++ wsX6_setEpoch_r3)) ++ wsX60 ++ wsX40 ++ wsX10 ++ wsX30 ++ wsX20 ++ (vx_atS RX6 208 "java/lang/IllegalArgumentException" ["java/lang/RuntimeException", "java/lang/Exception"]).filter goodWord)
def wsX6_halveGains_r1 : List Cond := [Cond.fieldLink RX6 26 "PartitionedCache" "history" "LPartitionedCache$History;", Cond.fieldLink RX6 12 "PartitionedCache" "now" "LPartitionedCache$State;", Cond.fieldLink RX6 90 "PartitionedCache$State" "monitors" "LPartitionedCache$Monitors;", Cond.methodLink RX6 53 yX1_push, Cond.instanceMethod yX1_push, Cond.selects RX1 yX1_push yX1_push, Cond.initialized RX1, Cond.code yX1_push cX1_push 2 none, Cond.fieldLink RX1 11 "PartitionedCache$History" "ring" "[LPartitionedCache$State;", Cond.fieldLink RX1 17 "PartitionedCache$History" "oldest" "I", Cond.fieldLink RX1 21 "PartitionedCache$History" "size" "I", Cond.methodLink RX1 25 yX4_copyFrom, Cond.instanceMethod yX4_copyFrom, Cond.selects RX4 yX4_copyFrom yX4_copyFrom, Cond.initialized RX4, Cond.code yX4_copyFrom cX4_copyFrom 2 none, Cond.fieldLink RX4 12 "PartitionedCache$State" "places" "LPartitionedCache$Places;", Cond.fieldLink RX4 21 "PartitionedCache$State" "monitors" "LPartitionedCache$Monitors;", Cond.fieldLink RX4 25 "PartitionedCache$State" "leasts" "[I", Cond.methodLink RX4 46 arraycopyName, Cond.native arraycopyName, Cond.static arraycopyName, Cond.initialized "java/lang/System", Cond.fieldLink RX4 29 "PartitionedCache$State" "counts" "[I"]
def wsX6_halveGains_r2 : List Cond := [Cond.fieldLink RX4 32 "PartitionedCache$State" "epoch" "I", Cond.fieldLink RX4 36 "PartitionedCache$State" "accesses" "I", Cond.methodLink RX4 39 yX3_copyFrom, Cond.instanceMethod yX3_copyFrom, Cond.selects RX3 yX3_copyFrom yX3_copyFrom, Cond.initialized RX3, Cond.code yX3_copyFrom cX3_copyFrom 2 none, Cond.fieldLink RX3 9 "PartitionedCache$Places" "owners" "[I", Cond.methodLink RX3 21 arraycopyName, Cond.fieldLink RX3 15 "PartitionedCache$Places" "held" "[I", Cond.fieldLink RX3 18 "PartitionedCache$Places" "stamps" "[I", Cond.methodLink RX4 43 yX2_copyFrom, Cond.instanceMethod yX2_copyFrom, Cond.selects RX2 yX2_copyFrom yX2_copyFrom, Cond.initialized RX2, Cond.code yX2_copyFrom cX2_copyFrom 2 none, Cond.fieldLink RX2 9 "PartitionedCache$Monitors" "addresses" "[I", Cond.methodLink RX2 18 arraycopyName, Cond.fieldLink RX2 15 "PartitionedCache$Monitors" "gains" "[I", Cond.methodLink RX6 94 yX2_halve, Cond.instanceMethod yX2_halve, Cond.selects RX2 yX2_halve yX2_halve, Cond.code yX2_halve cX2_halve 2 none, Cond.methodLink RX6 99 yX2_sumOfGains]
def wsX6_halveGains_r3 : List Cond := [Cond.instanceMethod yX2_sumOfGains, Cond.selects RX2 yX2_sumOfGains yX2_sumOfGains, Cond.code yX2_sumOfGains cX2_sumOfGains 3 (some .int)]
def wsX6_halveGains : List Cond := .code yX6_halveGains cX6_halveGains 1 (some .int) :: ((wsX6_halveGains_r1 ++ (wsX6_halveGains_r2 ++ wsX6_halveGains_r3)) ++ wsX60 ++ wsX40 ++ wsX10 ++ wsX30 ++ wsX20)
def wsX6_appendText : List Cond := .code yX6_appendText cX6_appendText 2 (some .int) :: ([.classLink RX6 105 "java/lang/IllegalStateException", .initialized "java/lang/IllegalStateException", .fieldLink RX6 33 "PartitionedCache" "text" "LPartitionedCache$CommandText;", .fieldLink RX6 102 "PartitionedCache$CommandText" "length" "I", .methodLink RX6 49 yX6_requireArgument, .static yX6_requireArgument, .initialized RX6, .code yX6_requireArgument cX6_requireArgument 3 none, .classLink RX6 204 "java/lang/IllegalArgumentException", .initialized "java/lang/IllegalArgumentException", .methodLink RX6 112 yX0_append, .instanceMethod yX0_append, .selects RX0 yX0_append yX0_append, .initialized RX0, .code yX0_append cX0_append 2 none, .fieldLink RX0 15 "PartitionedCache$CommandText" "length" "I", .fieldLink RX0 9 "PartitionedCache$CommandText" "signs" "[C"] ++ wsX60 ++ wsX00 ++ (vx_atS RX6 109 "java/lang/IllegalStateException" ["java/lang/RuntimeException", "java/lang/Exception"]).filter goodWord ++ (vx_atS RX6 208 "java/lang/IllegalArgumentException" ["java/lang/RuntimeException", "java/lang/Exception"]).filter goodWord)
def wsX6_clearText : List Cond := .code yX6_clearText cX6_clearText 2 (some .int) :: ([.fieldLink RX6 33 "PartitionedCache" "text" "LPartitionedCache$CommandText;", .fieldLink RX6 102 "PartitionedCache$CommandText" "length" "I"] ++ wsX60 ++ wsX00)
def wsX6_errorPosition_r1 : List Cond := [Cond.fieldLink RX6 33 "PartitionedCache" "text" "LPartitionedCache$CommandText;", Cond.methodLink RX6 116 yX0_firstError, Cond.instanceMethod yX0_firstError, Cond.selects RX0 yX0_firstError yX0_firstError, Cond.initialized RX0, Cond.code yX0_firstError cX0_firstError 6 (some .int), Cond.fieldLink RX0 15 "PartitionedCache$CommandText" "length" "I", Cond.methodLink RX0 19 yX0_signAt, Cond.instanceMethod yX0_signAt, Cond.selects RX0 yX0_signAt yX0_signAt, Cond.code yX0_signAt cX0_signAt 2 (some .int), Cond.fieldLink RX0 9 "PartitionedCache$CommandText" "signs" "[C", Cond.methodLink RX0 27 yX0_stageAfter, Cond.static yX0_stageAfter, Cond.code yX0_stageAfter cX0_stageAfter 3 (some .int), Cond.methodLink RX0 31 yX0_stageAfterFirst, Cond.static yX0_stageAfterFirst, Cond.code yX0_stageAfterFirst cX0_stageAfterFirst 1 (some .int), Cond.methodLink RX0 38 yX0_isTenantDigit, Cond.static yX0_isTenantDigit, Cond.code yX0_isTenantDigit cX0_isTenantDigit 1 (some .boolean), Cond.methodLink RX0 23 yX0_isDigit, Cond.static yX0_isDigit, Cond.code yX0_isDigit cX0_isDigit 1 (some .boolean)]
def wsX6_errorPosition_r2 : List Cond := [Cond.methodLink RX0 34 yX0_mayGoOn, Cond.static yX0_mayGoOn, Cond.code yX0_mayGoOn cX0_mayGoOn 2 (some .boolean)]
def wsX6_errorPosition : List Cond := .code yX6_errorPosition cX6_errorPosition 1 (some .int) :: ((wsX6_errorPosition_r1 ++ wsX6_errorPosition_r2) ++ wsX60 ++ wsX00)
def wsX6_runCommand_r1 : List Cond := [Cond.fieldLink RX6 33 "PartitionedCache" "text" "LPartitionedCache$CommandText;", Cond.fieldLink RX6 12 "PartitionedCache" "now" "LPartitionedCache$State;", Cond.fieldLink RX6 90 "PartitionedCache$State" "monitors" "LPartitionedCache$Monitors;", Cond.fieldLink RX6 61 "PartitionedCache$State" "places" "LPartitionedCache$Places;", Cond.methodLink RX6 228 yX0_signAt, Cond.instanceMethod yX0_signAt, Cond.selects RX0 yX0_signAt yX0_signAt, Cond.initialized RX0, Cond.code yX0_signAt cX0_signAt 2 (some .int), Cond.fieldLink RX0 15 "PartitionedCache$CommandText" "length" "I", Cond.fieldLink RX0 9 "PartitionedCache$CommandText" "signs" "[C", Cond.methodLink RX6 71 yX6_moveOneWay, Cond.instanceMethod yX6_moveOneWay, Cond.selects RX6 yX6_moveOneWay yX6_moveOneWay, Cond.initialized RX6, Cond.code yX6_moveOneWay cX6_moveOneWay 4 (some .int), Cond.fieldLink RX6 19 "PartitionedCache" "targets" "LPartitionedCache$Targets;", Cond.fieldLink RX6 79 "PartitionedCache$Places" "owners" "[I", Cond.methodLink RX6 182 yX5_compute, Cond.instanceMethod yX5_compute, Cond.selects RX5 yX5_compute yX5_compute, Cond.initialized RX5, Cond.code yX5_compute cX5_compute 4 none, Cond.fieldLink RX5 9 "PartitionedCache$Targets" "ways" "[I"]
def wsX6_runCommand_r2 : List Cond := [Cond.fieldLink RX5 15 "PartitionedCache$State" "leasts" "[I", Cond.fieldLink RX5 20 "PartitionedCache$State" "monitors" "LPartitionedCache$Monitors;", Cond.methodLink RX5 24 yX5_growOne, Cond.instanceMethod yX5_growOne, Cond.selects RX5 yX5_growOne yX5_growOne, Cond.code yX5_growOne cX5_growOne 9 (some .int), Cond.fieldLink RX5 28 "PartitionedCache$Monitors" "gains" "[I", Cond.methodLink RX5 33 yX5_lowest, Cond.instanceMethod yX5_lowest, Cond.selects RX5 yX5_lowest yX5_lowest, Cond.code yX5_lowest cX5_lowest 3 (some .int), Cond.methodLink RX6 188 yX6_deficitOf, Cond.instanceMethod yX6_deficitOf, Cond.selects RX6 yX6_deficitOf yX6_deficitOf, Cond.code yX6_deficitOf cX6_deficitOf 2 (some .int), Cond.fieldLink RX6 185 "PartitionedCache$Targets" "ways" "[I", Cond.methodLink RX6 144 yX3_ownedWays, Cond.instanceMethod yX3_ownedWays, Cond.selects RX3 yX3_ownedWays yX3_ownedWays, Cond.initialized RX3, Cond.code yX3_ownedWays cX3_ownedWays 4 (some .int), Cond.fieldLink RX3 9 "PartitionedCache$Places" "owners" "[I", Cond.methodLink RX6 225 yX3_wayWithFewestLines, Cond.instanceMethod yX3_wayWithFewestLines]
def wsX6_runCommand_r3 : List Cond := [Cond.selects RX3 yX3_wayWithFewestLines yX3_wayWithFewestLines, Cond.code yX3_wayWithFewestLines cX3_wayWithFewestLines 5 (some .int), Cond.methodLink RX3 39 yX3_linesInWay, Cond.instanceMethod yX3_linesInWay, Cond.selects RX3 yX3_linesInWay yX3_linesInWay, Cond.code yX3_linesInWay cX3_linesInWay 5 (some .int), Cond.methodLink RX3 35 yX3_holdsLineOf, Cond.instanceMethod yX3_holdsLineOf, Cond.selects RX3 yX3_holdsLineOf yX3_holdsLineOf, Cond.code yX3_holdsLineOf cX3_holdsLineOf 3 (some .boolean), Cond.fieldLink RX3 15 "PartitionedCache$Places" "held" "[I", Cond.methodLink RX6 94 yX2_halve, Cond.instanceMethod yX2_halve, Cond.selects RX2 yX2_halve yX2_halve, Cond.initialized RX2, Cond.code yX2_halve cX2_halve 2 none, Cond.fieldLink RX2 15 "PartitionedCache$Monitors" "gains" "[I", Cond.methodLink RX6 65 yX3_removeLinesOf, Cond.instanceMethod yX3_removeLinesOf, Cond.selects RX3 yX3_removeLinesOf yX3_removeLinesOf, Cond.code yX3_removeLinesOf cX3_removeLinesOf 4 (some .int), Cond.methodLink RX6 231 yX0_numberAt, Cond.instanceMethod yX0_numberAt, Cond.selects RX0 yX0_numberAt yX0_numberAt]
def wsX6_runCommand_r4 : List Cond := [Cond.code yX0_numberAt cX0_numberAt 4 (some .int), Cond.methodLink RX0 19 yX0_signAt, Cond.methodLink RX0 23 yX0_isDigit, Cond.static yX0_isDigit, Cond.code yX0_isDigit cX0_isDigit 1 (some .boolean), Cond.methodLink RX6 57 yX6_makeAccess, Cond.instanceMethod yX6_makeAccess, Cond.selects RX6 yX6_makeAccess yX6_makeAccess, Cond.code yX6_makeAccess cX6_makeAccess 4 (some .int), Cond.fieldLink RX6 199 "PartitionedCache$State" "accesses" "I", Cond.fieldLink RX6 196 "PartitionedCache$State" "counts" "[I", Cond.fieldLink RX6 86 "PartitionedCache$State" "epoch" "I", Cond.methodLink RX6 209 yX2_note, Cond.instanceMethod yX2_note, Cond.selects RX2 yX2_note yX2_note, Cond.code yX2_note cX2_note 7 none, Cond.fieldLink RX2 9 "PartitionedCache$Monitors" "addresses" "[I", Cond.static yX6_isSampled, Cond.code yX6_isSampled cX6_isSampled 1 (some .boolean), Cond.static yX6_listStart, Cond.code yX6_listStart cX6_listStart 2 (some .int), Cond.methodLink RX6 156 yX3_resultOf, Cond.instanceMethod yX3_resultOf, Cond.selects RX3 yX3_resultOf yX3_resultOf]
def wsX6_runCommand_r5 : List Cond := [Cond.code yX3_resultOf cX3_resultOf 3 (some .int), Cond.methodLink RX3 27 yX3_placeOf, Cond.instanceMethod yX3_placeOf, Cond.selects RX3 yX3_placeOf yX3_placeOf, Cond.code yX3_placeOf cX3_placeOf 5 (some .int), Cond.methodLink RX3 31 yX3_ownedWays, Cond.methodLink RX6 212 yX3_renew, Cond.instanceMethod yX3_renew, Cond.selects RX3 yX3_renew yX3_renew, Cond.code yX3_renew cX3_renew 5 none, Cond.fieldLink RX3 18 "PartitionedCache$Places" "stamps" "[I", Cond.methodLink RX6 215 yX6_bringIn, Cond.instanceMethod yX6_bringIn, Cond.selects RX6 yX6_bringIn yX6_bringIn, Cond.code yX6_bringIn cX6_bringIn 5 none, Cond.fieldLink RX6 147 "PartitionedCache$Places" "held" "[I", Cond.fieldLink RX6 222 "PartitionedCache$Places" "stamps" "[I", Cond.methodLink RX6 159 yX3_placeToFill, Cond.instanceMethod yX3_placeToFill, Cond.selects RX3 yX3_placeToFill yX3_placeToFill, Cond.code yX3_placeToFill cX3_placeToFill 7 (some .int), Cond.methodLink RX6 218 yX3_holdsLineOf]
def wsX6_runCommand : List Cond := .code yX6_runCommand cX6_runCommand 5 (some .int) :: ((wsX6_runCommand_r1 ++ (wsX6_runCommand_r2 ++ (wsX6_runCommand_r3 ++ (wsX6_runCommand_r4 ++ wsX6_runCommand_r5)))) ++ wsX60 ++ wsX40 ++ wsX00 ++ wsX30 ++ wsX50 ++ wsX20)
def wsX6_runText_r1 : List Cond := [Cond.classLink RX6 105 "java/lang/IllegalStateException", Cond.initialized "java/lang/IllegalStateException", Cond.fieldLink RX6 33 "PartitionedCache" "text" "LPartitionedCache$CommandText;", Cond.fieldLink RX6 26 "PartitionedCache" "history" "LPartitionedCache$History;", Cond.fieldLink RX6 12 "PartitionedCache" "now" "LPartitionedCache$State;", Cond.fieldLink RX6 102 "PartitionedCache$CommandText" "length" "I", Cond.methodLink RX6 116 yX0_firstError, Cond.instanceMethod yX0_firstError, Cond.selects RX0 yX0_firstError yX0_firstError, Cond.initialized RX0, Cond.code yX0_firstError cX0_firstError 6 (some .int), Cond.fieldLink RX0 15 "PartitionedCache$CommandText" "length" "I", Cond.methodLink RX0 19 yX0_signAt, Cond.instanceMethod yX0_signAt, Cond.selects RX0 yX0_signAt yX0_signAt, Cond.code yX0_signAt cX0_signAt 2 (some .int), Cond.fieldLink RX0 9 "PartitionedCache$CommandText" "signs" "[C", Cond.methodLink RX0 27 yX0_stageAfter, Cond.static yX0_stageAfter, Cond.code yX0_stageAfter cX0_stageAfter 3 (some .int), Cond.methodLink RX0 31 yX0_stageAfterFirst, Cond.static yX0_stageAfterFirst, Cond.code yX0_stageAfterFirst cX0_stageAfterFirst 1 (some .int), Cond.methodLink RX0 38 yX0_isTenantDigit]
def wsX6_runText_r2 : List Cond := [Cond.static yX0_isTenantDigit, Cond.code yX0_isTenantDigit cX0_isTenantDigit 1 (some .boolean), Cond.methodLink RX0 23 yX0_isDigit, Cond.static yX0_isDigit, Cond.code yX0_isDigit cX0_isDigit 1 (some .boolean), Cond.methodLink RX0 34 yX0_mayGoOn, Cond.static yX0_mayGoOn, Cond.code yX0_mayGoOn cX0_mayGoOn 2 (some .boolean), Cond.methodLink RX6 53 yX1_push, Cond.instanceMethod yX1_push, Cond.selects RX1 yX1_push yX1_push, Cond.initialized RX1, Cond.code yX1_push cX1_push 2 none, Cond.fieldLink RX1 11 "PartitionedCache$History" "ring" "[LPartitionedCache$State;", Cond.fieldLink RX1 17 "PartitionedCache$History" "oldest" "I", Cond.fieldLink RX1 21 "PartitionedCache$History" "size" "I", Cond.methodLink RX1 25 yX4_copyFrom, Cond.instanceMethod yX4_copyFrom, Cond.selects RX4 yX4_copyFrom yX4_copyFrom, Cond.initialized RX4, Cond.code yX4_copyFrom cX4_copyFrom 2 none, Cond.fieldLink RX4 12 "PartitionedCache$State" "places" "LPartitionedCache$Places;", Cond.fieldLink RX4 21 "PartitionedCache$State" "monitors" "LPartitionedCache$Monitors;", Cond.fieldLink RX4 25 "PartitionedCache$State" "leasts" "[I"]
def wsX6_runText_r3 : List Cond := [Cond.methodLink RX4 46 arraycopyName, Cond.native arraycopyName, Cond.static arraycopyName, Cond.initialized "java/lang/System", Cond.fieldLink RX4 29 "PartitionedCache$State" "counts" "[I", Cond.fieldLink RX4 32 "PartitionedCache$State" "epoch" "I", Cond.fieldLink RX4 36 "PartitionedCache$State" "accesses" "I", Cond.methodLink RX4 39 yX3_copyFrom, Cond.instanceMethod yX3_copyFrom, Cond.selects RX3 yX3_copyFrom yX3_copyFrom, Cond.initialized RX3, Cond.code yX3_copyFrom cX3_copyFrom 2 none, Cond.fieldLink RX3 9 "PartitionedCache$Places" "owners" "[I", Cond.methodLink RX3 21 arraycopyName, Cond.fieldLink RX3 15 "PartitionedCache$Places" "held" "[I", Cond.fieldLink RX3 18 "PartitionedCache$Places" "stamps" "[I", Cond.methodLink RX4 43 yX2_copyFrom, Cond.instanceMethod yX2_copyFrom, Cond.selects RX2 yX2_copyFrom yX2_copyFrom, Cond.initialized RX2, Cond.code yX2_copyFrom cX2_copyFrom 2 none, Cond.fieldLink RX2 9 "PartitionedCache$Monitors" "addresses" "[I", Cond.methodLink RX2 18 arraycopyName, Cond.fieldLink RX2 15 "PartitionedCache$Monitors" "gains" "[I"]
def wsX6_runText_r4 : List Cond := [Cond.methodLink RX6 121 yX0_commandBeginsAt, Cond.instanceMethod yX0_commandBeginsAt, Cond.selects RX0 yX0_commandBeginsAt yX0_commandBeginsAt, Cond.code yX0_commandBeginsAt cX0_commandBeginsAt 2 (some .boolean), Cond.methodLink RX6 125 yX6_runCommand, Cond.instanceMethod yX6_runCommand, Cond.selects RX6 yX6_runCommand yX6_runCommand, Cond.initialized RX6, Cond.code yX6_runCommand cX6_runCommand 5 (some .int), Cond.fieldLink RX6 90 "PartitionedCache$State" "monitors" "LPartitionedCache$Monitors;", Cond.fieldLink RX6 61 "PartitionedCache$State" "places" "LPartitionedCache$Places;", Cond.methodLink RX6 228 yX0_signAt, Cond.methodLink RX6 71 yX6_moveOneWay, Cond.instanceMethod yX6_moveOneWay, Cond.selects RX6 yX6_moveOneWay yX6_moveOneWay, Cond.code yX6_moveOneWay cX6_moveOneWay 4 (some .int), Cond.fieldLink RX6 19 "PartitionedCache" "targets" "LPartitionedCache$Targets;", Cond.fieldLink RX6 79 "PartitionedCache$Places" "owners" "[I", Cond.methodLink RX6 182 yX5_compute, Cond.instanceMethod yX5_compute, Cond.selects RX5 yX5_compute yX5_compute, Cond.initialized RX5, Cond.code yX5_compute cX5_compute 4 none, Cond.fieldLink RX5 9 "PartitionedCache$Targets" "ways" "[I"]
def wsX6_runText_r5 : List Cond := [Cond.fieldLink RX5 15 "PartitionedCache$State" "leasts" "[I", Cond.fieldLink RX5 20 "PartitionedCache$State" "monitors" "LPartitionedCache$Monitors;", Cond.methodLink RX5 24 yX5_growOne, Cond.instanceMethod yX5_growOne, Cond.selects RX5 yX5_growOne yX5_growOne, Cond.code yX5_growOne cX5_growOne 9 (some .int), Cond.fieldLink RX5 28 "PartitionedCache$Monitors" "gains" "[I", Cond.methodLink RX5 33 yX5_lowest, Cond.instanceMethod yX5_lowest, Cond.selects RX5 yX5_lowest yX5_lowest, Cond.code yX5_lowest cX5_lowest 3 (some .int), Cond.methodLink RX6 188 yX6_deficitOf, Cond.instanceMethod yX6_deficitOf, Cond.selects RX6 yX6_deficitOf yX6_deficitOf, Cond.code yX6_deficitOf cX6_deficitOf 2 (some .int), Cond.fieldLink RX6 185 "PartitionedCache$Targets" "ways" "[I", Cond.methodLink RX6 144 yX3_ownedWays, Cond.instanceMethod yX3_ownedWays, Cond.selects RX3 yX3_ownedWays yX3_ownedWays, Cond.code yX3_ownedWays cX3_ownedWays 4 (some .int), Cond.methodLink RX6 225 yX3_wayWithFewestLines, Cond.instanceMethod yX3_wayWithFewestLines, Cond.selects RX3 yX3_wayWithFewestLines yX3_wayWithFewestLines, Cond.code yX3_wayWithFewestLines cX3_wayWithFewestLines 5 (some .int)]
def wsX6_runText_r6 : List Cond := [Cond.methodLink RX3 39 yX3_linesInWay, Cond.instanceMethod yX3_linesInWay, Cond.selects RX3 yX3_linesInWay yX3_linesInWay, Cond.code yX3_linesInWay cX3_linesInWay 5 (some .int), Cond.methodLink RX3 35 yX3_holdsLineOf, Cond.instanceMethod yX3_holdsLineOf, Cond.selects RX3 yX3_holdsLineOf yX3_holdsLineOf, Cond.code yX3_holdsLineOf cX3_holdsLineOf 3 (some .boolean), Cond.methodLink RX6 94 yX2_halve, Cond.instanceMethod yX2_halve, Cond.selects RX2 yX2_halve yX2_halve, Cond.code yX2_halve cX2_halve 2 none, Cond.methodLink RX6 65 yX3_removeLinesOf, Cond.instanceMethod yX3_removeLinesOf, Cond.selects RX3 yX3_removeLinesOf yX3_removeLinesOf, Cond.code yX3_removeLinesOf cX3_removeLinesOf 4 (some .int), Cond.methodLink RX6 231 yX0_numberAt, Cond.instanceMethod yX0_numberAt, Cond.selects RX0 yX0_numberAt yX0_numberAt, Cond.code yX0_numberAt cX0_numberAt 4 (some .int), Cond.methodLink RX6 57 yX6_makeAccess, Cond.instanceMethod yX6_makeAccess, Cond.selects RX6 yX6_makeAccess yX6_makeAccess, Cond.code yX6_makeAccess cX6_makeAccess 4 (some .int)]
def wsX6_runText_r7 : List Cond := [Cond.fieldLink RX6 199 "PartitionedCache$State" "accesses" "I", Cond.fieldLink RX6 196 "PartitionedCache$State" "counts" "[I", Cond.fieldLink RX6 86 "PartitionedCache$State" "epoch" "I", Cond.methodLink RX6 209 yX2_note, Cond.instanceMethod yX2_note, Cond.selects RX2 yX2_note yX2_note, Cond.code yX2_note cX2_note 7 none, Cond.static yX6_isSampled, Cond.code yX6_isSampled cX6_isSampled 1 (some .boolean), Cond.static yX6_listStart, Cond.code yX6_listStart cX6_listStart 2 (some .int), Cond.methodLink RX6 156 yX3_resultOf, Cond.instanceMethod yX3_resultOf, Cond.selects RX3 yX3_resultOf yX3_resultOf, Cond.code yX3_resultOf cX3_resultOf 3 (some .int), Cond.methodLink RX3 27 yX3_placeOf, Cond.instanceMethod yX3_placeOf, Cond.selects RX3 yX3_placeOf yX3_placeOf, Cond.code yX3_placeOf cX3_placeOf 5 (some .int), Cond.methodLink RX3 31 yX3_ownedWays, Cond.methodLink RX6 212 yX3_renew, Cond.instanceMethod yX3_renew, Cond.selects RX3 yX3_renew yX3_renew, Cond.code yX3_renew cX3_renew 5 none]
def wsX6_runText_r8 : List Cond := [Cond.methodLink RX6 215 yX6_bringIn, Cond.instanceMethod yX6_bringIn, Cond.selects RX6 yX6_bringIn yX6_bringIn, Cond.code yX6_bringIn cX6_bringIn 5 none, Cond.fieldLink RX6 147 "PartitionedCache$Places" "held" "[I", Cond.fieldLink RX6 222 "PartitionedCache$Places" "stamps" "[I", Cond.methodLink RX6 159 yX3_placeToFill, Cond.instanceMethod yX3_placeToFill, Cond.selects RX3 yX3_placeToFill yX3_placeToFill, Cond.code yX3_placeToFill cX3_placeToFill 7 (some .int), Cond.methodLink RX6 218 yX3_holdsLineOf]
def wsX6_runText : List Cond := .code yX6_runText cX6_runText 3 (some .int) :: ((wsX6_runText_r1 ++ (wsX6_runText_r2 ++ (wsX6_runText_r3 ++ (wsX6_runText_r4 ++ (wsX6_runText_r5 ++ (wsX6_runText_r6 ++ (wsX6_runText_r7 ++ wsX6_runText_r8))))))) ++ wsX60 ++ wsX00 ++ wsX10 ++ wsX40 ++ wsX30 ++ wsX20 ++ wsX50 ++ (vx_atS RX6 109 "java/lang/IllegalStateException" ["java/lang/RuntimeException", "java/lang/Exception"]).filter goodWord)
def wsX6_undo_r1 : List Cond := [Cond.classLink RX6 105 "java/lang/IllegalStateException", Cond.initialized "java/lang/IllegalStateException", Cond.fieldLink RX6 26 "PartitionedCache" "history" "LPartitionedCache$History;", Cond.fieldLink RX6 128 "PartitionedCache$History" "size" "I", Cond.fieldLink RX6 12 "PartitionedCache" "now" "LPartitionedCache$State;", Cond.methodLink RX6 133 yX1_popInto, Cond.instanceMethod yX1_popInto, Cond.selects RX1 yX1_popInto yX1_popInto, Cond.initialized RX1, Cond.code yX1_popInto cX1_popInto 2 none, Cond.fieldLink RX1 21 "PartitionedCache$History" "size" "I", Cond.fieldLink RX1 11 "PartitionedCache$History" "ring" "[LPartitionedCache$State;", Cond.fieldLink RX1 17 "PartitionedCache$History" "oldest" "I", Cond.methodLink RX1 25 yX4_copyFrom, Cond.instanceMethod yX4_copyFrom, Cond.selects RX4 yX4_copyFrom yX4_copyFrom, Cond.initialized RX4, Cond.code yX4_copyFrom cX4_copyFrom 2 none, Cond.fieldLink RX4 12 "PartitionedCache$State" "places" "LPartitionedCache$Places;", Cond.fieldLink RX4 21 "PartitionedCache$State" "monitors" "LPartitionedCache$Monitors;", Cond.fieldLink RX4 25 "PartitionedCache$State" "leasts" "[I", Cond.methodLink RX4 46 arraycopyName, Cond.native arraycopyName, Cond.static arraycopyName]
def wsX6_undo_r2 : List Cond := [Cond.initialized "java/lang/System", Cond.fieldLink RX4 29 "PartitionedCache$State" "counts" "[I", Cond.fieldLink RX4 32 "PartitionedCache$State" "epoch" "I", Cond.fieldLink RX4 36 "PartitionedCache$State" "accesses" "I", Cond.methodLink RX4 39 yX3_copyFrom, Cond.instanceMethod yX3_copyFrom, Cond.selects RX3 yX3_copyFrom yX3_copyFrom, Cond.initialized RX3, Cond.code yX3_copyFrom cX3_copyFrom 2 none, Cond.fieldLink RX3 9 "PartitionedCache$Places" "owners" "[I", Cond.methodLink RX3 21 arraycopyName, Cond.fieldLink RX3 15 "PartitionedCache$Places" "held" "[I", Cond.fieldLink RX3 18 "PartitionedCache$Places" "stamps" "[I", Cond.methodLink RX4 43 yX2_copyFrom, Cond.instanceMethod yX2_copyFrom, Cond.selects RX2 yX2_copyFrom yX2_copyFrom, Cond.initialized RX2, Cond.code yX2_copyFrom cX2_copyFrom 2 none, Cond.fieldLink RX2 9 "PartitionedCache$Monitors" "addresses" "[I", Cond.methodLink RX2 18 arraycopyName, Cond.fieldLink RX2 15 "PartitionedCache$Monitors" "gains" "[I"]
def wsX6_undo : List Cond := .code yX6_undo cX6_undo 1 (some .int) :: ((wsX6_undo_r1 ++ wsX6_undo_r2) ++ wsX60 ++ wsX10 ++ wsX40 ++ wsX30 ++ wsX20 ++ (vx_atS RX6 109 "java/lang/IllegalStateException" ["java/lang/RuntimeException", "java/lang/Exception"]).filter goodWord)
def wsX6_save_r1 : List Cond := [Cond.fieldLink RX6 37 "PartitionedCache" "slots" "[LPartitionedCache$State;", Cond.fieldLink RX6 12 "PartitionedCache" "now" "LPartitionedCache$State;", Cond.fieldLink RX6 41 "PartitionedCache" "slotFilled" "[Z", Cond.fieldLink RX6 61 "PartitionedCache$State" "places" "LPartitionedCache$Places;", Cond.methodLink RX6 75 yX6_requireIndex, Cond.static yX6_requireIndex, Cond.initialized RX6, Cond.code yX6_requireIndex cX6_requireIndex 2 none, Cond.classLink RX6 171 "java/lang/IndexOutOfBoundsException", Cond.initialized "java/lang/IndexOutOfBoundsException", Cond.methodLink RX6 136 yX4_copyFrom, Cond.instanceMethod yX4_copyFrom, Cond.selects RX4 yX4_copyFrom yX4_copyFrom, Cond.initialized RX4, Cond.code yX4_copyFrom cX4_copyFrom 2 none, Cond.fieldLink RX4 12 "PartitionedCache$State" "places" "LPartitionedCache$Places;", Cond.fieldLink RX4 21 "PartitionedCache$State" "monitors" "LPartitionedCache$Monitors;", Cond.fieldLink RX4 25 "PartitionedCache$State" "leasts" "[I", Cond.methodLink RX4 46 arraycopyName, Cond.native arraycopyName, Cond.static arraycopyName, Cond.initialized "java/lang/System", Cond.fieldLink RX4 29 "PartitionedCache$State" "counts" "[I", Cond.fieldLink RX4 32 "PartitionedCache$State" "epoch" "I"]
def wsX6_save_r2 : List Cond := [Cond.fieldLink RX4 36 "PartitionedCache$State" "accesses" "I", Cond.methodLink RX4 39 yX3_copyFrom, Cond.instanceMethod yX3_copyFrom, Cond.selects RX3 yX3_copyFrom yX3_copyFrom, Cond.initialized RX3, Cond.code yX3_copyFrom cX3_copyFrom 2 none, Cond.fieldLink RX3 9 "PartitionedCache$Places" "owners" "[I", Cond.methodLink RX3 21 arraycopyName, Cond.fieldLink RX3 15 "PartitionedCache$Places" "held" "[I", Cond.fieldLink RX3 18 "PartitionedCache$Places" "stamps" "[I", Cond.methodLink RX4 43 yX2_copyFrom, Cond.instanceMethod yX2_copyFrom, Cond.selects RX2 yX2_copyFrom yX2_copyFrom, Cond.initialized RX2, Cond.code yX2_copyFrom cX2_copyFrom 2 none, Cond.fieldLink RX2 9 "PartitionedCache$Monitors" "addresses" "[I", Cond.methodLink RX2 18 arraycopyName, Cond.fieldLink RX2 15 "PartitionedCache$Monitors" "gains" "[I", Cond.methodLink RX6 139 yX3_allLines, Cond.instanceMethod yX3_allLines, Cond.selects RX3 yX3_allLines yX3_allLines, Cond.code yX3_allLines cX3_allLines 3 (some .int), Cond.methodLink RX3 42 yX3_linesOf, Cond.instanceMethod yX3_linesOf]
def wsX6_save_r3 : List Cond := [Cond.selects RX3 yX3_linesOf yX3_linesOf, Cond.code yX3_linesOf cX3_linesOf 4 (some .int), Cond.methodLink RX3 39 yX3_linesInWay, Cond.instanceMethod yX3_linesInWay, Cond.selects RX3 yX3_linesInWay yX3_linesInWay, Cond.code yX3_linesInWay cX3_linesInWay 5 (some .int), Cond.methodLink RX3 35 yX3_holdsLineOf, Cond.instanceMethod yX3_holdsLineOf, Cond.selects RX3 yX3_holdsLineOf yX3_holdsLineOf, Cond.code yX3_holdsLineOf cX3_holdsLineOf 3 (some .boolean)]
def wsX6_save : List Cond := .code yX6_save cX6_save 2 (some .int) :: ((wsX6_save_r1 ++ (wsX6_save_r2 ++ wsX6_save_r3)) ++ wsX60 ++ wsX40 ++ wsX30 ++ wsX20 ++ (vx_atS RX6 175 "java/lang/IndexOutOfBoundsException" ["java/lang/RuntimeException", "java/lang/Exception"]).filter goodWord)
def wsX6_restore_r1 : List Cond := [Cond.classLink RX6 105 "java/lang/IllegalStateException", Cond.initialized "java/lang/IllegalStateException", Cond.fieldLink RX6 41 "PartitionedCache" "slotFilled" "[Z", Cond.fieldLink RX6 26 "PartitionedCache" "history" "LPartitionedCache$History;", Cond.fieldLink RX6 12 "PartitionedCache" "now" "LPartitionedCache$State;", Cond.fieldLink RX6 37 "PartitionedCache" "slots" "[LPartitionedCache$State;", Cond.fieldLink RX6 61 "PartitionedCache$State" "places" "LPartitionedCache$Places;", Cond.methodLink RX6 75 yX6_requireIndex, Cond.static yX6_requireIndex, Cond.initialized RX6, Cond.code yX6_requireIndex cX6_requireIndex 2 none, Cond.classLink RX6 171 "java/lang/IndexOutOfBoundsException", Cond.initialized "java/lang/IndexOutOfBoundsException", Cond.methodLink RX6 53 yX1_push, Cond.instanceMethod yX1_push, Cond.selects RX1 yX1_push yX1_push, Cond.initialized RX1, Cond.code yX1_push cX1_push 2 none, Cond.fieldLink RX1 11 "PartitionedCache$History" "ring" "[LPartitionedCache$State;", Cond.fieldLink RX1 17 "PartitionedCache$History" "oldest" "I", Cond.fieldLink RX1 21 "PartitionedCache$History" "size" "I", Cond.methodLink RX1 25 yX4_copyFrom, Cond.instanceMethod yX4_copyFrom, Cond.selects RX4 yX4_copyFrom yX4_copyFrom]
def wsX6_restore_r2 : List Cond := [Cond.initialized RX4, Cond.code yX4_copyFrom cX4_copyFrom 2 none, Cond.fieldLink RX4 12 "PartitionedCache$State" "places" "LPartitionedCache$Places;", Cond.fieldLink RX4 21 "PartitionedCache$State" "monitors" "LPartitionedCache$Monitors;", Cond.fieldLink RX4 25 "PartitionedCache$State" "leasts" "[I", Cond.methodLink RX4 46 arraycopyName, Cond.native arraycopyName, Cond.static arraycopyName, Cond.initialized "java/lang/System", Cond.fieldLink RX4 29 "PartitionedCache$State" "counts" "[I", Cond.fieldLink RX4 32 "PartitionedCache$State" "epoch" "I", Cond.fieldLink RX4 36 "PartitionedCache$State" "accesses" "I", Cond.methodLink RX4 39 yX3_copyFrom, Cond.instanceMethod yX3_copyFrom, Cond.selects RX3 yX3_copyFrom yX3_copyFrom, Cond.initialized RX3, Cond.code yX3_copyFrom cX3_copyFrom 2 none, Cond.fieldLink RX3 9 "PartitionedCache$Places" "owners" "[I", Cond.methodLink RX3 21 arraycopyName, Cond.fieldLink RX3 15 "PartitionedCache$Places" "held" "[I", Cond.fieldLink RX3 18 "PartitionedCache$Places" "stamps" "[I", Cond.methodLink RX4 43 yX2_copyFrom, Cond.instanceMethod yX2_copyFrom, Cond.selects RX2 yX2_copyFrom yX2_copyFrom]
def wsX6_restore_r3 : List Cond := [Cond.initialized RX2, Cond.code yX2_copyFrom cX2_copyFrom 2 none, Cond.fieldLink RX2 9 "PartitionedCache$Monitors" "addresses" "[I", Cond.methodLink RX2 18 arraycopyName, Cond.fieldLink RX2 15 "PartitionedCache$Monitors" "gains" "[I", Cond.methodLink RX6 136 yX4_copyFrom, Cond.methodLink RX6 139 yX3_allLines, Cond.instanceMethod yX3_allLines, Cond.selects RX3 yX3_allLines yX3_allLines, Cond.code yX3_allLines cX3_allLines 3 (some .int), Cond.methodLink RX3 42 yX3_linesOf, Cond.instanceMethod yX3_linesOf, Cond.selects RX3 yX3_linesOf yX3_linesOf, Cond.code yX3_linesOf cX3_linesOf 4 (some .int), Cond.methodLink RX3 39 yX3_linesInWay, Cond.instanceMethod yX3_linesInWay, Cond.selects RX3 yX3_linesInWay yX3_linesInWay, Cond.code yX3_linesInWay cX3_linesInWay 5 (some .int), Cond.methodLink RX3 35 yX3_holdsLineOf, Cond.instanceMethod yX3_holdsLineOf, Cond.selects RX3 yX3_holdsLineOf yX3_holdsLineOf, Cond.code yX3_holdsLineOf cX3_holdsLineOf 3 (some .boolean)]
def wsX6_restore : List Cond := .code yX6_restore cX6_restore 2 (some .int) :: ((wsX6_restore_r1 ++ (wsX6_restore_r2 ++ wsX6_restore_r3)) ++ wsX60 ++ wsX40 ++ wsX10 ++ wsX30 ++ wsX20 ++ (vx_atS RX6 109 "java/lang/IllegalStateException" ["java/lang/RuntimeException", "java/lang/Exception"]).filter goodWord ++ (vx_atS RX6 175 "java/lang/IndexOutOfBoundsException" ["java/lang/RuntimeException", "java/lang/Exception"]).filter goodWord)
def wsX6_owner : List Cond := .code yX6_owner cX6_owner 2 (some .int) :: ([.fieldLink RX6 12 "PartitionedCache" "now" "LPartitionedCache$State;", .fieldLink RX6 61 "PartitionedCache$State" "places" "LPartitionedCache$Places;", .fieldLink RX6 79 "PartitionedCache$Places" "owners" "[I", .methodLink RX6 75 yX6_requireIndex, .static yX6_requireIndex, .initialized RX6, .code yX6_requireIndex cX6_requireIndex 2 none, .classLink RX6 171 "java/lang/IndexOutOfBoundsException", .initialized "java/lang/IndexOutOfBoundsException"] ++ wsX60 ++ wsX40 ++ wsX30 ++ (vx_atS RX6 175 "java/lang/IndexOutOfBoundsException" ["java/lang/RuntimeException", "java/lang/Exception"]).filter goodWord)
def wsX6_waysOf : List Cond := .code yX6_waysOf cX6_waysOf 2 (some .int) :: ([.fieldLink RX6 12 "PartitionedCache" "now" "LPartitionedCache$State;", .fieldLink RX6 61 "PartitionedCache$State" "places" "LPartitionedCache$Places;", .methodLink RX6 45 yX6_requireTenant, .static yX6_requireTenant, .initialized RX6, .code yX6_requireTenant cX6_requireTenant 1 none, .methodLink RX6 75 yX6_requireIndex, .static yX6_requireIndex, .code yX6_requireIndex cX6_requireIndex 2 none, .classLink RX6 171 "java/lang/IndexOutOfBoundsException", .initialized "java/lang/IndexOutOfBoundsException", .methodLink RX6 144 yX3_ownedWays, .instanceMethod yX3_ownedWays, .selects RX3 yX3_ownedWays yX3_ownedWays, .initialized RX3, .code yX3_ownedWays cX3_ownedWays 4 (some .int), .fieldLink RX3 9 "PartitionedCache$Places" "owners" "[I"] ++ wsX60 ++ wsX40 ++ wsX30 ++ (vx_atS RX6 175 "java/lang/IndexOutOfBoundsException" ["java/lang/RuntimeException", "java/lang/Exception"]).filter goodWord)
def wsX6_line : List Cond := .code yX6_line cX6_line 3 (some .int) :: ([.fieldLink RX6 12 "PartitionedCache" "now" "LPartitionedCache$State;", .fieldLink RX6 61 "PartitionedCache$State" "places" "LPartitionedCache$Places;", .fieldLink RX6 147 "PartitionedCache$Places" "held" "[I", .methodLink RX6 75 yX6_requireIndex, .static yX6_requireIndex, .initialized RX6, .code yX6_requireIndex cX6_requireIndex 2 none, .classLink RX6 171 "java/lang/IndexOutOfBoundsException", .initialized "java/lang/IndexOutOfBoundsException"] ++ wsX60 ++ wsX40 ++ wsX30 ++ (vx_atS RX6 175 "java/lang/IndexOutOfBoundsException" ["java/lang/RuntimeException", "java/lang/Exception"]).filter goodWord)
def wsX6_lines_r1 : List Cond := [Cond.fieldLink RX6 12 "PartitionedCache" "now" "LPartitionedCache$State;", Cond.fieldLink RX6 61 "PartitionedCache$State" "places" "LPartitionedCache$Places;", Cond.methodLink RX6 45 yX6_requireTenant, Cond.static yX6_requireTenant, Cond.initialized RX6, Cond.code yX6_requireTenant cX6_requireTenant 1 none, Cond.methodLink RX6 75 yX6_requireIndex, Cond.static yX6_requireIndex, Cond.code yX6_requireIndex cX6_requireIndex 2 none, Cond.classLink RX6 171 "java/lang/IndexOutOfBoundsException", Cond.initialized "java/lang/IndexOutOfBoundsException", Cond.methodLink RX6 150 yX3_linesInOwnWays, Cond.instanceMethod yX3_linesInOwnWays, Cond.selects RX3 yX3_linesInOwnWays yX3_linesInOwnWays, Cond.initialized RX3, Cond.code yX3_linesInOwnWays cX3_linesInOwnWays 4 (some .int), Cond.fieldLink RX3 9 "PartitionedCache$Places" "owners" "[I", Cond.methodLink RX3 39 yX3_linesInWay, Cond.instanceMethod yX3_linesInWay, Cond.selects RX3 yX3_linesInWay yX3_linesInWay, Cond.code yX3_linesInWay cX3_linesInWay 5 (some .int), Cond.methodLink RX3 35 yX3_holdsLineOf, Cond.instanceMethod yX3_holdsLineOf, Cond.selects RX3 yX3_holdsLineOf yX3_holdsLineOf]
def wsX6_lines_r2 : List Cond := [Cond.code yX3_holdsLineOf cX3_holdsLineOf 3 (some .boolean), Cond.fieldLink RX3 15 "PartitionedCache$Places" "held" "[I", Cond.methodLink RX6 153 yX3_linesOf, Cond.instanceMethod yX3_linesOf, Cond.selects RX3 yX3_linesOf yX3_linesOf, Cond.code yX3_linesOf cX3_linesOf 4 (some .int)]
def wsX6_lines : List Cond := .code yX6_lines cX6_lines 4 (some .int) :: ((wsX6_lines_r1 ++ wsX6_lines_r2) ++ wsX60 ++ wsX40 ++ wsX30 ++ (vx_atS RX6 175 "java/lang/IndexOutOfBoundsException" ["java/lang/RuntimeException", "java/lang/Exception"]).filter goodWord)
def wsX6_ifAccessed_r1 : List Cond := [Cond.fieldLink RX6 12 "PartitionedCache" "now" "LPartitionedCache$State;", Cond.fieldLink RX6 61 "PartitionedCache$State" "places" "LPartitionedCache$Places;", Cond.methodLink RX6 45 yX6_requireTenant, Cond.static yX6_requireTenant, Cond.initialized RX6, Cond.code yX6_requireTenant cX6_requireTenant 1 none, Cond.methodLink RX6 75 yX6_requireIndex, Cond.static yX6_requireIndex, Cond.code yX6_requireIndex cX6_requireIndex 2 none, Cond.classLink RX6 171 "java/lang/IndexOutOfBoundsException", Cond.initialized "java/lang/IndexOutOfBoundsException", Cond.methodLink RX6 49 yX6_requireArgument, Cond.static yX6_requireArgument, Cond.code yX6_requireArgument cX6_requireArgument 3 none, Cond.classLink RX6 204 "java/lang/IllegalArgumentException", Cond.initialized "java/lang/IllegalArgumentException", Cond.methodLink RX6 156 yX3_resultOf, Cond.instanceMethod yX3_resultOf, Cond.selects RX3 yX3_resultOf yX3_resultOf, Cond.initialized RX3, Cond.code yX3_resultOf cX3_resultOf 3 (some .int), Cond.methodLink RX3 27 yX3_placeOf, Cond.instanceMethod yX3_placeOf, Cond.selects RX3 yX3_placeOf yX3_placeOf]
def wsX6_ifAccessed_r2 : List Cond := [Cond.code yX3_placeOf cX3_placeOf 5 (some .int), Cond.fieldLink RX3 15 "PartitionedCache$Places" "held" "[I", Cond.methodLink RX3 31 yX3_ownedWays, Cond.instanceMethod yX3_ownedWays, Cond.selects RX3 yX3_ownedWays yX3_ownedWays, Cond.code yX3_ownedWays cX3_ownedWays 4 (some .int), Cond.fieldLink RX3 9 "PartitionedCache$Places" "owners" "[I"]
def wsX6_ifAccessed : List Cond := .code yX6_ifAccessed cX6_ifAccessed 3 (some .int) :: ((wsX6_ifAccessed_r1 ++ wsX6_ifAccessed_r2) ++ wsX60 ++ wsX40 ++ wsX30 ++ (vx_atS RX6 175 "java/lang/IndexOutOfBoundsException" ["java/lang/RuntimeException", "java/lang/Exception"]).filter goodWord ++ (vx_atS RX6 208 "java/lang/IllegalArgumentException" ["java/lang/RuntimeException", "java/lang/Exception"]).filter goodWord)
def wsX6_victim_r1 : List Cond := [Cond.fieldLink RX6 12 "PartitionedCache" "now" "LPartitionedCache$State;", Cond.fieldLink RX6 61 "PartitionedCache$State" "places" "LPartitionedCache$Places;", Cond.fieldLink RX6 147 "PartitionedCache$Places" "held" "[I", Cond.methodLink RX6 45 yX6_requireTenant, Cond.static yX6_requireTenant, Cond.initialized RX6, Cond.code yX6_requireTenant cX6_requireTenant 1 none, Cond.methodLink RX6 75 yX6_requireIndex, Cond.static yX6_requireIndex, Cond.code yX6_requireIndex cX6_requireIndex 2 none, Cond.classLink RX6 171 "java/lang/IndexOutOfBoundsException", Cond.initialized "java/lang/IndexOutOfBoundsException", Cond.methodLink RX6 49 yX6_requireArgument, Cond.static yX6_requireArgument, Cond.code yX6_requireArgument cX6_requireArgument 3 none, Cond.classLink RX6 204 "java/lang/IllegalArgumentException", Cond.initialized "java/lang/IllegalArgumentException", Cond.methodLink RX6 156 yX3_resultOf, Cond.instanceMethod yX3_resultOf, Cond.selects RX3 yX3_resultOf yX3_resultOf, Cond.initialized RX3, Cond.code yX3_resultOf cX3_resultOf 3 (some .int), Cond.methodLink RX3 27 yX3_placeOf, Cond.instanceMethod yX3_placeOf]
def wsX6_victim_r2 : List Cond := [Cond.selects RX3 yX3_placeOf yX3_placeOf, Cond.code yX3_placeOf cX3_placeOf 5 (some .int), Cond.fieldLink RX3 15 "PartitionedCache$Places" "held" "[I", Cond.methodLink RX3 31 yX3_ownedWays, Cond.instanceMethod yX3_ownedWays, Cond.selects RX3 yX3_ownedWays yX3_ownedWays, Cond.code yX3_ownedWays cX3_ownedWays 4 (some .int), Cond.fieldLink RX3 9 "PartitionedCache$Places" "owners" "[I", Cond.methodLink RX6 159 yX3_placeToFill, Cond.instanceMethod yX3_placeToFill, Cond.selects RX3 yX3_placeToFill yX3_placeToFill, Cond.code yX3_placeToFill cX3_placeToFill 7 (some .int), Cond.fieldLink RX3 18 "PartitionedCache$Places" "stamps" "[I"]
def wsX6_victim : List Cond := .code yX6_victim cX6_victim 4 (some .int) :: ((wsX6_victim_r1 ++ wsX6_victim_r2) ++ wsX60 ++ wsX40 ++ wsX30 ++ (vx_atS RX6 175 "java/lang/IndexOutOfBoundsException" ["java/lang/RuntimeException", "java/lang/Exception"]).filter goodWord ++ (vx_atS RX6 208 "java/lang/IllegalArgumentException" ["java/lang/RuntimeException", "java/lang/Exception"]).filter goodWord)
def wsX6_gain : List Cond := .code yX6_gain cX6_gain 3 (some .int) :: ([.fieldLink RX6 12 "PartitionedCache" "now" "LPartitionedCache$State;", .fieldLink RX6 90 "PartitionedCache$State" "monitors" "LPartitionedCache$Monitors;", .fieldLink RX6 162 "PartitionedCache$Monitors" "gains" "[I", .methodLink RX6 45 yX6_requireTenant, .static yX6_requireTenant, .initialized RX6, .code yX6_requireTenant cX6_requireTenant 1 none, .methodLink RX6 75 yX6_requireIndex, .static yX6_requireIndex, .code yX6_requireIndex cX6_requireIndex 2 none, .classLink RX6 171 "java/lang/IndexOutOfBoundsException", .initialized "java/lang/IndexOutOfBoundsException"] ++ wsX60 ++ wsX40 ++ wsX20 ++ (vx_atS RX6 175 "java/lang/IndexOutOfBoundsException" ["java/lang/RuntimeException", "java/lang/Exception"]).filter goodWord)
def wsX6_utility : List Cond := .code yX6_utility cX6_utility 3 (some .int) :: ([.fieldLink RX6 12 "PartitionedCache" "now" "LPartitionedCache$State;", .fieldLink RX6 90 "PartitionedCache$State" "monitors" "LPartitionedCache$Monitors;", .methodLink RX6 45 yX6_requireTenant, .static yX6_requireTenant, .initialized RX6, .code yX6_requireTenant cX6_requireTenant 1 none, .methodLink RX6 75 yX6_requireIndex, .static yX6_requireIndex, .code yX6_requireIndex cX6_requireIndex 2 none, .classLink RX6 171 "java/lang/IndexOutOfBoundsException", .initialized "java/lang/IndexOutOfBoundsException", .methodLink RX6 49 yX6_requireArgument, .static yX6_requireArgument, .code yX6_requireArgument cX6_requireArgument 3 none, .classLink RX6 204 "java/lang/IllegalArgumentException", .initialized "java/lang/IllegalArgumentException", .methodLink RX6 165 yX2_utilityOf, .instanceMethod yX2_utilityOf, .selects RX2 yX2_utilityOf yX2_utilityOf, .initialized RX2, .code yX2_utilityOf cX2_utilityOf 5 (some .int), .fieldLink RX2 15 "PartitionedCache$Monitors" "gains" "[I"] ++ wsX60 ++ wsX40 ++ wsX20 ++ (vx_atS RX6 175 "java/lang/IndexOutOfBoundsException" ["java/lang/RuntimeException", "java/lang/Exception"]).filter goodWord ++ (vx_atS RX6 208 "java/lang/IllegalArgumentException" ["java/lang/RuntimeException", "java/lang/Exception"]).filter goodWord)
def wsX6_monitored : List Cond := .code yX6_monitored cX6_monitored 4 (some .int) :: ([.classLink RX6 171 "java/lang/IndexOutOfBoundsException", .initialized "java/lang/IndexOutOfBoundsException", .fieldLink RX6 12 "PartitionedCache" "now" "LPartitionedCache$State;", .fieldLink RX6 90 "PartitionedCache$State" "monitors" "LPartitionedCache$Monitors;", .fieldLink RX6 176 "PartitionedCache$Monitors" "addresses" "[I", .methodLink RX6 45 yX6_requireTenant, .static yX6_requireTenant, .initialized RX6, .code yX6_requireTenant cX6_requireTenant 1 none, .methodLink RX6 75 yX6_requireIndex, .static yX6_requireIndex, .code yX6_requireIndex cX6_requireIndex 2 none, .methodLink RX6 168 yX6_isSampled, .static yX6_isSampled, .code yX6_isSampled cX6_isSampled 1 (some .boolean), .methodLink RX6 179 yX6_listStart, .static yX6_listStart, .code yX6_listStart cX6_listStart 2 (some .int)] ++ wsX60 ++ wsX40 ++ wsX20 ++ (vx_atS RX6 175 "java/lang/IndexOutOfBoundsException" ["java/lang/RuntimeException", "java/lang/Exception"]).filter goodWord)
def wsX6_target_r1 : List Cond := [Cond.fieldLink RX6 19 "PartitionedCache" "targets" "LPartitionedCache$Targets;", Cond.fieldLink RX6 12 "PartitionedCache" "now" "LPartitionedCache$State;", Cond.fieldLink RX6 185 "PartitionedCache$Targets" "ways" "[I", Cond.methodLink RX6 45 yX6_requireTenant, Cond.static yX6_requireTenant, Cond.initialized RX6, Cond.code yX6_requireTenant cX6_requireTenant 1 none, Cond.methodLink RX6 75 yX6_requireIndex, Cond.static yX6_requireIndex, Cond.code yX6_requireIndex cX6_requireIndex 2 none, Cond.classLink RX6 171 "java/lang/IndexOutOfBoundsException", Cond.initialized "java/lang/IndexOutOfBoundsException", Cond.methodLink RX6 182 yX5_compute, Cond.instanceMethod yX5_compute, Cond.selects RX5 yX5_compute yX5_compute, Cond.initialized RX5, Cond.code yX5_compute cX5_compute 4 none, Cond.fieldLink RX5 9 "PartitionedCache$Targets" "ways" "[I", Cond.fieldLink RX5 15 "PartitionedCache$State" "leasts" "[I", Cond.fieldLink RX5 20 "PartitionedCache$State" "monitors" "LPartitionedCache$Monitors;", Cond.methodLink RX5 24 yX5_growOne, Cond.instanceMethod yX5_growOne, Cond.selects RX5 yX5_growOne yX5_growOne, Cond.code yX5_growOne cX5_growOne 9 (some .int)]
def wsX6_target_r2 : List Cond := [Cond.fieldLink RX5 28 "PartitionedCache$Monitors" "gains" "[I", Cond.methodLink RX5 33 yX5_lowest, Cond.instanceMethod yX5_lowest, Cond.selects RX5 yX5_lowest yX5_lowest, Cond.code yX5_lowest cX5_lowest 3 (some .int)]
def wsX6_target : List Cond := .code yX6_target cX6_target 2 (some .int) :: ((wsX6_target_r1 ++ wsX6_target_r2) ++ wsX60 ++ wsX50 ++ wsX40 ++ wsX20 ++ (vx_atS RX6 175 "java/lang/IndexOutOfBoundsException" ["java/lang/RuntimeException", "java/lang/Exception"]).filter goodWord)
def wsX6_movesLeft_r1 : List Cond := [Cond.fieldLink RX6 19 "PartitionedCache" "targets" "LPartitionedCache$Targets;", Cond.fieldLink RX6 12 "PartitionedCache" "now" "LPartitionedCache$State;", Cond.methodLink RX6 191 Lib.Math.max.name, Cond.static Lib.Math.max.name, Cond.initialized "java/lang/Math", Cond.code Lib.Math.max.name Lib.Math.max.code 2 (some .int), Cond.methodLink RX6 182 yX5_compute, Cond.instanceMethod yX5_compute, Cond.selects RX5 yX5_compute yX5_compute, Cond.initialized RX5, Cond.code yX5_compute cX5_compute 4 none, Cond.fieldLink RX5 9 "PartitionedCache$Targets" "ways" "[I", Cond.fieldLink RX5 15 "PartitionedCache$State" "leasts" "[I", Cond.fieldLink RX5 20 "PartitionedCache$State" "monitors" "LPartitionedCache$Monitors;", Cond.methodLink RX5 24 yX5_growOne, Cond.instanceMethod yX5_growOne, Cond.selects RX5 yX5_growOne yX5_growOne, Cond.code yX5_growOne cX5_growOne 9 (some .int), Cond.fieldLink RX5 28 "PartitionedCache$Monitors" "gains" "[I", Cond.methodLink RX5 33 yX5_lowest, Cond.instanceMethod yX5_lowest, Cond.selects RX5 yX5_lowest yX5_lowest, Cond.code yX5_lowest cX5_lowest 3 (some .int), Cond.methodLink RX6 188 yX6_deficitOf]
def wsX6_movesLeft_r2 : List Cond := [Cond.instanceMethod yX6_deficitOf, Cond.selects RX6 yX6_deficitOf yX6_deficitOf, Cond.initialized RX6, Cond.code yX6_deficitOf cX6_deficitOf 2 (some .int), Cond.fieldLink RX6 185 "PartitionedCache$Targets" "ways" "[I", Cond.fieldLink RX6 61 "PartitionedCache$State" "places" "LPartitionedCache$Places;", Cond.methodLink RX6 144 yX3_ownedWays, Cond.instanceMethod yX3_ownedWays, Cond.selects RX3 yX3_ownedWays yX3_ownedWays, Cond.initialized RX3, Cond.code yX3_ownedWays cX3_ownedWays 4 (some .int), Cond.fieldLink RX3 9 "PartitionedCache$Places" "owners" "[I"]
def wsX6_movesLeft : List Cond := .code yX6_movesLeft cX6_movesLeft 3 (some .int) :: ((wsX6_movesLeft_r1 ++ wsX6_movesLeft_r2) ++ wsX60 ++ wsX50 ++ wsX40 ++ wsX20 ++ wsX30)
def wsX6_totalUtility : List Cond := .code yX6_totalUtility cX6_totalUtility 3 (some .int) :: ([.fieldLink RX6 12 "PartitionedCache" "now" "LPartitionedCache$State;", .fieldLink RX6 90 "PartitionedCache$State" "monitors" "LPartitionedCache$Monitors;", .fieldLink RX6 61 "PartitionedCache$State" "places" "LPartitionedCache$Places;", .methodLink RX6 144 yX3_ownedWays, .instanceMethod yX3_ownedWays, .selects RX3 yX3_ownedWays yX3_ownedWays, .initialized RX3, .code yX3_ownedWays cX3_ownedWays 4 (some .int), .fieldLink RX3 9 "PartitionedCache$Places" "owners" "[I", .methodLink RX6 165 yX2_utilityOf, .instanceMethod yX2_utilityOf, .selects RX2 yX2_utilityOf yX2_utilityOf, .initialized RX2, .code yX2_utilityOf cX2_utilityOf 5 (some .int), .fieldLink RX2 15 "PartitionedCache$Monitors" "gains" "[I"] ++ wsX60 ++ wsX40 ++ wsX30 ++ wsX20)
def wsX6_count : List Cond := .code yX6_count cX6_count 3 (some .int) :: ([.fieldLink RX6 12 "PartitionedCache" "now" "LPartitionedCache$State;", .fieldLink RX6 196 "PartitionedCache$State" "counts" "[I", .methodLink RX6 45 yX6_requireTenant, .static yX6_requireTenant, .initialized RX6, .code yX6_requireTenant cX6_requireTenant 1 none, .methodLink RX6 75 yX6_requireIndex, .static yX6_requireIndex, .code yX6_requireIndex cX6_requireIndex 2 none, .classLink RX6 171 "java/lang/IndexOutOfBoundsException", .initialized "java/lang/IndexOutOfBoundsException", .methodLink RX6 49 yX6_requireArgument, .static yX6_requireArgument, .code yX6_requireArgument cX6_requireArgument 3 none, .classLink RX6 204 "java/lang/IllegalArgumentException", .initialized "java/lang/IllegalArgumentException"] ++ wsX60 ++ wsX40 ++ (vx_atS RX6 175 "java/lang/IndexOutOfBoundsException" ["java/lang/RuntimeException", "java/lang/Exception"]).filter goodWord ++ (vx_atS RX6 208 "java/lang/IllegalArgumentException" ["java/lang/RuntimeException", "java/lang/Exception"]).filter goodWord)
def wsX6_accesses : List Cond := .code yX6_accesses cX6_accesses 1 (some .int) :: ([.fieldLink RX6 12 "PartitionedCache" "now" "LPartitionedCache$State;", .fieldLink RX6 199 "PartitionedCache$State" "accesses" "I"] ++ wsX60 ++ wsX40)
def wsX6_hitRate : List Cond := .code yX6_hitRate cX6_hitRate 5 (some .double) :: ([.fieldLink RX6 12 "PartitionedCache" "now" "LPartitionedCache$State;", .fieldLink RX6 196 "PartitionedCache$State" "counts" "[I", .methodLink RX6 45 yX6_requireTenant, .static yX6_requireTenant, .initialized RX6, .code yX6_requireTenant cX6_requireTenant 1 none, .methodLink RX6 75 yX6_requireIndex, .static yX6_requireIndex, .code yX6_requireIndex cX6_requireIndex 2 none, .classLink RX6 171 "java/lang/IndexOutOfBoundsException", .initialized "java/lang/IndexOutOfBoundsException"] ++ wsX60 ++ wsX40 ++ (vx_atS RX6 175 "java/lang/IndexOutOfBoundsException" ["java/lang/RuntimeException", "java/lang/Exception"]).filter goodWord)
def wsX6_savedStates : List Cond := .code yX6_savedStates cX6_savedStates 1 (some .int) :: ([.fieldLink RX6 26 "PartitionedCache" "history" "LPartitionedCache$History;", .fieldLink RX6 128 "PartitionedCache$History" "size" "I"] ++ wsX60 ++ wsX10)
def wsX6_textLength : List Cond := .code yX6_textLength cX6_textLength 1 (some .int) :: ([.fieldLink RX6 33 "PartitionedCache" "text" "LPartitionedCache$CommandText;", .fieldLink RX6 102 "PartitionedCache$CommandText" "length" "I"] ++ wsX60 ++ wsX00)
def wsX7_init : List Cond := .code yX7_init cX7_init 2 none :: ([.methodLink RX7 1 objectInit, .instanceMethod objectInit, .code objectInit ⟨#[0xb1]⟩ 1 none, .arrayClass .int, .fieldLink RX7 7 "PartitionedCacheModel" "row" "[I", .fieldLink RX7 13 "PartitionedCacheModel" "past" "[I", .fieldLink RX7 16 "PartitionedCacheModel" "slots" "[I", .arrayClass .boolean, .fieldLink RX7 19 "PartitionedCacheModel" "has" "[Z", .fieldLink RX7 23 "PartitionedCacheModel" "targets" "[I", .fieldLink RX7 26 "PartitionedCacheModel" "buffer" "[I"] ++ wsX70)
def wsX7_thrown : List Cond := .code yX7_thrown cX7_thrown 1 (some .int) :: ([.fieldLink RX7 29 "PartitionedCacheModel" "thrown" "I"] ++ wsX70)
def wsX7_fails : List Cond := .code yX7_fails cX7_fails 2 (some .int) :: ([.fieldLink RX7 29 "PartitionedCacheModel" "thrown" "I"] ++ wsX70)
def wsX7_in : List Cond := .code yX7_in cX7_in 3 (some .boolean) :: ([])
def wsX7_record : List Cond := .code yX7_record cX7_record 2 none :: ([.fieldLink RX7 33 "PartitionedCacheModel" "states" "I", .fieldLink RX7 13 "PartitionedCacheModel" "past" "[I", .fieldLink RX7 7 "PartitionedCacheModel" "row" "[I"] ++ wsX70)
def wsX7_owned : List Cond := .code yX7_owned cX7_owned 4 (some .int) :: ([.fieldLink RX7 7 "PartitionedCacheModel" "row" "[I"] ++ wsX70)
def wsX7_linesOf : List Cond := .code yX7_linesOf cX7_linesOf 6 (some .int) :: ([.fieldLink RX7 7 "PartitionedCacheModel" "row" "[I"] ++ wsX70)
def wsX7_allLines : List Cond := .code yX7_allLines cX7_allLines 1 (some .int) :: ([.methodLink RX7 36 yX7_linesOf, .instanceMethod yX7_linesOf, .selects RX7 yX7_linesOf yX7_linesOf, .initialized RX7, .code yX7_linesOf cX7_linesOf 6 (some .int), .fieldLink RX7 7 "PartitionedCacheModel" "row" "[I"] ++ wsX70)
def wsX7_find : List Cond := .code yX7_find cX7_find 5 (some .int) :: ([.fieldLink RX7 7 "PartitionedCacheModel" "row" "[I"] ++ wsX70)
def wsX7_placeFor : List Cond := .code yX7_placeFor cX7_placeFor 7 (some .int) :: ([.fieldLink RX7 7 "PartitionedCacheModel" "row" "[I"] ++ wsX70)
def wsX7_wouldBe : List Cond := .code yX7_wouldBe cX7_wouldBe 3 (some .int) :: ([.methodLink RX7 40 yX7_find, .instanceMethod yX7_find, .selects RX7 yX7_find yX7_find, .initialized RX7, .code yX7_find cX7_find 5 (some .int), .fieldLink RX7 7 "PartitionedCacheModel" "row" "[I", .methodLink RX7 44 yX7_owned, .instanceMethod yX7_owned, .selects RX7 yX7_owned yX7_owned, .code yX7_owned cX7_owned 4 (some .int)] ++ wsX70)
def wsX7_watch : List Cond := .code yX7_watch cX7_watch 8 none :: ([.fieldLink RX7 7 "PartitionedCacheModel" "row" "[I"] ++ wsX70)
def wsX7_halve : List Cond := .code yX7_halve cX7_halve 3 (some .int) :: ([.fieldLink RX7 7 "PartitionedCacheModel" "row" "[I"] ++ wsX70)
def wsX7_gained : List Cond := .code yX7_gained cX7_gained 5 (some .int) :: ([.fieldLink RX7 7 "PartitionedCacheModel" "row" "[I"] ++ wsX70)
def wsX7_lowestTarget : List Cond := .code yX7_lowestTarget cX7_lowestTarget 3 (some .int) :: ([.fieldLink RX7 23 "PartitionedCacheModel" "targets" "[I"] ++ wsX70)
def wsX7_giveSome : List Cond := .code yX7_giveSome cX7_giveSome 9 (some .int) :: ([.fieldLink RX7 23 "PartitionedCacheModel" "targets" "[I", .methodLink RX7 48 yX7_gained, .instanceMethod yX7_gained, .selects RX7 yX7_gained yX7_gained, .initialized RX7, .code yX7_gained cX7_gained 5 (some .int), .fieldLink RX7 7 "PartitionedCacheModel" "row" "[I", .methodLink RX7 51 yX7_lowestTarget, .instanceMethod yX7_lowestTarget, .selects RX7 yX7_lowestTarget yX7_lowestTarget, .code yX7_lowestTarget cX7_lowestTarget 3 (some .int)] ++ wsX70)
def wsX7_findTargets : List Cond := .code yX7_findTargets cX7_findTargets 3 none :: ([.fieldLink RX7 23 "PartitionedCacheModel" "targets" "[I", .fieldLink RX7 7 "PartitionedCacheModel" "row" "[I", .methodLink RX7 55 yX7_giveSome, .instanceMethod yX7_giveSome, .selects RX7 yX7_giveSome yX7_giveSome, .initialized RX7, .code yX7_giveSome cX7_giveSome 9 (some .int), .methodLink RX7 48 yX7_gained, .instanceMethod yX7_gained, .selects RX7 yX7_gained yX7_gained, .code yX7_gained cX7_gained 5 (some .int), .methodLink RX7 51 yX7_lowestTarget, .instanceMethod yX7_lowestTarget, .selects RX7 yX7_lowestTarget yX7_lowestTarget, .code yX7_lowestTarget cX7_lowestTarget 3 (some .int)] ++ wsX70)
def wsX7_deficit : List Cond := .code yX7_deficit cX7_deficit 2 (some .int) :: ([.fieldLink RX7 23 "PartitionedCacheModel" "targets" "[I", .methodLink RX7 44 yX7_owned, .instanceMethod yX7_owned, .selects RX7 yX7_owned yX7_owned, .initialized RX7, .code yX7_owned cX7_owned 4 (some .int), .fieldLink RX7 7 "PartitionedCacheModel" "row" "[I"] ++ wsX70)
def wsX7_linesIn : List Cond := .code yX7_linesIn cX7_linesIn 6 (some .int) :: ([.fieldLink RX7 7 "PartitionedCacheModel" "row" "[I"] ++ wsX70)
def wsX7_move_r1 : List Cond := [Cond.fieldLink RX7 7 "PartitionedCacheModel" "row" "[I", Cond.methodLink RX7 58 yX7_findTargets, Cond.instanceMethod yX7_findTargets, Cond.selects RX7 yX7_findTargets yX7_findTargets, Cond.initialized RX7, Cond.code yX7_findTargets cX7_findTargets 3 none, Cond.fieldLink RX7 23 "PartitionedCacheModel" "targets" "[I", Cond.methodLink RX7 55 yX7_giveSome, Cond.instanceMethod yX7_giveSome, Cond.selects RX7 yX7_giveSome yX7_giveSome, Cond.code yX7_giveSome cX7_giveSome 9 (some .int), Cond.methodLink RX7 48 yX7_gained, Cond.instanceMethod yX7_gained, Cond.selects RX7 yX7_gained yX7_gained, Cond.code yX7_gained cX7_gained 5 (some .int), Cond.methodLink RX7 51 yX7_lowestTarget, Cond.instanceMethod yX7_lowestTarget, Cond.selects RX7 yX7_lowestTarget yX7_lowestTarget, Cond.code yX7_lowestTarget cX7_lowestTarget 3 (some .int), Cond.methodLink RX7 61 yX7_deficit, Cond.instanceMethod yX7_deficit, Cond.selects RX7 yX7_deficit yX7_deficit, Cond.code yX7_deficit cX7_deficit 2 (some .int), Cond.methodLink RX7 44 yX7_owned]
def wsX7_move_r2 : List Cond := [Cond.instanceMethod yX7_owned, Cond.selects RX7 yX7_owned yX7_owned, Cond.code yX7_owned cX7_owned 4 (some .int), Cond.methodLink RX7 64 yX7_linesIn, Cond.instanceMethod yX7_linesIn, Cond.selects RX7 yX7_linesIn yX7_linesIn, Cond.code yX7_linesIn cX7_linesIn 6 (some .int)]
def wsX7_move : List Cond := .code yX7_move cX7_move 6 (some .int) :: ((wsX7_move_r1 ++ wsX7_move_r2) ++ wsX70)
def wsX7_put : List Cond := .code yX7_put cX7_put 4 none :: ([.fieldLink RX7 7 "PartitionedCacheModel" "row" "[I", .methodLink RX7 67 yX7_placeFor, .instanceMethod yX7_placeFor, .selects RX7 yX7_placeFor yX7_placeFor, .initialized RX7, .code yX7_placeFor cX7_placeFor 7 (some .int)] ++ wsX70)
def wsX7_visits_r1 : List Cond := [Cond.fieldLink RX7 7 "PartitionedCacheModel" "row" "[I", Cond.methodLink RX7 70 yX7_watch, Cond.instanceMethod yX7_watch, Cond.selects RX7 yX7_watch yX7_watch, Cond.initialized RX7, Cond.code yX7_watch cX7_watch 8 none, Cond.methodLink RX7 74 yX7_wouldBe, Cond.instanceMethod yX7_wouldBe, Cond.selects RX7 yX7_wouldBe yX7_wouldBe, Cond.code yX7_wouldBe cX7_wouldBe 3 (some .int), Cond.methodLink RX7 40 yX7_find, Cond.instanceMethod yX7_find, Cond.selects RX7 yX7_find yX7_find, Cond.code yX7_find cX7_find 5 (some .int), Cond.methodLink RX7 44 yX7_owned, Cond.instanceMethod yX7_owned, Cond.selects RX7 yX7_owned yX7_owned, Cond.code yX7_owned cX7_owned 4 (some .int), Cond.methodLink RX7 77 yX7_put, Cond.instanceMethod yX7_put, Cond.selects RX7 yX7_put yX7_put, Cond.code yX7_put cX7_put 4 none, Cond.methodLink RX7 67 yX7_placeFor, Cond.instanceMethod yX7_placeFor]
def wsX7_visits_r2 : List Cond := [Cond.selects RX7 yX7_placeFor yX7_placeFor, Cond.code yX7_placeFor cX7_placeFor 7 (some .int), Cond.methodLink RX7 80 yX7_move, Cond.instanceMethod yX7_move, Cond.selects RX7 yX7_move yX7_move, Cond.code yX7_move cX7_move 6 (some .int), Cond.methodLink RX7 58 yX7_findTargets, Cond.instanceMethod yX7_findTargets, Cond.selects RX7 yX7_findTargets yX7_findTargets, Cond.code yX7_findTargets cX7_findTargets 3 none, Cond.fieldLink RX7 23 "PartitionedCacheModel" "targets" "[I", Cond.methodLink RX7 55 yX7_giveSome, Cond.instanceMethod yX7_giveSome, Cond.selects RX7 yX7_giveSome yX7_giveSome, Cond.code yX7_giveSome cX7_giveSome 9 (some .int), Cond.methodLink RX7 48 yX7_gained, Cond.instanceMethod yX7_gained, Cond.selects RX7 yX7_gained yX7_gained, Cond.code yX7_gained cX7_gained 5 (some .int), Cond.methodLink RX7 51 yX7_lowestTarget, Cond.instanceMethod yX7_lowestTarget, Cond.selects RX7 yX7_lowestTarget yX7_lowestTarget, Cond.code yX7_lowestTarget cX7_lowestTarget 3 (some .int), Cond.methodLink RX7 61 yX7_deficit]
def wsX7_visits_r3 : List Cond := [Cond.instanceMethod yX7_deficit, Cond.selects RX7 yX7_deficit yX7_deficit, Cond.code yX7_deficit cX7_deficit 2 (some .int), Cond.methodLink RX7 64 yX7_linesIn, Cond.instanceMethod yX7_linesIn, Cond.selects RX7 yX7_linesIn yX7_linesIn, Cond.code yX7_linesIn cX7_linesIn 6 (some .int), Cond.methodLink RX7 83 yX7_halve, Cond.instanceMethod yX7_halve, Cond.selects RX7 yX7_halve yX7_halve, Cond.code yX7_halve cX7_halve 3 (some .int)]
def wsX7_visits : List Cond := .code yX7_visits cX7_visits 5 (some .int) :: ((wsX7_visits_r1 ++ (wsX7_visits_r2 ++ wsX7_visits_r3)) ++ wsX70)
def wsX7_flushes : List Cond := .code yX7_flushes cX7_flushes 4 (some .int) :: ([.fieldLink RX7 7 "PartitionedCacheModel" "row" "[I"] ++ wsX70)
def wsX7_access_r1 : List Cond := [Cond.fieldLink RX7 29 "PartitionedCacheModel" "thrown" "I", Cond.methodLink RX7 86 yX7_in, Cond.static yX7_in, Cond.initialized RX7, Cond.code yX7_in cX7_in 3 (some .boolean), Cond.methodLink RX7 90 yX7_fails, Cond.instanceMethod yX7_fails, Cond.selects RX7 yX7_fails yX7_fails, Cond.code yX7_fails cX7_fails 2 (some .int), Cond.methodLink RX7 93 yX7_record, Cond.instanceMethod yX7_record, Cond.selects RX7 yX7_record yX7_record, Cond.code yX7_record cX7_record 2 none, Cond.fieldLink RX7 33 "PartitionedCacheModel" "states" "I", Cond.fieldLink RX7 13 "PartitionedCacheModel" "past" "[I", Cond.fieldLink RX7 7 "PartitionedCacheModel" "row" "[I", Cond.methodLink RX7 96 yX7_visits, Cond.instanceMethod yX7_visits, Cond.selects RX7 yX7_visits yX7_visits, Cond.code yX7_visits cX7_visits 5 (some .int), Cond.methodLink RX7 70 yX7_watch, Cond.instanceMethod yX7_watch, Cond.selects RX7 yX7_watch yX7_watch, Cond.code yX7_watch cX7_watch 8 none]
def wsX7_access_r2 : List Cond := [Cond.methodLink RX7 74 yX7_wouldBe, Cond.instanceMethod yX7_wouldBe, Cond.selects RX7 yX7_wouldBe yX7_wouldBe, Cond.code yX7_wouldBe cX7_wouldBe 3 (some .int), Cond.methodLink RX7 40 yX7_find, Cond.instanceMethod yX7_find, Cond.selects RX7 yX7_find yX7_find, Cond.code yX7_find cX7_find 5 (some .int), Cond.methodLink RX7 44 yX7_owned, Cond.instanceMethod yX7_owned, Cond.selects RX7 yX7_owned yX7_owned, Cond.code yX7_owned cX7_owned 4 (some .int), Cond.methodLink RX7 77 yX7_put, Cond.instanceMethod yX7_put, Cond.selects RX7 yX7_put yX7_put, Cond.code yX7_put cX7_put 4 none, Cond.methodLink RX7 67 yX7_placeFor, Cond.instanceMethod yX7_placeFor, Cond.selects RX7 yX7_placeFor yX7_placeFor, Cond.code yX7_placeFor cX7_placeFor 7 (some .int), Cond.methodLink RX7 80 yX7_move, Cond.instanceMethod yX7_move, Cond.selects RX7 yX7_move yX7_move, Cond.code yX7_move cX7_move 6 (some .int)]
def wsX7_access_r3 : List Cond := [Cond.methodLink RX7 58 yX7_findTargets, Cond.instanceMethod yX7_findTargets, Cond.selects RX7 yX7_findTargets yX7_findTargets, Cond.code yX7_findTargets cX7_findTargets 3 none, Cond.fieldLink RX7 23 "PartitionedCacheModel" "targets" "[I", Cond.methodLink RX7 55 yX7_giveSome, Cond.instanceMethod yX7_giveSome, Cond.selects RX7 yX7_giveSome yX7_giveSome, Cond.code yX7_giveSome cX7_giveSome 9 (some .int), Cond.methodLink RX7 48 yX7_gained, Cond.instanceMethod yX7_gained, Cond.selects RX7 yX7_gained yX7_gained, Cond.code yX7_gained cX7_gained 5 (some .int), Cond.methodLink RX7 51 yX7_lowestTarget, Cond.instanceMethod yX7_lowestTarget, Cond.selects RX7 yX7_lowestTarget yX7_lowestTarget, Cond.code yX7_lowestTarget cX7_lowestTarget 3 (some .int), Cond.methodLink RX7 61 yX7_deficit, Cond.instanceMethod yX7_deficit, Cond.selects RX7 yX7_deficit yX7_deficit, Cond.code yX7_deficit cX7_deficit 2 (some .int), Cond.methodLink RX7 64 yX7_linesIn, Cond.instanceMethod yX7_linesIn, Cond.selects RX7 yX7_linesIn yX7_linesIn]
def wsX7_access_r4 : List Cond := [Cond.code yX7_linesIn cX7_linesIn 6 (some .int), Cond.methodLink RX7 83 yX7_halve, Cond.instanceMethod yX7_halve, Cond.selects RX7 yX7_halve yX7_halve, Cond.code yX7_halve cX7_halve 3 (some .int)]
def wsX7_access : List Cond := .code yX7_access cX7_access 3 (some .int) :: ((wsX7_access_r1 ++ (wsX7_access_r2 ++ (wsX7_access_r3 ++ wsX7_access_r4))) ++ wsX70)
def wsX7_stream_r1 : List Cond := [Cond.fieldLink RX7 29 "PartitionedCacheModel" "thrown" "I", Cond.methodLink RX7 86 yX7_in, Cond.static yX7_in, Cond.initialized RX7, Cond.code yX7_in cX7_in 3 (some .boolean), Cond.methodLink RX7 90 yX7_fails, Cond.instanceMethod yX7_fails, Cond.selects RX7 yX7_fails yX7_fails, Cond.code yX7_fails cX7_fails 2 (some .int), Cond.methodLink RX7 93 yX7_record, Cond.instanceMethod yX7_record, Cond.selects RX7 yX7_record yX7_record, Cond.code yX7_record cX7_record 2 none, Cond.fieldLink RX7 33 "PartitionedCacheModel" "states" "I", Cond.fieldLink RX7 13 "PartitionedCacheModel" "past" "[I", Cond.fieldLink RX7 7 "PartitionedCacheModel" "row" "[I", Cond.methodLink RX7 96 yX7_visits, Cond.instanceMethod yX7_visits, Cond.selects RX7 yX7_visits yX7_visits, Cond.code yX7_visits cX7_visits 5 (some .int), Cond.methodLink RX7 70 yX7_watch, Cond.instanceMethod yX7_watch, Cond.selects RX7 yX7_watch yX7_watch, Cond.code yX7_watch cX7_watch 8 none]
def wsX7_stream_r2 : List Cond := [Cond.methodLink RX7 74 yX7_wouldBe, Cond.instanceMethod yX7_wouldBe, Cond.selects RX7 yX7_wouldBe yX7_wouldBe, Cond.code yX7_wouldBe cX7_wouldBe 3 (some .int), Cond.methodLink RX7 40 yX7_find, Cond.instanceMethod yX7_find, Cond.selects RX7 yX7_find yX7_find, Cond.code yX7_find cX7_find 5 (some .int), Cond.methodLink RX7 44 yX7_owned, Cond.instanceMethod yX7_owned, Cond.selects RX7 yX7_owned yX7_owned, Cond.code yX7_owned cX7_owned 4 (some .int), Cond.methodLink RX7 77 yX7_put, Cond.instanceMethod yX7_put, Cond.selects RX7 yX7_put yX7_put, Cond.code yX7_put cX7_put 4 none, Cond.methodLink RX7 67 yX7_placeFor, Cond.instanceMethod yX7_placeFor, Cond.selects RX7 yX7_placeFor yX7_placeFor, Cond.code yX7_placeFor cX7_placeFor 7 (some .int), Cond.methodLink RX7 80 yX7_move, Cond.instanceMethod yX7_move, Cond.selects RX7 yX7_move yX7_move, Cond.code yX7_move cX7_move 6 (some .int)]
def wsX7_stream_r3 : List Cond := [Cond.methodLink RX7 58 yX7_findTargets, Cond.instanceMethod yX7_findTargets, Cond.selects RX7 yX7_findTargets yX7_findTargets, Cond.code yX7_findTargets cX7_findTargets 3 none, Cond.fieldLink RX7 23 "PartitionedCacheModel" "targets" "[I", Cond.methodLink RX7 55 yX7_giveSome, Cond.instanceMethod yX7_giveSome, Cond.selects RX7 yX7_giveSome yX7_giveSome, Cond.code yX7_giveSome cX7_giveSome 9 (some .int), Cond.methodLink RX7 48 yX7_gained, Cond.instanceMethod yX7_gained, Cond.selects RX7 yX7_gained yX7_gained, Cond.code yX7_gained cX7_gained 5 (some .int), Cond.methodLink RX7 51 yX7_lowestTarget, Cond.instanceMethod yX7_lowestTarget, Cond.selects RX7 yX7_lowestTarget yX7_lowestTarget, Cond.code yX7_lowestTarget cX7_lowestTarget 3 (some .int), Cond.methodLink RX7 61 yX7_deficit, Cond.instanceMethod yX7_deficit, Cond.selects RX7 yX7_deficit yX7_deficit, Cond.code yX7_deficit cX7_deficit 2 (some .int), Cond.methodLink RX7 64 yX7_linesIn, Cond.instanceMethod yX7_linesIn, Cond.selects RX7 yX7_linesIn yX7_linesIn]
def wsX7_stream_r4 : List Cond := [Cond.code yX7_linesIn cX7_linesIn 6 (some .int), Cond.methodLink RX7 83 yX7_halve, Cond.instanceMethod yX7_halve, Cond.selects RX7 yX7_halve yX7_halve, Cond.code yX7_halve cX7_halve 3 (some .int)]
def wsX7_stream : List Cond := .code yX7_stream cX7_stream 7 (some .int) :: ((wsX7_stream_r1 ++ (wsX7_stream_r2 ++ (wsX7_stream_r3 ++ wsX7_stream_r4))) ++ wsX70)
def wsX7_flush : List Cond := .code yX7_flush cX7_flush 2 (some .int) :: ([.fieldLink RX7 29 "PartitionedCacheModel" "thrown" "I", .methodLink RX7 86 yX7_in, .static yX7_in, .initialized RX7, .code yX7_in cX7_in 3 (some .boolean), .methodLink RX7 90 yX7_fails, .instanceMethod yX7_fails, .selects RX7 yX7_fails yX7_fails, .code yX7_fails cX7_fails 2 (some .int), .methodLink RX7 93 yX7_record, .instanceMethod yX7_record, .selects RX7 yX7_record yX7_record, .code yX7_record cX7_record 2 none, .fieldLink RX7 33 "PartitionedCacheModel" "states" "I", .fieldLink RX7 13 "PartitionedCacheModel" "past" "[I", .fieldLink RX7 7 "PartitionedCacheModel" "row" "[I", .methodLink RX7 99 yX7_flushes, .instanceMethod yX7_flushes, .selects RX7 yX7_flushes yX7_flushes, .code yX7_flushes cX7_flushes 4 (some .int)] ++ wsX70)
def wsX7_moveWay_r1 : List Cond := [Cond.fieldLink RX7 29 "PartitionedCacheModel" "thrown" "I", Cond.methodLink RX7 93 yX7_record, Cond.instanceMethod yX7_record, Cond.selects RX7 yX7_record yX7_record, Cond.initialized RX7, Cond.code yX7_record cX7_record 2 none, Cond.fieldLink RX7 33 "PartitionedCacheModel" "states" "I", Cond.fieldLink RX7 13 "PartitionedCacheModel" "past" "[I", Cond.fieldLink RX7 7 "PartitionedCacheModel" "row" "[I", Cond.methodLink RX7 80 yX7_move, Cond.instanceMethod yX7_move, Cond.selects RX7 yX7_move yX7_move, Cond.code yX7_move cX7_move 6 (some .int), Cond.methodLink RX7 58 yX7_findTargets, Cond.instanceMethod yX7_findTargets, Cond.selects RX7 yX7_findTargets yX7_findTargets, Cond.code yX7_findTargets cX7_findTargets 3 none, Cond.fieldLink RX7 23 "PartitionedCacheModel" "targets" "[I", Cond.methodLink RX7 55 yX7_giveSome, Cond.instanceMethod yX7_giveSome, Cond.selects RX7 yX7_giveSome yX7_giveSome, Cond.code yX7_giveSome cX7_giveSome 9 (some .int), Cond.methodLink RX7 48 yX7_gained, Cond.instanceMethod yX7_gained]
def wsX7_moveWay_r2 : List Cond := [Cond.selects RX7 yX7_gained yX7_gained, Cond.code yX7_gained cX7_gained 5 (some .int), Cond.methodLink RX7 51 yX7_lowestTarget, Cond.instanceMethod yX7_lowestTarget, Cond.selects RX7 yX7_lowestTarget yX7_lowestTarget, Cond.code yX7_lowestTarget cX7_lowestTarget 3 (some .int), Cond.methodLink RX7 61 yX7_deficit, Cond.instanceMethod yX7_deficit, Cond.selects RX7 yX7_deficit yX7_deficit, Cond.code yX7_deficit cX7_deficit 2 (some .int), Cond.methodLink RX7 44 yX7_owned, Cond.instanceMethod yX7_owned, Cond.selects RX7 yX7_owned yX7_owned, Cond.code yX7_owned cX7_owned 4 (some .int), Cond.methodLink RX7 64 yX7_linesIn, Cond.instanceMethod yX7_linesIn, Cond.selects RX7 yX7_linesIn yX7_linesIn, Cond.code yX7_linesIn cX7_linesIn 6 (some .int)]
def wsX7_moveWay : List Cond := .code yX7_moveWay cX7_moveWay 1 (some .int) :: ((wsX7_moveWay_r1 ++ wsX7_moveWay_r2) ++ wsX70)
def wsX7_giveWay : List Cond := .code yX7_giveWay cX7_giveWay 4 (some .int) :: ([.fieldLink RX7 29 "PartitionedCacheModel" "thrown" "I", .fieldLink RX7 7 "PartitionedCacheModel" "row" "[I", .methodLink RX7 86 yX7_in, .static yX7_in, .initialized RX7, .code yX7_in cX7_in 3 (some .boolean), .methodLink RX7 90 yX7_fails, .instanceMethod yX7_fails, .selects RX7 yX7_fails yX7_fails, .code yX7_fails cX7_fails 2 (some .int), .methodLink RX7 93 yX7_record, .instanceMethod yX7_record, .selects RX7 yX7_record yX7_record, .code yX7_record cX7_record 2 none, .fieldLink RX7 33 "PartitionedCacheModel" "states" "I", .fieldLink RX7 13 "PartitionedCacheModel" "past" "[I"] ++ wsX70)
def wsX7_setLeast : List Cond := .code yX7_setLeast cX7_setLeast 4 (some .int) :: ([.fieldLink RX7 29 "PartitionedCacheModel" "thrown" "I", .fieldLink RX7 7 "PartitionedCacheModel" "row" "[I", .methodLink RX7 86 yX7_in, .static yX7_in, .initialized RX7, .code yX7_in cX7_in 3 (some .boolean), .methodLink RX7 90 yX7_fails, .instanceMethod yX7_fails, .selects RX7 yX7_fails yX7_fails, .code yX7_fails cX7_fails 2 (some .int), .methodLink RX7 93 yX7_record, .instanceMethod yX7_record, .selects RX7 yX7_record yX7_record, .code yX7_record cX7_record 2 none, .fieldLink RX7 33 "PartitionedCacheModel" "states" "I", .fieldLink RX7 13 "PartitionedCacheModel" "past" "[I"] ++ wsX70)
def wsX7_setEpoch : List Cond := .code yX7_setEpoch cX7_setEpoch 3 (some .int) :: ([.fieldLink RX7 29 "PartitionedCacheModel" "thrown" "I", .fieldLink RX7 7 "PartitionedCacheModel" "row" "[I", .methodLink RX7 86 yX7_in, .static yX7_in, .initialized RX7, .code yX7_in cX7_in 3 (some .boolean), .methodLink RX7 90 yX7_fails, .instanceMethod yX7_fails, .selects RX7 yX7_fails yX7_fails, .code yX7_fails cX7_fails 2 (some .int), .methodLink RX7 93 yX7_record, .instanceMethod yX7_record, .selects RX7 yX7_record yX7_record, .code yX7_record cX7_record 2 none, .fieldLink RX7 33 "PartitionedCacheModel" "states" "I", .fieldLink RX7 13 "PartitionedCacheModel" "past" "[I"] ++ wsX70)
def wsX7_halveGains : List Cond := .code yX7_halveGains cX7_halveGains 1 (some .int) :: ([.fieldLink RX7 29 "PartitionedCacheModel" "thrown" "I", .methodLink RX7 93 yX7_record, .instanceMethod yX7_record, .selects RX7 yX7_record yX7_record, .initialized RX7, .code yX7_record cX7_record 2 none, .fieldLink RX7 33 "PartitionedCacheModel" "states" "I", .fieldLink RX7 13 "PartitionedCacheModel" "past" "[I", .fieldLink RX7 7 "PartitionedCacheModel" "row" "[I", .methodLink RX7 83 yX7_halve, .instanceMethod yX7_halve, .selects RX7 yX7_halve yX7_halve, .code yX7_halve cX7_halve 3 (some .int)] ++ wsX70)
def wsX7_appendText : List Cond := .code yX7_appendText cX7_appendText 2 (some .int) :: ([.fieldLink RX7 29 "PartitionedCacheModel" "thrown" "I", .fieldLink RX7 102 "PartitionedCacheModel" "length" "I", .fieldLink RX7 26 "PartitionedCacheModel" "buffer" "[I", .methodLink RX7 86 yX7_in, .static yX7_in, .initialized RX7, .code yX7_in cX7_in 3 (some .boolean), .methodLink RX7 90 yX7_fails, .instanceMethod yX7_fails, .selects RX7 yX7_fails yX7_fails, .code yX7_fails cX7_fails 2 (some .int)] ++ wsX70)
def wsX7_clearText : List Cond := .code yX7_clearText cX7_clearText 2 (some .int) :: ([.fieldLink RX7 29 "PartitionedCacheModel" "thrown" "I", .fieldLink RX7 102 "PartitionedCacheModel" "length" "I"] ++ wsX70)
def wsX7_sees : List Cond := .code yX7_sees cX7_sees 3 (some .boolean) :: ([.fieldLink RX7 105 "PartitionedCacheModel" "at" "I", .fieldLink RX7 102 "PartitionedCacheModel" "length" "I", .fieldLink RX7 26 "PartitionedCacheModel" "buffer" "[I", .methodLink RX7 86 yX7_in, .static yX7_in, .initialized RX7, .code yX7_in cX7_in 3 (some .boolean)] ++ wsX70)
def wsX7_takes : List Cond := .code yX7_takes cX7_takes 3 (some .boolean) :: ([.fieldLink RX7 105 "PartitionedCacheModel" "at" "I", .methodLink RX7 108 yX7_sees, .instanceMethod yX7_sees, .selects RX7 yX7_sees yX7_sees, .initialized RX7, .code yX7_sees cX7_sees 3 (some .boolean), .fieldLink RX7 102 "PartitionedCacheModel" "length" "I", .fieldLink RX7 26 "PartitionedCacheModel" "buffer" "[I", .methodLink RX7 86 yX7_in, .static yX7_in, .code yX7_in cX7_in 3 (some .boolean)] ++ wsX70)
def wsX7_reads : List Cond := .code yX7_reads cX7_reads 1 (some .boolean) :: ([.fieldLink RX7 26 "PartitionedCacheModel" "buffer" "[I", .fieldLink RX7 105 "PartitionedCacheModel" "at" "I", .fieldLink RX7 112 "PartitionedCacheModel" "number" "I", .methodLink RX7 108 yX7_sees, .instanceMethod yX7_sees, .selects RX7 yX7_sees yX7_sees, .initialized RX7, .code yX7_sees cX7_sees 3 (some .boolean), .fieldLink RX7 102 "PartitionedCacheModel" "length" "I", .methodLink RX7 86 yX7_in, .static yX7_in, .code yX7_in cX7_in 3 (some .boolean)] ++ wsX70)
def wsX7_command : List Cond := .code yX7_command cX7_command 3 (some .int) :: ([.fieldLink RX7 26 "PartitionedCacheModel" "buffer" "[I", .fieldLink RX7 105 "PartitionedCacheModel" "at" "I", .methodLink RX7 115 yX7_takes, .instanceMethod yX7_takes, .selects RX7 yX7_takes yX7_takes, .initialized RX7, .code yX7_takes cX7_takes 3 (some .boolean), .methodLink RX7 108 yX7_sees, .instanceMethod yX7_sees, .selects RX7 yX7_sees yX7_sees, .code yX7_sees cX7_sees 3 (some .boolean), .fieldLink RX7 102 "PartitionedCacheModel" "length" "I", .methodLink RX7 86 yX7_in, .static yX7_in, .code yX7_in cX7_in 3 (some .boolean), .methodLink RX7 119 yX7_reads, .instanceMethod yX7_reads, .selects RX7 yX7_reads yX7_reads, .code yX7_reads cX7_reads 1 (some .boolean), .fieldLink RX7 112 "PartitionedCacheModel" "number" "I"] ++ wsX70)
def wsX7_isValid : List Cond := .code yX7_isValid cX7_isValid 2 (some .boolean) :: ([.fieldLink RX7 105 "PartitionedCacheModel" "at" "I", .fieldLink RX7 102 "PartitionedCacheModel" "length" "I", .methodLink RX7 123 yX7_command, .instanceMethod yX7_command, .selects RX7 yX7_command yX7_command, .initialized RX7, .code yX7_command cX7_command 3 (some .int), .fieldLink RX7 26 "PartitionedCacheModel" "buffer" "[I", .methodLink RX7 115 yX7_takes, .instanceMethod yX7_takes, .selects RX7 yX7_takes yX7_takes, .code yX7_takes cX7_takes 3 (some .boolean), .methodLink RX7 108 yX7_sees, .instanceMethod yX7_sees, .selects RX7 yX7_sees yX7_sees, .code yX7_sees cX7_sees 3 (some .boolean), .methodLink RX7 86 yX7_in, .static yX7_in, .code yX7_in cX7_in 3 (some .boolean), .methodLink RX7 119 yX7_reads, .instanceMethod yX7_reads, .selects RX7 yX7_reads yX7_reads, .code yX7_reads cX7_reads 1 (some .boolean), .fieldLink RX7 112 "PartitionedCacheModel" "number" "I"] ++ wsX70)
def wsX7_errorPosition_r1 : List Cond := [Cond.fieldLink RX7 29 "PartitionedCacheModel" "thrown" "I", Cond.fieldLink RX7 105 "PartitionedCacheModel" "at" "I", Cond.methodLink RX7 126 yX7_isValid, Cond.instanceMethod yX7_isValid, Cond.selects RX7 yX7_isValid yX7_isValid, Cond.initialized RX7, Cond.code yX7_isValid cX7_isValid 2 (some .boolean), Cond.fieldLink RX7 102 "PartitionedCacheModel" "length" "I", Cond.methodLink RX7 123 yX7_command, Cond.instanceMethod yX7_command, Cond.selects RX7 yX7_command yX7_command, Cond.code yX7_command cX7_command 3 (some .int), Cond.fieldLink RX7 26 "PartitionedCacheModel" "buffer" "[I", Cond.methodLink RX7 115 yX7_takes, Cond.instanceMethod yX7_takes, Cond.selects RX7 yX7_takes yX7_takes, Cond.code yX7_takes cX7_takes 3 (some .boolean), Cond.methodLink RX7 108 yX7_sees, Cond.instanceMethod yX7_sees, Cond.selects RX7 yX7_sees yX7_sees, Cond.code yX7_sees cX7_sees 3 (some .boolean), Cond.methodLink RX7 86 yX7_in, Cond.static yX7_in, Cond.code yX7_in cX7_in 3 (some .boolean)]
def wsX7_errorPosition_r2 : List Cond := [Cond.methodLink RX7 119 yX7_reads, Cond.instanceMethod yX7_reads, Cond.selects RX7 yX7_reads yX7_reads, Cond.code yX7_reads cX7_reads 1 (some .boolean), Cond.fieldLink RX7 112 "PartitionedCacheModel" "number" "I"]
def wsX7_errorPosition : List Cond := .code yX7_errorPosition cX7_errorPosition 1 (some .int) :: ((wsX7_errorPosition_r1 ++ wsX7_errorPosition_r2) ++ wsX70)
def wsX7_does_r1 : List Cond := [Cond.fieldLink RX7 112 "PartitionedCacheModel" "number" "I", Cond.methodLink RX7 80 yX7_move, Cond.instanceMethod yX7_move, Cond.selects RX7 yX7_move yX7_move, Cond.initialized RX7, Cond.code yX7_move cX7_move 6 (some .int), Cond.fieldLink RX7 7 "PartitionedCacheModel" "row" "[I", Cond.methodLink RX7 58 yX7_findTargets, Cond.instanceMethod yX7_findTargets, Cond.selects RX7 yX7_findTargets yX7_findTargets, Cond.code yX7_findTargets cX7_findTargets 3 none, Cond.fieldLink RX7 23 "PartitionedCacheModel" "targets" "[I", Cond.methodLink RX7 55 yX7_giveSome, Cond.instanceMethod yX7_giveSome, Cond.selects RX7 yX7_giveSome yX7_giveSome, Cond.code yX7_giveSome cX7_giveSome 9 (some .int), Cond.methodLink RX7 48 yX7_gained, Cond.instanceMethod yX7_gained, Cond.selects RX7 yX7_gained yX7_gained, Cond.code yX7_gained cX7_gained 5 (some .int), Cond.methodLink RX7 51 yX7_lowestTarget, Cond.instanceMethod yX7_lowestTarget, Cond.selects RX7 yX7_lowestTarget yX7_lowestTarget, Cond.code yX7_lowestTarget cX7_lowestTarget 3 (some .int)]
def wsX7_does_r2 : List Cond := [Cond.methodLink RX7 61 yX7_deficit, Cond.instanceMethod yX7_deficit, Cond.selects RX7 yX7_deficit yX7_deficit, Cond.code yX7_deficit cX7_deficit 2 (some .int), Cond.methodLink RX7 44 yX7_owned, Cond.instanceMethod yX7_owned, Cond.selects RX7 yX7_owned yX7_owned, Cond.code yX7_owned cX7_owned 4 (some .int), Cond.methodLink RX7 64 yX7_linesIn, Cond.instanceMethod yX7_linesIn, Cond.selects RX7 yX7_linesIn yX7_linesIn, Cond.code yX7_linesIn cX7_linesIn 6 (some .int), Cond.methodLink RX7 83 yX7_halve, Cond.instanceMethod yX7_halve, Cond.selects RX7 yX7_halve yX7_halve, Cond.code yX7_halve cX7_halve 3 (some .int), Cond.methodLink RX7 99 yX7_flushes, Cond.instanceMethod yX7_flushes, Cond.selects RX7 yX7_flushes yX7_flushes, Cond.code yX7_flushes cX7_flushes 4 (some .int), Cond.methodLink RX7 96 yX7_visits, Cond.instanceMethod yX7_visits, Cond.selects RX7 yX7_visits yX7_visits, Cond.code yX7_visits cX7_visits 5 (some .int)]
def wsX7_does_r3 : List Cond := [Cond.methodLink RX7 70 yX7_watch, Cond.instanceMethod yX7_watch, Cond.selects RX7 yX7_watch yX7_watch, Cond.code yX7_watch cX7_watch 8 none, Cond.methodLink RX7 74 yX7_wouldBe, Cond.instanceMethod yX7_wouldBe, Cond.selects RX7 yX7_wouldBe yX7_wouldBe, Cond.code yX7_wouldBe cX7_wouldBe 3 (some .int), Cond.methodLink RX7 40 yX7_find, Cond.instanceMethod yX7_find, Cond.selects RX7 yX7_find yX7_find, Cond.code yX7_find cX7_find 5 (some .int), Cond.methodLink RX7 77 yX7_put, Cond.instanceMethod yX7_put, Cond.selects RX7 yX7_put yX7_put, Cond.code yX7_put cX7_put 4 none, Cond.methodLink RX7 67 yX7_placeFor, Cond.instanceMethod yX7_placeFor, Cond.selects RX7 yX7_placeFor yX7_placeFor, Cond.code yX7_placeFor cX7_placeFor 7 (some .int)]
def wsX7_does : List Cond := .code yX7_does cX7_does 3 (some .int) :: ((wsX7_does_r1 ++ (wsX7_does_r2 ++ wsX7_does_r3)) ++ wsX70)
def wsX7_runText_r1 : List Cond := [Cond.fieldLink RX7 29 "PartitionedCacheModel" "thrown" "I", Cond.fieldLink RX7 105 "PartitionedCacheModel" "at" "I", Cond.fieldLink RX7 102 "PartitionedCacheModel" "length" "I", Cond.methodLink RX7 126 yX7_isValid, Cond.instanceMethod yX7_isValid, Cond.selects RX7 yX7_isValid yX7_isValid, Cond.initialized RX7, Cond.code yX7_isValid cX7_isValid 2 (some .boolean), Cond.methodLink RX7 123 yX7_command, Cond.instanceMethod yX7_command, Cond.selects RX7 yX7_command yX7_command, Cond.code yX7_command cX7_command 3 (some .int), Cond.fieldLink RX7 26 "PartitionedCacheModel" "buffer" "[I", Cond.methodLink RX7 115 yX7_takes, Cond.instanceMethod yX7_takes, Cond.selects RX7 yX7_takes yX7_takes, Cond.code yX7_takes cX7_takes 3 (some .boolean), Cond.methodLink RX7 108 yX7_sees, Cond.instanceMethod yX7_sees, Cond.selects RX7 yX7_sees yX7_sees, Cond.code yX7_sees cX7_sees 3 (some .boolean), Cond.methodLink RX7 86 yX7_in, Cond.static yX7_in, Cond.code yX7_in cX7_in 3 (some .boolean)]
def wsX7_runText_r2 : List Cond := [Cond.methodLink RX7 119 yX7_reads, Cond.instanceMethod yX7_reads, Cond.selects RX7 yX7_reads yX7_reads, Cond.code yX7_reads cX7_reads 1 (some .boolean), Cond.fieldLink RX7 112 "PartitionedCacheModel" "number" "I", Cond.methodLink RX7 90 yX7_fails, Cond.instanceMethod yX7_fails, Cond.selects RX7 yX7_fails yX7_fails, Cond.code yX7_fails cX7_fails 2 (some .int), Cond.methodLink RX7 93 yX7_record, Cond.instanceMethod yX7_record, Cond.selects RX7 yX7_record yX7_record, Cond.code yX7_record cX7_record 2 none, Cond.fieldLink RX7 33 "PartitionedCacheModel" "states" "I", Cond.fieldLink RX7 13 "PartitionedCacheModel" "past" "[I", Cond.fieldLink RX7 7 "PartitionedCacheModel" "row" "[I", Cond.methodLink RX7 129 yX7_does, Cond.instanceMethod yX7_does, Cond.selects RX7 yX7_does yX7_does, Cond.code yX7_does cX7_does 3 (some .int), Cond.methodLink RX7 80 yX7_move, Cond.instanceMethod yX7_move, Cond.selects RX7 yX7_move yX7_move, Cond.code yX7_move cX7_move 6 (some .int)]
def wsX7_runText_r3 : List Cond := [Cond.methodLink RX7 58 yX7_findTargets, Cond.instanceMethod yX7_findTargets, Cond.selects RX7 yX7_findTargets yX7_findTargets, Cond.code yX7_findTargets cX7_findTargets 3 none, Cond.fieldLink RX7 23 "PartitionedCacheModel" "targets" "[I", Cond.methodLink RX7 55 yX7_giveSome, Cond.instanceMethod yX7_giveSome, Cond.selects RX7 yX7_giveSome yX7_giveSome, Cond.code yX7_giveSome cX7_giveSome 9 (some .int), Cond.methodLink RX7 48 yX7_gained, Cond.instanceMethod yX7_gained, Cond.selects RX7 yX7_gained yX7_gained, Cond.code yX7_gained cX7_gained 5 (some .int), Cond.methodLink RX7 51 yX7_lowestTarget, Cond.instanceMethod yX7_lowestTarget, Cond.selects RX7 yX7_lowestTarget yX7_lowestTarget, Cond.code yX7_lowestTarget cX7_lowestTarget 3 (some .int), Cond.methodLink RX7 61 yX7_deficit, Cond.instanceMethod yX7_deficit, Cond.selects RX7 yX7_deficit yX7_deficit, Cond.code yX7_deficit cX7_deficit 2 (some .int), Cond.methodLink RX7 44 yX7_owned, Cond.instanceMethod yX7_owned, Cond.selects RX7 yX7_owned yX7_owned]
def wsX7_runText_r4 : List Cond := [Cond.code yX7_owned cX7_owned 4 (some .int), Cond.methodLink RX7 64 yX7_linesIn, Cond.instanceMethod yX7_linesIn, Cond.selects RX7 yX7_linesIn yX7_linesIn, Cond.code yX7_linesIn cX7_linesIn 6 (some .int), Cond.methodLink RX7 83 yX7_halve, Cond.instanceMethod yX7_halve, Cond.selects RX7 yX7_halve yX7_halve, Cond.code yX7_halve cX7_halve 3 (some .int), Cond.methodLink RX7 99 yX7_flushes, Cond.instanceMethod yX7_flushes, Cond.selects RX7 yX7_flushes yX7_flushes, Cond.code yX7_flushes cX7_flushes 4 (some .int), Cond.methodLink RX7 96 yX7_visits, Cond.instanceMethod yX7_visits, Cond.selects RX7 yX7_visits yX7_visits, Cond.code yX7_visits cX7_visits 5 (some .int), Cond.methodLink RX7 70 yX7_watch, Cond.instanceMethod yX7_watch, Cond.selects RX7 yX7_watch yX7_watch, Cond.code yX7_watch cX7_watch 8 none, Cond.methodLink RX7 74 yX7_wouldBe, Cond.instanceMethod yX7_wouldBe, Cond.selects RX7 yX7_wouldBe yX7_wouldBe]
def wsX7_runText_r5 : List Cond := [Cond.code yX7_wouldBe cX7_wouldBe 3 (some .int), Cond.methodLink RX7 40 yX7_find, Cond.instanceMethod yX7_find, Cond.selects RX7 yX7_find yX7_find, Cond.code yX7_find cX7_find 5 (some .int), Cond.methodLink RX7 77 yX7_put, Cond.instanceMethod yX7_put, Cond.selects RX7 yX7_put yX7_put, Cond.code yX7_put cX7_put 4 none, Cond.methodLink RX7 67 yX7_placeFor, Cond.instanceMethod yX7_placeFor, Cond.selects RX7 yX7_placeFor yX7_placeFor, Cond.code yX7_placeFor cX7_placeFor 7 (some .int)]
def wsX7_runText : List Cond := .code yX7_runText cX7_runText 2 (some .int) :: ((wsX7_runText_r1 ++ (wsX7_runText_r2 ++ (wsX7_runText_r3 ++ (wsX7_runText_r4 ++ wsX7_runText_r5)))) ++ wsX70)
def wsX7_undo : List Cond := .code yX7_undo cX7_undo 2 (some .int) :: ([.fieldLink RX7 29 "PartitionedCacheModel" "thrown" "I", .fieldLink RX7 33 "PartitionedCacheModel" "states" "I", .fieldLink RX7 7 "PartitionedCacheModel" "row" "[I", .fieldLink RX7 13 "PartitionedCacheModel" "past" "[I", .methodLink RX7 90 yX7_fails, .instanceMethod yX7_fails, .selects RX7 yX7_fails yX7_fails, .initialized RX7, .code yX7_fails cX7_fails 2 (some .int)] ++ wsX70)
def wsX7_save : List Cond := .code yX7_save cX7_save 3 (some .int) :: ([.fieldLink RX7 29 "PartitionedCacheModel" "thrown" "I", .fieldLink RX7 16 "PartitionedCacheModel" "slots" "[I", .fieldLink RX7 7 "PartitionedCacheModel" "row" "[I", .fieldLink RX7 19 "PartitionedCacheModel" "has" "[Z", .methodLink RX7 86 yX7_in, .static yX7_in, .initialized RX7, .code yX7_in cX7_in 3 (some .boolean), .methodLink RX7 90 yX7_fails, .instanceMethod yX7_fails, .selects RX7 yX7_fails yX7_fails, .code yX7_fails cX7_fails 2 (some .int), .methodLink RX7 132 yX7_allLines, .instanceMethod yX7_allLines, .selects RX7 yX7_allLines yX7_allLines, .code yX7_allLines cX7_allLines 1 (some .int), .methodLink RX7 36 yX7_linesOf, .instanceMethod yX7_linesOf, .selects RX7 yX7_linesOf yX7_linesOf, .code yX7_linesOf cX7_linesOf 6 (some .int)] ++ wsX70)
def wsX7_restore_r1 : List Cond := [Cond.fieldLink RX7 29 "PartitionedCacheModel" "thrown" "I", Cond.fieldLink RX7 19 "PartitionedCacheModel" "has" "[Z", Cond.fieldLink RX7 7 "PartitionedCacheModel" "row" "[I", Cond.fieldLink RX7 16 "PartitionedCacheModel" "slots" "[I", Cond.methodLink RX7 86 yX7_in, Cond.static yX7_in, Cond.initialized RX7, Cond.code yX7_in cX7_in 3 (some .boolean), Cond.methodLink RX7 90 yX7_fails, Cond.instanceMethod yX7_fails, Cond.selects RX7 yX7_fails yX7_fails, Cond.code yX7_fails cX7_fails 2 (some .int), Cond.methodLink RX7 93 yX7_record, Cond.instanceMethod yX7_record, Cond.selects RX7 yX7_record yX7_record, Cond.code yX7_record cX7_record 2 none, Cond.fieldLink RX7 33 "PartitionedCacheModel" "states" "I", Cond.fieldLink RX7 13 "PartitionedCacheModel" "past" "[I", Cond.methodLink RX7 132 yX7_allLines, Cond.instanceMethod yX7_allLines, Cond.selects RX7 yX7_allLines yX7_allLines, Cond.code yX7_allLines cX7_allLines 1 (some .int), Cond.methodLink RX7 36 yX7_linesOf, Cond.instanceMethod yX7_linesOf]
def wsX7_restore_r2 : List Cond := [Cond.selects RX7 yX7_linesOf yX7_linesOf, Cond.code yX7_linesOf cX7_linesOf 6 (some .int)]
def wsX7_restore : List Cond := .code yX7_restore cX7_restore 3 (some .int) :: ((wsX7_restore_r1 ++ wsX7_restore_r2) ++ wsX70)
def wsX7_owner : List Cond := .code yX7_owner cX7_owner 2 (some .int) :: ([.fieldLink RX7 29 "PartitionedCacheModel" "thrown" "I", .fieldLink RX7 7 "PartitionedCacheModel" "row" "[I", .methodLink RX7 86 yX7_in, .static yX7_in, .initialized RX7, .code yX7_in cX7_in 3 (some .boolean), .methodLink RX7 90 yX7_fails, .instanceMethod yX7_fails, .selects RX7 yX7_fails yX7_fails, .code yX7_fails cX7_fails 2 (some .int)] ++ wsX70)
def wsX7_waysOf : List Cond := .code yX7_waysOf cX7_waysOf 2 (some .int) :: ([.fieldLink RX7 29 "PartitionedCacheModel" "thrown" "I", .methodLink RX7 86 yX7_in, .static yX7_in, .initialized RX7, .code yX7_in cX7_in 3 (some .boolean), .methodLink RX7 44 yX7_owned, .instanceMethod yX7_owned, .selects RX7 yX7_owned yX7_owned, .code yX7_owned cX7_owned 4 (some .int), .fieldLink RX7 7 "PartitionedCacheModel" "row" "[I", .methodLink RX7 90 yX7_fails, .instanceMethod yX7_fails, .selects RX7 yX7_fails yX7_fails, .code yX7_fails cX7_fails 2 (some .int)] ++ wsX70)
def wsX7_line : List Cond := .code yX7_line cX7_line 3 (some .int) :: ([.fieldLink RX7 29 "PartitionedCacheModel" "thrown" "I", .fieldLink RX7 7 "PartitionedCacheModel" "row" "[I", .methodLink RX7 86 yX7_in, .static yX7_in, .initialized RX7, .code yX7_in cX7_in 3 (some .boolean), .methodLink RX7 90 yX7_fails, .instanceMethod yX7_fails, .selects RX7 yX7_fails yX7_fails, .code yX7_fails cX7_fails 2 (some .int)] ++ wsX70)
def wsX7_lines : List Cond := .code yX7_lines cX7_lines 3 (some .int) :: ([.fieldLink RX7 29 "PartitionedCacheModel" "thrown" "I", .methodLink RX7 86 yX7_in, .static yX7_in, .initialized RX7, .code yX7_in cX7_in 3 (some .boolean), .methodLink RX7 36 yX7_linesOf, .instanceMethod yX7_linesOf, .selects RX7 yX7_linesOf yX7_linesOf, .code yX7_linesOf cX7_linesOf 6 (some .int), .fieldLink RX7 7 "PartitionedCacheModel" "row" "[I", .methodLink RX7 90 yX7_fails, .instanceMethod yX7_fails, .selects RX7 yX7_fails yX7_fails, .code yX7_fails cX7_fails 2 (some .int)] ++ wsX70)
def wsX7_ifAccessed : List Cond := .code yX7_ifAccessed cX7_ifAccessed 3 (some .int) :: ([.fieldLink RX7 29 "PartitionedCacheModel" "thrown" "I", .methodLink RX7 86 yX7_in, .static yX7_in, .initialized RX7, .code yX7_in cX7_in 3 (some .boolean), .methodLink RX7 90 yX7_fails, .instanceMethod yX7_fails, .selects RX7 yX7_fails yX7_fails, .code yX7_fails cX7_fails 2 (some .int), .methodLink RX7 74 yX7_wouldBe, .instanceMethod yX7_wouldBe, .selects RX7 yX7_wouldBe yX7_wouldBe, .code yX7_wouldBe cX7_wouldBe 3 (some .int), .methodLink RX7 40 yX7_find, .instanceMethod yX7_find, .selects RX7 yX7_find yX7_find, .code yX7_find cX7_find 5 (some .int), .fieldLink RX7 7 "PartitionedCacheModel" "row" "[I", .methodLink RX7 44 yX7_owned, .instanceMethod yX7_owned, .selects RX7 yX7_owned yX7_owned, .code yX7_owned cX7_owned 4 (some .int)] ++ wsX70)
def wsX7_victim_r1 : List Cond := [Cond.fieldLink RX7 29 "PartitionedCacheModel" "thrown" "I", Cond.fieldLink RX7 7 "PartitionedCacheModel" "row" "[I", Cond.methodLink RX7 86 yX7_in, Cond.static yX7_in, Cond.initialized RX7, Cond.code yX7_in cX7_in 3 (some .boolean), Cond.methodLink RX7 90 yX7_fails, Cond.instanceMethod yX7_fails, Cond.selects RX7 yX7_fails yX7_fails, Cond.code yX7_fails cX7_fails 2 (some .int), Cond.methodLink RX7 74 yX7_wouldBe, Cond.instanceMethod yX7_wouldBe, Cond.selects RX7 yX7_wouldBe yX7_wouldBe, Cond.code yX7_wouldBe cX7_wouldBe 3 (some .int), Cond.methodLink RX7 40 yX7_find, Cond.instanceMethod yX7_find, Cond.selects RX7 yX7_find yX7_find, Cond.code yX7_find cX7_find 5 (some .int), Cond.methodLink RX7 44 yX7_owned, Cond.instanceMethod yX7_owned, Cond.selects RX7 yX7_owned yX7_owned, Cond.code yX7_owned cX7_owned 4 (some .int), Cond.methodLink RX7 67 yX7_placeFor, Cond.instanceMethod yX7_placeFor]
def wsX7_victim_r2 : List Cond := [Cond.selects RX7 yX7_placeFor yX7_placeFor, Cond.code yX7_placeFor cX7_placeFor 7 (some .int)]
def wsX7_victim : List Cond := .code yX7_victim cX7_victim 3 (some .int) :: ((wsX7_victim_r1 ++ wsX7_victim_r2) ++ wsX70)
def wsX7_gain : List Cond := .code yX7_gain cX7_gain 3 (some .int) :: ([.fieldLink RX7 29 "PartitionedCacheModel" "thrown" "I", .fieldLink RX7 7 "PartitionedCacheModel" "row" "[I", .methodLink RX7 86 yX7_in, .static yX7_in, .initialized RX7, .code yX7_in cX7_in 3 (some .boolean), .methodLink RX7 90 yX7_fails, .instanceMethod yX7_fails, .selects RX7 yX7_fails yX7_fails, .code yX7_fails cX7_fails 2 (some .int)] ++ wsX70)
def wsX7_utility : List Cond := .code yX7_utility cX7_utility 3 (some .int) :: ([.fieldLink RX7 29 "PartitionedCacheModel" "thrown" "I", .methodLink RX7 86 yX7_in, .static yX7_in, .initialized RX7, .code yX7_in cX7_in 3 (some .boolean), .methodLink RX7 90 yX7_fails, .instanceMethod yX7_fails, .selects RX7 yX7_fails yX7_fails, .code yX7_fails cX7_fails 2 (some .int), .methodLink RX7 48 yX7_gained, .instanceMethod yX7_gained, .selects RX7 yX7_gained yX7_gained, .code yX7_gained cX7_gained 5 (some .int), .fieldLink RX7 7 "PartitionedCacheModel" "row" "[I"] ++ wsX70)
def wsX7_monitored : List Cond := .code yX7_monitored cX7_monitored 5 (some .int) :: ([.fieldLink RX7 29 "PartitionedCacheModel" "thrown" "I", .fieldLink RX7 7 "PartitionedCacheModel" "row" "[I", .methodLink RX7 86 yX7_in, .static yX7_in, .initialized RX7, .code yX7_in cX7_in 3 (some .boolean), .methodLink RX7 90 yX7_fails, .instanceMethod yX7_fails, .selects RX7 yX7_fails yX7_fails, .code yX7_fails cX7_fails 2 (some .int)] ++ wsX70)
def wsX7_target_r1 : List Cond := [Cond.fieldLink RX7 29 "PartitionedCacheModel" "thrown" "I", Cond.fieldLink RX7 23 "PartitionedCacheModel" "targets" "[I", Cond.methodLink RX7 58 yX7_findTargets, Cond.instanceMethod yX7_findTargets, Cond.selects RX7 yX7_findTargets yX7_findTargets, Cond.initialized RX7, Cond.code yX7_findTargets cX7_findTargets 3 none, Cond.fieldLink RX7 7 "PartitionedCacheModel" "row" "[I", Cond.methodLink RX7 55 yX7_giveSome, Cond.instanceMethod yX7_giveSome, Cond.selects RX7 yX7_giveSome yX7_giveSome, Cond.code yX7_giveSome cX7_giveSome 9 (some .int), Cond.methodLink RX7 48 yX7_gained, Cond.instanceMethod yX7_gained, Cond.selects RX7 yX7_gained yX7_gained, Cond.code yX7_gained cX7_gained 5 (some .int), Cond.methodLink RX7 51 yX7_lowestTarget, Cond.instanceMethod yX7_lowestTarget, Cond.selects RX7 yX7_lowestTarget yX7_lowestTarget, Cond.code yX7_lowestTarget cX7_lowestTarget 3 (some .int), Cond.methodLink RX7 86 yX7_in, Cond.static yX7_in, Cond.code yX7_in cX7_in 3 (some .boolean), Cond.methodLink RX7 90 yX7_fails]
def wsX7_target_r2 : List Cond := [Cond.instanceMethod yX7_fails, Cond.selects RX7 yX7_fails yX7_fails, Cond.code yX7_fails cX7_fails 2 (some .int)]
def wsX7_target : List Cond := .code yX7_target cX7_target 2 (some .int) :: ((wsX7_target_r1 ++ wsX7_target_r2) ++ wsX70)
def wsX7_movesLeft_r1 : List Cond := [Cond.fieldLink RX7 29 "PartitionedCacheModel" "thrown" "I", Cond.methodLink RX7 58 yX7_findTargets, Cond.instanceMethod yX7_findTargets, Cond.selects RX7 yX7_findTargets yX7_findTargets, Cond.initialized RX7, Cond.code yX7_findTargets cX7_findTargets 3 none, Cond.fieldLink RX7 23 "PartitionedCacheModel" "targets" "[I", Cond.fieldLink RX7 7 "PartitionedCacheModel" "row" "[I", Cond.methodLink RX7 55 yX7_giveSome, Cond.instanceMethod yX7_giveSome, Cond.selects RX7 yX7_giveSome yX7_giveSome, Cond.code yX7_giveSome cX7_giveSome 9 (some .int), Cond.methodLink RX7 48 yX7_gained, Cond.instanceMethod yX7_gained, Cond.selects RX7 yX7_gained yX7_gained, Cond.code yX7_gained cX7_gained 5 (some .int), Cond.methodLink RX7 51 yX7_lowestTarget, Cond.instanceMethod yX7_lowestTarget, Cond.selects RX7 yX7_lowestTarget yX7_lowestTarget, Cond.code yX7_lowestTarget cX7_lowestTarget 3 (some .int), Cond.methodLink RX7 61 yX7_deficit, Cond.instanceMethod yX7_deficit, Cond.selects RX7 yX7_deficit yX7_deficit, Cond.code yX7_deficit cX7_deficit 2 (some .int)]
def wsX7_movesLeft_r2 : List Cond := [Cond.methodLink RX7 44 yX7_owned, Cond.instanceMethod yX7_owned, Cond.selects RX7 yX7_owned yX7_owned, Cond.code yX7_owned cX7_owned 4 (some .int)]
def wsX7_movesLeft : List Cond := .code yX7_movesLeft cX7_movesLeft 3 (some .int) :: ((wsX7_movesLeft_r1 ++ wsX7_movesLeft_r2) ++ wsX70)
def wsX7_totalUtility : List Cond := .code yX7_totalUtility cX7_totalUtility 3 (some .int) :: ([.fieldLink RX7 29 "PartitionedCacheModel" "thrown" "I", .methodLink RX7 44 yX7_owned, .instanceMethod yX7_owned, .selects RX7 yX7_owned yX7_owned, .initialized RX7, .code yX7_owned cX7_owned 4 (some .int), .fieldLink RX7 7 "PartitionedCacheModel" "row" "[I", .methodLink RX7 48 yX7_gained, .instanceMethod yX7_gained, .selects RX7 yX7_gained yX7_gained, .code yX7_gained cX7_gained 5 (some .int)] ++ wsX70)
def wsX7_count : List Cond := .code yX7_count cX7_count 3 (some .int) :: ([.fieldLink RX7 29 "PartitionedCacheModel" "thrown" "I", .fieldLink RX7 7 "PartitionedCacheModel" "row" "[I", .methodLink RX7 86 yX7_in, .static yX7_in, .initialized RX7, .code yX7_in cX7_in 3 (some .boolean), .methodLink RX7 90 yX7_fails, .instanceMethod yX7_fails, .selects RX7 yX7_fails yX7_fails, .code yX7_fails cX7_fails 2 (some .int)] ++ wsX70)
def wsX7_accesses : List Cond := .code yX7_accesses cX7_accesses 1 (some .int) :: ([.fieldLink RX7 29 "PartitionedCacheModel" "thrown" "I", .fieldLink RX7 7 "PartitionedCacheModel" "row" "[I"] ++ wsX70)
def wsX7_hitRate : List Cond := .code yX7_hitRate cX7_hitRate 3 (some .double) :: ([.fieldLink RX7 29 "PartitionedCacheModel" "thrown" "I", .fieldLink RX7 7 "PartitionedCacheModel" "row" "[I", .methodLink RX7 86 yX7_in, .static yX7_in, .initialized RX7, .code yX7_in cX7_in 3 (some .boolean), .methodLink RX7 90 yX7_fails, .instanceMethod yX7_fails, .selects RX7 yX7_fails yX7_fails, .code yX7_fails cX7_fails 2 (some .int)] ++ wsX70)
def wsX7_savedStates : List Cond := .code yX7_savedStates cX7_savedStates 1 (some .int) :: ([.fieldLink RX7 29 "PartitionedCacheModel" "thrown" "I", .fieldLink RX7 33 "PartitionedCacheModel" "states" "I"] ++ wsX70)
def wsX7_textLength : List Cond := .code yX7_textLength cX7_textLength 1 (some .int) :: ([.fieldLink RX7 29 "PartitionedCacheModel" "thrown" "I", .fieldLink RX7 102 "PartitionedCacheModel" "length" "I"] ++ wsX70)
def wsJ9_max_7cf53 : List Cond := .code yJ9_max_7cf53 cJ9_max_7cf53 2 (some .int) :: ([])
def wsL_access_r1 : List Cond := [Cond.classLink RL 13 "java/lang/IndexOutOfBoundsException", Cond.classLink RL 15 "java/lang/IllegalArgumentException", Cond.methodLink RL 7 yX6_access, Cond.instanceMethod yX6_access, Cond.selects RX6 yX6_access yX6_access, Cond.initialized RX6, Cond.code yX6_access cX6_access 3 (some .int), Cond.fieldLink RX6 26 "PartitionedCache" "history" "LPartitionedCache$History;", Cond.fieldLink RX6 12 "PartitionedCache" "now" "LPartitionedCache$State;", Cond.methodLink RX6 45 yX6_requireTenant, Cond.static yX6_requireTenant, Cond.code yX6_requireTenant cX6_requireTenant 1 none, Cond.methodLink RX6 75 yX6_requireIndex, Cond.static yX6_requireIndex, Cond.code yX6_requireIndex cX6_requireIndex 2 none, Cond.classLink RX6 171 "java/lang/IndexOutOfBoundsException", Cond.initialized "java/lang/IndexOutOfBoundsException", Cond.methodLink RX6 49 yX6_requireArgument, Cond.static yX6_requireArgument, Cond.code yX6_requireArgument cX6_requireArgument 3 none, Cond.classLink RX6 204 "java/lang/IllegalArgumentException", Cond.initialized "java/lang/IllegalArgumentException", Cond.methodLink RX6 53 yX1_push, Cond.instanceMethod yX1_push]
def wsL_access_r2 : List Cond := [Cond.selects RX1 yX1_push yX1_push, Cond.initialized RX1, Cond.code yX1_push cX1_push 2 none, Cond.fieldLink RX1 11 "PartitionedCache$History" "ring" "[LPartitionedCache$State;", Cond.fieldLink RX1 17 "PartitionedCache$History" "oldest" "I", Cond.fieldLink RX1 21 "PartitionedCache$History" "size" "I", Cond.methodLink RX1 25 yX4_copyFrom, Cond.instanceMethod yX4_copyFrom, Cond.selects RX4 yX4_copyFrom yX4_copyFrom, Cond.initialized RX4, Cond.code yX4_copyFrom cX4_copyFrom 2 none, Cond.fieldLink RX4 12 "PartitionedCache$State" "places" "LPartitionedCache$Places;", Cond.fieldLink RX4 21 "PartitionedCache$State" "monitors" "LPartitionedCache$Monitors;", Cond.fieldLink RX4 25 "PartitionedCache$State" "leasts" "[I", Cond.methodLink RX4 46 arraycopyName, Cond.native arraycopyName, Cond.static arraycopyName, Cond.initialized "java/lang/System", Cond.fieldLink RX4 29 "PartitionedCache$State" "counts" "[I", Cond.fieldLink RX4 32 "PartitionedCache$State" "epoch" "I", Cond.fieldLink RX4 36 "PartitionedCache$State" "accesses" "I", Cond.methodLink RX4 39 yX3_copyFrom, Cond.instanceMethod yX3_copyFrom, Cond.selects RX3 yX3_copyFrom yX3_copyFrom]
def wsL_access_r3 : List Cond := [Cond.initialized RX3, Cond.code yX3_copyFrom cX3_copyFrom 2 none, Cond.fieldLink RX3 9 "PartitionedCache$Places" "owners" "[I", Cond.methodLink RX3 21 arraycopyName, Cond.fieldLink RX3 15 "PartitionedCache$Places" "held" "[I", Cond.fieldLink RX3 18 "PartitionedCache$Places" "stamps" "[I", Cond.methodLink RX4 43 yX2_copyFrom, Cond.instanceMethod yX2_copyFrom, Cond.selects RX2 yX2_copyFrom yX2_copyFrom, Cond.initialized RX2, Cond.code yX2_copyFrom cX2_copyFrom 2 none, Cond.fieldLink RX2 9 "PartitionedCache$Monitors" "addresses" "[I", Cond.methodLink RX2 18 arraycopyName, Cond.fieldLink RX2 15 "PartitionedCache$Monitors" "gains" "[I", Cond.methodLink RX6 57 yX6_makeAccess, Cond.instanceMethod yX6_makeAccess, Cond.selects RX6 yX6_makeAccess yX6_makeAccess, Cond.code yX6_makeAccess cX6_makeAccess 4 (some .int), Cond.fieldLink RX6 90 "PartitionedCache$State" "monitors" "LPartitionedCache$Monitors;", Cond.fieldLink RX6 199 "PartitionedCache$State" "accesses" "I", Cond.fieldLink RX6 61 "PartitionedCache$State" "places" "LPartitionedCache$Places;", Cond.fieldLink RX6 196 "PartitionedCache$State" "counts" "[I", Cond.fieldLink RX6 86 "PartitionedCache$State" "epoch" "I", Cond.methodLink RX6 209 yX2_note]
def wsL_access_r4 : List Cond := [Cond.instanceMethod yX2_note, Cond.selects RX2 yX2_note yX2_note, Cond.code yX2_note cX2_note 7 none, Cond.static yX6_isSampled, Cond.code yX6_isSampled cX6_isSampled 1 (some .boolean), Cond.static yX6_listStart, Cond.code yX6_listStart cX6_listStart 2 (some .int), Cond.methodLink RX6 156 yX3_resultOf, Cond.instanceMethod yX3_resultOf, Cond.selects RX3 yX3_resultOf yX3_resultOf, Cond.code yX3_resultOf cX3_resultOf 3 (some .int), Cond.methodLink RX3 27 yX3_placeOf, Cond.instanceMethod yX3_placeOf, Cond.selects RX3 yX3_placeOf yX3_placeOf, Cond.code yX3_placeOf cX3_placeOf 5 (some .int), Cond.methodLink RX3 31 yX3_ownedWays, Cond.instanceMethod yX3_ownedWays, Cond.selects RX3 yX3_ownedWays yX3_ownedWays, Cond.code yX3_ownedWays cX3_ownedWays 4 (some .int), Cond.methodLink RX6 212 yX3_renew, Cond.instanceMethod yX3_renew, Cond.selects RX3 yX3_renew yX3_renew, Cond.code yX3_renew cX3_renew 5 none, Cond.methodLink RX6 215 yX6_bringIn]
def wsL_access_r5 : List Cond := [Cond.instanceMethod yX6_bringIn, Cond.selects RX6 yX6_bringIn yX6_bringIn, Cond.code yX6_bringIn cX6_bringIn 5 none, Cond.fieldLink RX6 147 "PartitionedCache$Places" "held" "[I", Cond.fieldLink RX6 222 "PartitionedCache$Places" "stamps" "[I", Cond.methodLink RX6 159 yX3_placeToFill, Cond.instanceMethod yX3_placeToFill, Cond.selects RX3 yX3_placeToFill yX3_placeToFill, Cond.code yX3_placeToFill cX3_placeToFill 7 (some .int), Cond.methodLink RX6 218 yX3_holdsLineOf, Cond.instanceMethod yX3_holdsLineOf, Cond.selects RX3 yX3_holdsLineOf yX3_holdsLineOf, Cond.code yX3_holdsLineOf cX3_holdsLineOf 3 (some .boolean), Cond.methodLink RX6 71 yX6_moveOneWay, Cond.instanceMethod yX6_moveOneWay, Cond.selects RX6 yX6_moveOneWay yX6_moveOneWay, Cond.code yX6_moveOneWay cX6_moveOneWay 4 (some .int), Cond.fieldLink RX6 19 "PartitionedCache" "targets" "LPartitionedCache$Targets;", Cond.fieldLink RX6 79 "PartitionedCache$Places" "owners" "[I", Cond.methodLink RX6 182 yX5_compute, Cond.instanceMethod yX5_compute, Cond.selects RX5 yX5_compute yX5_compute, Cond.initialized RX5, Cond.code yX5_compute cX5_compute 4 none]
def wsL_access_r6 : List Cond := [Cond.fieldLink RX5 9 "PartitionedCache$Targets" "ways" "[I", Cond.fieldLink RX5 15 "PartitionedCache$State" "leasts" "[I", Cond.fieldLink RX5 20 "PartitionedCache$State" "monitors" "LPartitionedCache$Monitors;", Cond.methodLink RX5 24 yX5_growOne, Cond.instanceMethod yX5_growOne, Cond.selects RX5 yX5_growOne yX5_growOne, Cond.code yX5_growOne cX5_growOne 9 (some .int), Cond.fieldLink RX5 28 "PartitionedCache$Monitors" "gains" "[I", Cond.methodLink RX5 33 yX5_lowest, Cond.instanceMethod yX5_lowest, Cond.selects RX5 yX5_lowest yX5_lowest, Cond.code yX5_lowest cX5_lowest 3 (some .int), Cond.methodLink RX6 188 yX6_deficitOf, Cond.instanceMethod yX6_deficitOf, Cond.selects RX6 yX6_deficitOf yX6_deficitOf, Cond.code yX6_deficitOf cX6_deficitOf 2 (some .int), Cond.fieldLink RX6 185 "PartitionedCache$Targets" "ways" "[I", Cond.methodLink RX6 144 yX3_ownedWays, Cond.methodLink RX6 225 yX3_wayWithFewestLines, Cond.instanceMethod yX3_wayWithFewestLines, Cond.selects RX3 yX3_wayWithFewestLines yX3_wayWithFewestLines, Cond.code yX3_wayWithFewestLines cX3_wayWithFewestLines 5 (some .int), Cond.methodLink RX3 39 yX3_linesInWay, Cond.instanceMethod yX3_linesInWay]
def wsL_access_r7 : List Cond := [Cond.selects RX3 yX3_linesInWay yX3_linesInWay, Cond.code yX3_linesInWay cX3_linesInWay 5 (some .int), Cond.methodLink RX3 35 yX3_holdsLineOf, Cond.methodLink RX6 94 yX2_halve, Cond.instanceMethod yX2_halve, Cond.selects RX2 yX2_halve yX2_halve, Cond.code yX2_halve cX2_halve 2 none]
def wsL_access : List Cond := .codeWith yL_access cL_access 5 (some .int) [(0, 10, 13, 13), (0, 10, 17, 15)] :: ((wsL_access_r1 ++ (wsL_access_r2 ++ (wsL_access_r3 ++ (wsL_access_r4 ++ (wsL_access_r5 ++ (wsL_access_r6 ++ wsL_access_r7)))))) ++ wsX60 ++ wsX10 ++ wsX40 ++ wsX30 ++ wsX20 ++ wsX50 ++ (vx_atS RX6 175 "java/lang/IndexOutOfBoundsException" ["java/lang/RuntimeException", "java/lang/Exception"]).filter goodWord ++ (vx_atS RX6 208 "java/lang/IllegalArgumentException" ["java/lang/RuntimeException", "java/lang/Exception"]).filter goodWord)
def wsL_stream_r1 : List Cond := [Cond.classLink RL 13 "java/lang/IndexOutOfBoundsException", Cond.classLink RL 15 "java/lang/IllegalArgumentException", Cond.methodLink RL 17 yX6_stream, Cond.instanceMethod yX6_stream, Cond.selects RX6 yX6_stream yX6_stream, Cond.initialized RX6, Cond.code yX6_stream cX6_stream 7 (some .int), Cond.fieldLink RX6 26 "PartitionedCache" "history" "LPartitionedCache$History;", Cond.fieldLink RX6 12 "PartitionedCache" "now" "LPartitionedCache$State;", Cond.methodLink RX6 45 yX6_requireTenant, Cond.static yX6_requireTenant, Cond.code yX6_requireTenant cX6_requireTenant 1 none, Cond.methodLink RX6 75 yX6_requireIndex, Cond.static yX6_requireIndex, Cond.code yX6_requireIndex cX6_requireIndex 2 none, Cond.classLink RX6 171 "java/lang/IndexOutOfBoundsException", Cond.initialized "java/lang/IndexOutOfBoundsException", Cond.methodLink RX6 49 yX6_requireArgument, Cond.static yX6_requireArgument, Cond.code yX6_requireArgument cX6_requireArgument 3 none, Cond.classLink RX6 204 "java/lang/IllegalArgumentException", Cond.initialized "java/lang/IllegalArgumentException", Cond.methodLink RX6 53 yX1_push, Cond.instanceMethod yX1_push]
def wsL_stream_r2 : List Cond := [Cond.selects RX1 yX1_push yX1_push, Cond.initialized RX1, Cond.code yX1_push cX1_push 2 none, Cond.fieldLink RX1 11 "PartitionedCache$History" "ring" "[LPartitionedCache$State;", Cond.fieldLink RX1 17 "PartitionedCache$History" "oldest" "I", Cond.fieldLink RX1 21 "PartitionedCache$History" "size" "I", Cond.methodLink RX1 25 yX4_copyFrom, Cond.instanceMethod yX4_copyFrom, Cond.selects RX4 yX4_copyFrom yX4_copyFrom, Cond.initialized RX4, Cond.code yX4_copyFrom cX4_copyFrom 2 none, Cond.fieldLink RX4 12 "PartitionedCache$State" "places" "LPartitionedCache$Places;", Cond.fieldLink RX4 21 "PartitionedCache$State" "monitors" "LPartitionedCache$Monitors;", Cond.fieldLink RX4 25 "PartitionedCache$State" "leasts" "[I", Cond.methodLink RX4 46 arraycopyName, Cond.native arraycopyName, Cond.static arraycopyName, Cond.initialized "java/lang/System", Cond.fieldLink RX4 29 "PartitionedCache$State" "counts" "[I", Cond.fieldLink RX4 32 "PartitionedCache$State" "epoch" "I", Cond.fieldLink RX4 36 "PartitionedCache$State" "accesses" "I", Cond.methodLink RX4 39 yX3_copyFrom, Cond.instanceMethod yX3_copyFrom, Cond.selects RX3 yX3_copyFrom yX3_copyFrom]
def wsL_stream_r3 : List Cond := [Cond.initialized RX3, Cond.code yX3_copyFrom cX3_copyFrom 2 none, Cond.fieldLink RX3 9 "PartitionedCache$Places" "owners" "[I", Cond.methodLink RX3 21 arraycopyName, Cond.fieldLink RX3 15 "PartitionedCache$Places" "held" "[I", Cond.fieldLink RX3 18 "PartitionedCache$Places" "stamps" "[I", Cond.methodLink RX4 43 yX2_copyFrom, Cond.instanceMethod yX2_copyFrom, Cond.selects RX2 yX2_copyFrom yX2_copyFrom, Cond.initialized RX2, Cond.code yX2_copyFrom cX2_copyFrom 2 none, Cond.fieldLink RX2 9 "PartitionedCache$Monitors" "addresses" "[I", Cond.methodLink RX2 18 arraycopyName, Cond.fieldLink RX2 15 "PartitionedCache$Monitors" "gains" "[I", Cond.methodLink RX6 57 yX6_makeAccess, Cond.instanceMethod yX6_makeAccess, Cond.selects RX6 yX6_makeAccess yX6_makeAccess, Cond.code yX6_makeAccess cX6_makeAccess 4 (some .int), Cond.fieldLink RX6 90 "PartitionedCache$State" "monitors" "LPartitionedCache$Monitors;", Cond.fieldLink RX6 199 "PartitionedCache$State" "accesses" "I", Cond.fieldLink RX6 61 "PartitionedCache$State" "places" "LPartitionedCache$Places;", Cond.fieldLink RX6 196 "PartitionedCache$State" "counts" "[I", Cond.fieldLink RX6 86 "PartitionedCache$State" "epoch" "I", Cond.methodLink RX6 209 yX2_note]
def wsL_stream_r4 : List Cond := [Cond.instanceMethod yX2_note, Cond.selects RX2 yX2_note yX2_note, Cond.code yX2_note cX2_note 7 none, Cond.static yX6_isSampled, Cond.code yX6_isSampled cX6_isSampled 1 (some .boolean), Cond.static yX6_listStart, Cond.code yX6_listStart cX6_listStart 2 (some .int), Cond.methodLink RX6 156 yX3_resultOf, Cond.instanceMethod yX3_resultOf, Cond.selects RX3 yX3_resultOf yX3_resultOf, Cond.code yX3_resultOf cX3_resultOf 3 (some .int), Cond.methodLink RX3 27 yX3_placeOf, Cond.instanceMethod yX3_placeOf, Cond.selects RX3 yX3_placeOf yX3_placeOf, Cond.code yX3_placeOf cX3_placeOf 5 (some .int), Cond.methodLink RX3 31 yX3_ownedWays, Cond.instanceMethod yX3_ownedWays, Cond.selects RX3 yX3_ownedWays yX3_ownedWays, Cond.code yX3_ownedWays cX3_ownedWays 4 (some .int), Cond.methodLink RX6 212 yX3_renew, Cond.instanceMethod yX3_renew, Cond.selects RX3 yX3_renew yX3_renew, Cond.code yX3_renew cX3_renew 5 none, Cond.methodLink RX6 215 yX6_bringIn]
def wsL_stream_r5 : List Cond := [Cond.instanceMethod yX6_bringIn, Cond.selects RX6 yX6_bringIn yX6_bringIn, Cond.code yX6_bringIn cX6_bringIn 5 none, Cond.fieldLink RX6 147 "PartitionedCache$Places" "held" "[I", Cond.fieldLink RX6 222 "PartitionedCache$Places" "stamps" "[I", Cond.methodLink RX6 159 yX3_placeToFill, Cond.instanceMethod yX3_placeToFill, Cond.selects RX3 yX3_placeToFill yX3_placeToFill, Cond.code yX3_placeToFill cX3_placeToFill 7 (some .int), Cond.methodLink RX6 218 yX3_holdsLineOf, Cond.instanceMethod yX3_holdsLineOf, Cond.selects RX3 yX3_holdsLineOf yX3_holdsLineOf, Cond.code yX3_holdsLineOf cX3_holdsLineOf 3 (some .boolean), Cond.methodLink RX6 71 yX6_moveOneWay, Cond.instanceMethod yX6_moveOneWay, Cond.selects RX6 yX6_moveOneWay yX6_moveOneWay, Cond.code yX6_moveOneWay cX6_moveOneWay 4 (some .int), Cond.fieldLink RX6 19 "PartitionedCache" "targets" "LPartitionedCache$Targets;", Cond.fieldLink RX6 79 "PartitionedCache$Places" "owners" "[I", Cond.methodLink RX6 182 yX5_compute, Cond.instanceMethod yX5_compute, Cond.selects RX5 yX5_compute yX5_compute, Cond.initialized RX5, Cond.code yX5_compute cX5_compute 4 none]
def wsL_stream_r6 : List Cond := [Cond.fieldLink RX5 9 "PartitionedCache$Targets" "ways" "[I", Cond.fieldLink RX5 15 "PartitionedCache$State" "leasts" "[I", Cond.fieldLink RX5 20 "PartitionedCache$State" "monitors" "LPartitionedCache$Monitors;", Cond.methodLink RX5 24 yX5_growOne, Cond.instanceMethod yX5_growOne, Cond.selects RX5 yX5_growOne yX5_growOne, Cond.code yX5_growOne cX5_growOne 9 (some .int), Cond.fieldLink RX5 28 "PartitionedCache$Monitors" "gains" "[I", Cond.methodLink RX5 33 yX5_lowest, Cond.instanceMethod yX5_lowest, Cond.selects RX5 yX5_lowest yX5_lowest, Cond.code yX5_lowest cX5_lowest 3 (some .int), Cond.methodLink RX6 188 yX6_deficitOf, Cond.instanceMethod yX6_deficitOf, Cond.selects RX6 yX6_deficitOf yX6_deficitOf, Cond.code yX6_deficitOf cX6_deficitOf 2 (some .int), Cond.fieldLink RX6 185 "PartitionedCache$Targets" "ways" "[I", Cond.methodLink RX6 144 yX3_ownedWays, Cond.methodLink RX6 225 yX3_wayWithFewestLines, Cond.instanceMethod yX3_wayWithFewestLines, Cond.selects RX3 yX3_wayWithFewestLines yX3_wayWithFewestLines, Cond.code yX3_wayWithFewestLines cX3_wayWithFewestLines 5 (some .int), Cond.methodLink RX3 39 yX3_linesInWay, Cond.instanceMethod yX3_linesInWay]
def wsL_stream_r7 : List Cond := [Cond.selects RX3 yX3_linesInWay yX3_linesInWay, Cond.code yX3_linesInWay cX3_linesInWay 5 (some .int), Cond.methodLink RX3 35 yX3_holdsLineOf, Cond.methodLink RX6 94 yX2_halve, Cond.instanceMethod yX2_halve, Cond.selects RX2 yX2_halve yX2_halve, Cond.code yX2_halve cX2_halve 2 none]
def wsL_stream : List Cond := .codeWith yL_stream cL_stream 7 (some .int) [(0, 14, 17, 13), (0, 14, 21, 15)] :: ((wsL_stream_r1 ++ (wsL_stream_r2 ++ (wsL_stream_r3 ++ (wsL_stream_r4 ++ (wsL_stream_r5 ++ (wsL_stream_r6 ++ wsL_stream_r7)))))) ++ wsX60 ++ wsX10 ++ wsX40 ++ wsX30 ++ wsX20 ++ wsX50 ++ (vx_atS RX6 175 "java/lang/IndexOutOfBoundsException" ["java/lang/RuntimeException", "java/lang/Exception"]).filter goodWord ++ (vx_atS RX6 208 "java/lang/IllegalArgumentException" ["java/lang/RuntimeException", "java/lang/Exception"]).filter goodWord)
def wsL_flush_r1 : List Cond := [Cond.classLink RL 13 "java/lang/IndexOutOfBoundsException", Cond.methodLink RL 21 yX6_flush, Cond.instanceMethod yX6_flush, Cond.selects RX6 yX6_flush yX6_flush, Cond.initialized RX6, Cond.code yX6_flush cX6_flush 2 (some .int), Cond.fieldLink RX6 26 "PartitionedCache" "history" "LPartitionedCache$History;", Cond.fieldLink RX6 12 "PartitionedCache" "now" "LPartitionedCache$State;", Cond.fieldLink RX6 61 "PartitionedCache$State" "places" "LPartitionedCache$Places;", Cond.methodLink RX6 45 yX6_requireTenant, Cond.static yX6_requireTenant, Cond.code yX6_requireTenant cX6_requireTenant 1 none, Cond.methodLink RX6 75 yX6_requireIndex, Cond.static yX6_requireIndex, Cond.code yX6_requireIndex cX6_requireIndex 2 none, Cond.classLink RX6 171 "java/lang/IndexOutOfBoundsException", Cond.initialized "java/lang/IndexOutOfBoundsException", Cond.methodLink RX6 53 yX1_push, Cond.instanceMethod yX1_push, Cond.selects RX1 yX1_push yX1_push, Cond.initialized RX1, Cond.code yX1_push cX1_push 2 none, Cond.fieldLink RX1 11 "PartitionedCache$History" "ring" "[LPartitionedCache$State;", Cond.fieldLink RX1 17 "PartitionedCache$History" "oldest" "I"]
def wsL_flush_r2 : List Cond := [Cond.fieldLink RX1 21 "PartitionedCache$History" "size" "I", Cond.methodLink RX1 25 yX4_copyFrom, Cond.instanceMethod yX4_copyFrom, Cond.selects RX4 yX4_copyFrom yX4_copyFrom, Cond.initialized RX4, Cond.code yX4_copyFrom cX4_copyFrom 2 none, Cond.fieldLink RX4 12 "PartitionedCache$State" "places" "LPartitionedCache$Places;", Cond.fieldLink RX4 21 "PartitionedCache$State" "monitors" "LPartitionedCache$Monitors;", Cond.fieldLink RX4 25 "PartitionedCache$State" "leasts" "[I", Cond.methodLink RX4 46 arraycopyName, Cond.native arraycopyName, Cond.static arraycopyName, Cond.initialized "java/lang/System", Cond.fieldLink RX4 29 "PartitionedCache$State" "counts" "[I", Cond.fieldLink RX4 32 "PartitionedCache$State" "epoch" "I", Cond.fieldLink RX4 36 "PartitionedCache$State" "accesses" "I", Cond.methodLink RX4 39 yX3_copyFrom, Cond.instanceMethod yX3_copyFrom, Cond.selects RX3 yX3_copyFrom yX3_copyFrom, Cond.initialized RX3, Cond.code yX3_copyFrom cX3_copyFrom 2 none, Cond.fieldLink RX3 9 "PartitionedCache$Places" "owners" "[I", Cond.methodLink RX3 21 arraycopyName, Cond.fieldLink RX3 15 "PartitionedCache$Places" "held" "[I"]
def wsL_flush_r3 : List Cond := [Cond.fieldLink RX3 18 "PartitionedCache$Places" "stamps" "[I", Cond.methodLink RX4 43 yX2_copyFrom, Cond.instanceMethod yX2_copyFrom, Cond.selects RX2 yX2_copyFrom yX2_copyFrom, Cond.initialized RX2, Cond.code yX2_copyFrom cX2_copyFrom 2 none, Cond.fieldLink RX2 9 "PartitionedCache$Monitors" "addresses" "[I", Cond.methodLink RX2 18 arraycopyName, Cond.fieldLink RX2 15 "PartitionedCache$Monitors" "gains" "[I", Cond.methodLink RX6 65 yX3_removeLinesOf, Cond.instanceMethod yX3_removeLinesOf, Cond.selects RX3 yX3_removeLinesOf yX3_removeLinesOf, Cond.code yX3_removeLinesOf cX3_removeLinesOf 4 (some .int), Cond.methodLink RX3 35 yX3_holdsLineOf, Cond.instanceMethod yX3_holdsLineOf, Cond.selects RX3 yX3_holdsLineOf yX3_holdsLineOf, Cond.code yX3_holdsLineOf cX3_holdsLineOf 3 (some .boolean)]
def wsL_flush : List Cond := .codeWith yL_flush cL_flush 4 (some .int) [(0, 9, 12, 13)] :: ((wsL_flush_r1 ++ (wsL_flush_r2 ++ wsL_flush_r3)) ++ wsX60 ++ wsX40 ++ wsX10 ++ wsX30 ++ wsX20 ++ (vx_atS RX6 175 "java/lang/IndexOutOfBoundsException" ["java/lang/RuntimeException", "java/lang/Exception"]).filter goodWord)
def wsL_giveWay_r1 : List Cond := [Cond.classLink RL 13 "java/lang/IndexOutOfBoundsException", Cond.methodLink RL 25 yX6_giveWay, Cond.instanceMethod yX6_giveWay, Cond.selects RX6 yX6_giveWay yX6_giveWay, Cond.initialized RX6, Cond.code yX6_giveWay cX6_giveWay 4 (some .int), Cond.fieldLink RX6 26 "PartitionedCache" "history" "LPartitionedCache$History;", Cond.fieldLink RX6 12 "PartitionedCache" "now" "LPartitionedCache$State;", Cond.fieldLink RX6 61 "PartitionedCache$State" "places" "LPartitionedCache$Places;", Cond.fieldLink RX6 79 "PartitionedCache$Places" "owners" "[I", Cond.methodLink RX6 75 yX6_requireIndex, Cond.static yX6_requireIndex, Cond.code yX6_requireIndex cX6_requireIndex 2 none, Cond.classLink RX6 171 "java/lang/IndexOutOfBoundsException", Cond.initialized "java/lang/IndexOutOfBoundsException", Cond.methodLink RX6 45 yX6_requireTenant, Cond.static yX6_requireTenant, Cond.code yX6_requireTenant cX6_requireTenant 1 none, Cond.methodLink RX6 53 yX1_push, Cond.instanceMethod yX1_push, Cond.selects RX1 yX1_push yX1_push, Cond.initialized RX1, Cond.code yX1_push cX1_push 2 none, Cond.fieldLink RX1 11 "PartitionedCache$History" "ring" "[LPartitionedCache$State;"]
def wsL_giveWay_r2 : List Cond := [Cond.fieldLink RX1 17 "PartitionedCache$History" "oldest" "I", Cond.fieldLink RX1 21 "PartitionedCache$History" "size" "I", Cond.methodLink RX1 25 yX4_copyFrom, Cond.instanceMethod yX4_copyFrom, Cond.selects RX4 yX4_copyFrom yX4_copyFrom, Cond.initialized RX4, Cond.code yX4_copyFrom cX4_copyFrom 2 none, Cond.fieldLink RX4 12 "PartitionedCache$State" "places" "LPartitionedCache$Places;", Cond.fieldLink RX4 21 "PartitionedCache$State" "monitors" "LPartitionedCache$Monitors;", Cond.fieldLink RX4 25 "PartitionedCache$State" "leasts" "[I", Cond.methodLink RX4 46 arraycopyName, Cond.native arraycopyName, Cond.static arraycopyName, Cond.initialized "java/lang/System", Cond.fieldLink RX4 29 "PartitionedCache$State" "counts" "[I", Cond.fieldLink RX4 32 "PartitionedCache$State" "epoch" "I", Cond.fieldLink RX4 36 "PartitionedCache$State" "accesses" "I", Cond.methodLink RX4 39 yX3_copyFrom, Cond.instanceMethod yX3_copyFrom, Cond.selects RX3 yX3_copyFrom yX3_copyFrom, Cond.initialized RX3, Cond.code yX3_copyFrom cX3_copyFrom 2 none, Cond.fieldLink RX3 9 "PartitionedCache$Places" "owners" "[I", Cond.methodLink RX3 21 arraycopyName]
def wsL_giveWay_r3 : List Cond := [Cond.fieldLink RX3 15 "PartitionedCache$Places" "held" "[I", Cond.fieldLink RX3 18 "PartitionedCache$Places" "stamps" "[I", Cond.methodLink RX4 43 yX2_copyFrom, Cond.instanceMethod yX2_copyFrom, Cond.selects RX2 yX2_copyFrom yX2_copyFrom, Cond.initialized RX2, Cond.code yX2_copyFrom cX2_copyFrom 2 none, Cond.fieldLink RX2 9 "PartitionedCache$Monitors" "addresses" "[I", Cond.methodLink RX2 18 arraycopyName, Cond.fieldLink RX2 15 "PartitionedCache$Monitors" "gains" "[I"]
def wsL_giveWay : List Cond := .codeWith yL_giveWay cL_giveWay 5 (some .int) [(0, 10, 13, 13)] :: ((wsL_giveWay_r1 ++ (wsL_giveWay_r2 ++ wsL_giveWay_r3)) ++ wsX60 ++ wsX40 ++ wsX30 ++ wsX10 ++ wsX20 ++ (vx_atS RX6 175 "java/lang/IndexOutOfBoundsException" ["java/lang/RuntimeException", "java/lang/Exception"]).filter goodWord)
def wsL_setLeast_r1 : List Cond := [Cond.classLink RL 13 "java/lang/IndexOutOfBoundsException", Cond.classLink RL 15 "java/lang/IllegalArgumentException", Cond.methodLink RL 28 yX6_setLeast, Cond.instanceMethod yX6_setLeast, Cond.selects RX6 yX6_setLeast yX6_setLeast, Cond.initialized RX6, Cond.code yX6_setLeast cX6_setLeast 4 (some .int), Cond.fieldLink RX6 26 "PartitionedCache" "history" "LPartitionedCache$History;", Cond.fieldLink RX6 12 "PartitionedCache" "now" "LPartitionedCache$State;", Cond.fieldLink RX6 83 "PartitionedCache$State" "leasts" "[I", Cond.methodLink RX6 45 yX6_requireTenant, Cond.static yX6_requireTenant, Cond.code yX6_requireTenant cX6_requireTenant 1 none, Cond.methodLink RX6 75 yX6_requireIndex, Cond.static yX6_requireIndex, Cond.code yX6_requireIndex cX6_requireIndex 2 none, Cond.classLink RX6 171 "java/lang/IndexOutOfBoundsException", Cond.initialized "java/lang/IndexOutOfBoundsException", Cond.methodLink RX6 49 yX6_requireArgument, Cond.static yX6_requireArgument, Cond.code yX6_requireArgument cX6_requireArgument 3 none, Cond.classLink RX6 204 "java/lang/IllegalArgumentException", Cond.initialized "java/lang/IllegalArgumentException", Cond.methodLink RX6 53 yX1_push]
def wsL_setLeast_r2 : List Cond := [Cond.instanceMethod yX1_push, Cond.selects RX1 yX1_push yX1_push, Cond.initialized RX1, Cond.code yX1_push cX1_push 2 none, Cond.fieldLink RX1 11 "PartitionedCache$History" "ring" "[LPartitionedCache$State;", Cond.fieldLink RX1 17 "PartitionedCache$History" "oldest" "I", Cond.fieldLink RX1 21 "PartitionedCache$History" "size" "I", Cond.methodLink RX1 25 yX4_copyFrom, Cond.instanceMethod yX4_copyFrom, Cond.selects RX4 yX4_copyFrom yX4_copyFrom, Cond.initialized RX4, Cond.code yX4_copyFrom cX4_copyFrom 2 none, Cond.fieldLink RX4 12 "PartitionedCache$State" "places" "LPartitionedCache$Places;", Cond.fieldLink RX4 21 "PartitionedCache$State" "monitors" "LPartitionedCache$Monitors;", Cond.fieldLink RX4 25 "PartitionedCache$State" "leasts" "[I", Cond.methodLink RX4 46 arraycopyName, Cond.native arraycopyName, Cond.static arraycopyName, Cond.initialized "java/lang/System", Cond.fieldLink RX4 29 "PartitionedCache$State" "counts" "[I", Cond.fieldLink RX4 32 "PartitionedCache$State" "epoch" "I", Cond.fieldLink RX4 36 "PartitionedCache$State" "accesses" "I", Cond.methodLink RX4 39 yX3_copyFrom, Cond.instanceMethod yX3_copyFrom]
def wsL_setLeast_r3 : List Cond := [Cond.selects RX3 yX3_copyFrom yX3_copyFrom, Cond.initialized RX3, Cond.code yX3_copyFrom cX3_copyFrom 2 none, Cond.fieldLink RX3 9 "PartitionedCache$Places" "owners" "[I", Cond.methodLink RX3 21 arraycopyName, Cond.fieldLink RX3 15 "PartitionedCache$Places" "held" "[I", Cond.fieldLink RX3 18 "PartitionedCache$Places" "stamps" "[I", Cond.methodLink RX4 43 yX2_copyFrom, Cond.instanceMethod yX2_copyFrom, Cond.selects RX2 yX2_copyFrom yX2_copyFrom, Cond.initialized RX2, Cond.code yX2_copyFrom cX2_copyFrom 2 none, Cond.fieldLink RX2 9 "PartitionedCache$Monitors" "addresses" "[I", Cond.methodLink RX2 18 arraycopyName, Cond.fieldLink RX2 15 "PartitionedCache$Monitors" "gains" "[I"]
def wsL_setLeast : List Cond := .codeWith yL_setLeast cL_setLeast 5 (some .int) [(0, 10, 13, 13), (0, 10, 17, 15)] :: ((wsL_setLeast_r1 ++ (wsL_setLeast_r2 ++ wsL_setLeast_r3)) ++ wsX60 ++ wsX40 ++ wsX10 ++ wsX30 ++ wsX20 ++ (vx_atS RX6 175 "java/lang/IndexOutOfBoundsException" ["java/lang/RuntimeException", "java/lang/Exception"]).filter goodWord ++ (vx_atS RX6 208 "java/lang/IllegalArgumentException" ["java/lang/RuntimeException", "java/lang/Exception"]).filter goodWord)
def wsL_setEpoch_r1 : List Cond := [Cond.classLink RL 15 "java/lang/IllegalArgumentException", Cond.methodLink RL 31 yX6_setEpoch, Cond.instanceMethod yX6_setEpoch, Cond.selects RX6 yX6_setEpoch yX6_setEpoch, Cond.initialized RX6, Cond.code yX6_setEpoch cX6_setEpoch 3 (some .int), Cond.fieldLink RX6 26 "PartitionedCache" "history" "LPartitionedCache$History;", Cond.fieldLink RX6 12 "PartitionedCache" "now" "LPartitionedCache$State;", Cond.fieldLink RX6 86 "PartitionedCache$State" "epoch" "I", Cond.methodLink RX6 49 yX6_requireArgument, Cond.static yX6_requireArgument, Cond.code yX6_requireArgument cX6_requireArgument 3 none, Cond.classLink RX6 204 "java/lang/IllegalArgumentException", Cond.initialized "java/lang/IllegalArgumentException", Cond.methodLink RX6 53 yX1_push, Cond.instanceMethod yX1_push, Cond.selects RX1 yX1_push yX1_push, Cond.initialized RX1, Cond.code yX1_push cX1_push 2 none, Cond.fieldLink RX1 11 "PartitionedCache$History" "ring" "[LPartitionedCache$State;", Cond.fieldLink RX1 17 "PartitionedCache$History" "oldest" "I", Cond.fieldLink RX1 21 "PartitionedCache$History" "size" "I", Cond.methodLink RX1 25 yX4_copyFrom, Cond.instanceMethod yX4_copyFrom]
def wsL_setEpoch_r2 : List Cond := [Cond.selects RX4 yX4_copyFrom yX4_copyFrom, Cond.initialized RX4, Cond.code yX4_copyFrom cX4_copyFrom 2 none, Cond.fieldLink RX4 12 "PartitionedCache$State" "places" "LPartitionedCache$Places;", Cond.fieldLink RX4 21 "PartitionedCache$State" "monitors" "LPartitionedCache$Monitors;", Cond.fieldLink RX4 25 "PartitionedCache$State" "leasts" "[I", Cond.methodLink RX4 46 arraycopyName, Cond.native arraycopyName, Cond.static arraycopyName, Cond.initialized "java/lang/System", Cond.fieldLink RX4 29 "PartitionedCache$State" "counts" "[I", Cond.fieldLink RX4 32 "PartitionedCache$State" "epoch" "I", Cond.fieldLink RX4 36 "PartitionedCache$State" "accesses" "I", Cond.methodLink RX4 39 yX3_copyFrom, Cond.instanceMethod yX3_copyFrom, Cond.selects RX3 yX3_copyFrom yX3_copyFrom, Cond.initialized RX3, Cond.code yX3_copyFrom cX3_copyFrom 2 none, Cond.fieldLink RX3 9 "PartitionedCache$Places" "owners" "[I", Cond.methodLink RX3 21 arraycopyName, Cond.fieldLink RX3 15 "PartitionedCache$Places" "held" "[I", Cond.fieldLink RX3 18 "PartitionedCache$Places" "stamps" "[I", Cond.methodLink RX4 43 yX2_copyFrom, Cond.instanceMethod yX2_copyFrom]
def wsL_setEpoch_r3 : List Cond := [Cond.selects RX2 yX2_copyFrom yX2_copyFrom, Cond.initialized RX2, Cond.code yX2_copyFrom cX2_copyFrom 2 none, Cond.fieldLink RX2 9 "PartitionedCache$Monitors" "addresses" "[I", Cond.methodLink RX2 18 arraycopyName, Cond.fieldLink RX2 15 "PartitionedCache$Monitors" "gains" "[I"]
def wsL_setEpoch : List Cond := .codeWith yL_setEpoch cL_setEpoch 4 (some .int) [(0, 9, 12, 15)] :: ((wsL_setEpoch_r1 ++ (wsL_setEpoch_r2 ++ wsL_setEpoch_r3)) ++ wsX60 ++ wsX40 ++ wsX10 ++ wsX30 ++ wsX20 ++ (vx_atS RX6 208 "java/lang/IllegalArgumentException" ["java/lang/RuntimeException", "java/lang/Exception"]).filter goodWord)
def wsL_appendText : List Cond := .codeWith yL_appendText cL_appendText 4 (some .int) [(0, 9, 12, 15), (0, 9, 15, 37)] :: ([.classLink RL 15 "java/lang/IllegalArgumentException", .classLink RL 37 "java/lang/IllegalStateException", .methodLink RL 34 yX6_appendText, .instanceMethod yX6_appendText, .selects RX6 yX6_appendText yX6_appendText, .initialized RX6, .code yX6_appendText cX6_appendText 2 (some .int), .classLink RX6 105 "java/lang/IllegalStateException", .initialized "java/lang/IllegalStateException", .fieldLink RX6 33 "PartitionedCache" "text" "LPartitionedCache$CommandText;", .fieldLink RX6 102 "PartitionedCache$CommandText" "length" "I", .methodLink RX6 49 yX6_requireArgument, .static yX6_requireArgument, .code yX6_requireArgument cX6_requireArgument 3 none, .classLink RX6 204 "java/lang/IllegalArgumentException", .initialized "java/lang/IllegalArgumentException", .methodLink RX6 112 yX0_append, .instanceMethod yX0_append, .selects RX0 yX0_append yX0_append, .initialized RX0, .code yX0_append cX0_append 2 none, .fieldLink RX0 15 "PartitionedCache$CommandText" "length" "I", .fieldLink RX0 9 "PartitionedCache$CommandText" "signs" "[C"] ++ wsX60 ++ wsX00 ++ (vx_atS RX6 109 "java/lang/IllegalStateException" ["java/lang/RuntimeException", "java/lang/Exception"]).filter goodWord ++ (vx_atS RX6 208 "java/lang/IllegalArgumentException" ["java/lang/RuntimeException", "java/lang/Exception"]).filter goodWord)
def wsL_runText_r1 : List Cond := [Cond.classLink RL 37 "java/lang/IllegalStateException", Cond.methodLink RL 39 yX6_runText, Cond.instanceMethod yX6_runText, Cond.selects RX6 yX6_runText yX6_runText, Cond.initialized RX6, Cond.code yX6_runText cX6_runText 3 (some .int), Cond.classLink RX6 105 "java/lang/IllegalStateException", Cond.initialized "java/lang/IllegalStateException", Cond.fieldLink RX6 33 "PartitionedCache" "text" "LPartitionedCache$CommandText;", Cond.fieldLink RX6 26 "PartitionedCache" "history" "LPartitionedCache$History;", Cond.fieldLink RX6 12 "PartitionedCache" "now" "LPartitionedCache$State;", Cond.fieldLink RX6 102 "PartitionedCache$CommandText" "length" "I", Cond.methodLink RX6 116 yX0_firstError, Cond.instanceMethod yX0_firstError, Cond.selects RX0 yX0_firstError yX0_firstError, Cond.initialized RX0, Cond.code yX0_firstError cX0_firstError 6 (some .int), Cond.fieldLink RX0 15 "PartitionedCache$CommandText" "length" "I", Cond.methodLink RX0 19 yX0_signAt, Cond.instanceMethod yX0_signAt, Cond.selects RX0 yX0_signAt yX0_signAt, Cond.code yX0_signAt cX0_signAt 2 (some .int), Cond.fieldLink RX0 9 "PartitionedCache$CommandText" "signs" "[C", Cond.methodLink RX0 27 yX0_stageAfter]
def wsL_runText_r2 : List Cond := [Cond.static yX0_stageAfter, Cond.code yX0_stageAfter cX0_stageAfter 3 (some .int), Cond.methodLink RX0 31 yX0_stageAfterFirst, Cond.static yX0_stageAfterFirst, Cond.code yX0_stageAfterFirst cX0_stageAfterFirst 1 (some .int), Cond.methodLink RX0 38 yX0_isTenantDigit, Cond.static yX0_isTenantDigit, Cond.code yX0_isTenantDigit cX0_isTenantDigit 1 (some .boolean), Cond.methodLink RX0 23 yX0_isDigit, Cond.static yX0_isDigit, Cond.code yX0_isDigit cX0_isDigit 1 (some .boolean), Cond.methodLink RX0 34 yX0_mayGoOn, Cond.static yX0_mayGoOn, Cond.code yX0_mayGoOn cX0_mayGoOn 2 (some .boolean), Cond.methodLink RX6 53 yX1_push, Cond.instanceMethod yX1_push, Cond.selects RX1 yX1_push yX1_push, Cond.initialized RX1, Cond.code yX1_push cX1_push 2 none, Cond.fieldLink RX1 11 "PartitionedCache$History" "ring" "[LPartitionedCache$State;", Cond.fieldLink RX1 17 "PartitionedCache$History" "oldest" "I", Cond.fieldLink RX1 21 "PartitionedCache$History" "size" "I", Cond.methodLink RX1 25 yX4_copyFrom, Cond.instanceMethod yX4_copyFrom]
def wsL_runText_r3 : List Cond := [Cond.selects RX4 yX4_copyFrom yX4_copyFrom, Cond.initialized RX4, Cond.code yX4_copyFrom cX4_copyFrom 2 none, Cond.fieldLink RX4 12 "PartitionedCache$State" "places" "LPartitionedCache$Places;", Cond.fieldLink RX4 21 "PartitionedCache$State" "monitors" "LPartitionedCache$Monitors;", Cond.fieldLink RX4 25 "PartitionedCache$State" "leasts" "[I", Cond.methodLink RX4 46 arraycopyName, Cond.native arraycopyName, Cond.static arraycopyName, Cond.initialized "java/lang/System", Cond.fieldLink RX4 29 "PartitionedCache$State" "counts" "[I", Cond.fieldLink RX4 32 "PartitionedCache$State" "epoch" "I", Cond.fieldLink RX4 36 "PartitionedCache$State" "accesses" "I", Cond.methodLink RX4 39 yX3_copyFrom, Cond.instanceMethod yX3_copyFrom, Cond.selects RX3 yX3_copyFrom yX3_copyFrom, Cond.initialized RX3, Cond.code yX3_copyFrom cX3_copyFrom 2 none, Cond.fieldLink RX3 9 "PartitionedCache$Places" "owners" "[I", Cond.methodLink RX3 21 arraycopyName, Cond.fieldLink RX3 15 "PartitionedCache$Places" "held" "[I", Cond.fieldLink RX3 18 "PartitionedCache$Places" "stamps" "[I", Cond.methodLink RX4 43 yX2_copyFrom, Cond.instanceMethod yX2_copyFrom]
def wsL_runText_r4 : List Cond := [Cond.selects RX2 yX2_copyFrom yX2_copyFrom, Cond.initialized RX2, Cond.code yX2_copyFrom cX2_copyFrom 2 none, Cond.fieldLink RX2 9 "PartitionedCache$Monitors" "addresses" "[I", Cond.methodLink RX2 18 arraycopyName, Cond.fieldLink RX2 15 "PartitionedCache$Monitors" "gains" "[I", Cond.methodLink RX6 121 yX0_commandBeginsAt, Cond.instanceMethod yX0_commandBeginsAt, Cond.selects RX0 yX0_commandBeginsAt yX0_commandBeginsAt, Cond.code yX0_commandBeginsAt cX0_commandBeginsAt 2 (some .boolean), Cond.methodLink RX6 125 yX6_runCommand, Cond.instanceMethod yX6_runCommand, Cond.selects RX6 yX6_runCommand yX6_runCommand, Cond.code yX6_runCommand cX6_runCommand 5 (some .int), Cond.fieldLink RX6 90 "PartitionedCache$State" "monitors" "LPartitionedCache$Monitors;", Cond.fieldLink RX6 61 "PartitionedCache$State" "places" "LPartitionedCache$Places;", Cond.methodLink RX6 228 yX0_signAt, Cond.methodLink RX6 71 yX6_moveOneWay, Cond.instanceMethod yX6_moveOneWay, Cond.selects RX6 yX6_moveOneWay yX6_moveOneWay, Cond.code yX6_moveOneWay cX6_moveOneWay 4 (some .int), Cond.fieldLink RX6 19 "PartitionedCache" "targets" "LPartitionedCache$Targets;", Cond.fieldLink RX6 79 "PartitionedCache$Places" "owners" "[I", Cond.methodLink RX6 182 yX5_compute]
def wsL_runText_r5 : List Cond := [Cond.instanceMethod yX5_compute, Cond.selects RX5 yX5_compute yX5_compute, Cond.initialized RX5, Cond.code yX5_compute cX5_compute 4 none, Cond.fieldLink RX5 9 "PartitionedCache$Targets" "ways" "[I", Cond.fieldLink RX5 15 "PartitionedCache$State" "leasts" "[I", Cond.fieldLink RX5 20 "PartitionedCache$State" "monitors" "LPartitionedCache$Monitors;", Cond.methodLink RX5 24 yX5_growOne, Cond.instanceMethod yX5_growOne, Cond.selects RX5 yX5_growOne yX5_growOne, Cond.code yX5_growOne cX5_growOne 9 (some .int), Cond.fieldLink RX5 28 "PartitionedCache$Monitors" "gains" "[I", Cond.methodLink RX5 33 yX5_lowest, Cond.instanceMethod yX5_lowest, Cond.selects RX5 yX5_lowest yX5_lowest, Cond.code yX5_lowest cX5_lowest 3 (some .int), Cond.methodLink RX6 188 yX6_deficitOf, Cond.instanceMethod yX6_deficitOf, Cond.selects RX6 yX6_deficitOf yX6_deficitOf, Cond.code yX6_deficitOf cX6_deficitOf 2 (some .int), Cond.fieldLink RX6 185 "PartitionedCache$Targets" "ways" "[I", Cond.methodLink RX6 144 yX3_ownedWays, Cond.instanceMethod yX3_ownedWays, Cond.selects RX3 yX3_ownedWays yX3_ownedWays]
def wsL_runText_r6 : List Cond := [Cond.code yX3_ownedWays cX3_ownedWays 4 (some .int), Cond.methodLink RX6 225 yX3_wayWithFewestLines, Cond.instanceMethod yX3_wayWithFewestLines, Cond.selects RX3 yX3_wayWithFewestLines yX3_wayWithFewestLines, Cond.code yX3_wayWithFewestLines cX3_wayWithFewestLines 5 (some .int), Cond.methodLink RX3 39 yX3_linesInWay, Cond.instanceMethod yX3_linesInWay, Cond.selects RX3 yX3_linesInWay yX3_linesInWay, Cond.code yX3_linesInWay cX3_linesInWay 5 (some .int), Cond.methodLink RX3 35 yX3_holdsLineOf, Cond.instanceMethod yX3_holdsLineOf, Cond.selects RX3 yX3_holdsLineOf yX3_holdsLineOf, Cond.code yX3_holdsLineOf cX3_holdsLineOf 3 (some .boolean), Cond.methodLink RX6 94 yX2_halve, Cond.instanceMethod yX2_halve, Cond.selects RX2 yX2_halve yX2_halve, Cond.code yX2_halve cX2_halve 2 none, Cond.methodLink RX6 65 yX3_removeLinesOf, Cond.instanceMethod yX3_removeLinesOf, Cond.selects RX3 yX3_removeLinesOf yX3_removeLinesOf, Cond.code yX3_removeLinesOf cX3_removeLinesOf 4 (some .int), Cond.methodLink RX6 231 yX0_numberAt, Cond.instanceMethod yX0_numberAt, Cond.selects RX0 yX0_numberAt yX0_numberAt]
def wsL_runText_r7 : List Cond := [Cond.code yX0_numberAt cX0_numberAt 4 (some .int), Cond.methodLink RX6 57 yX6_makeAccess, Cond.instanceMethod yX6_makeAccess, Cond.selects RX6 yX6_makeAccess yX6_makeAccess, Cond.code yX6_makeAccess cX6_makeAccess 4 (some .int), Cond.fieldLink RX6 199 "PartitionedCache$State" "accesses" "I", Cond.fieldLink RX6 196 "PartitionedCache$State" "counts" "[I", Cond.fieldLink RX6 86 "PartitionedCache$State" "epoch" "I", Cond.methodLink RX6 209 yX2_note, Cond.instanceMethod yX2_note, Cond.selects RX2 yX2_note yX2_note, Cond.code yX2_note cX2_note 7 none, Cond.static yX6_isSampled, Cond.code yX6_isSampled cX6_isSampled 1 (some .boolean), Cond.static yX6_listStart, Cond.code yX6_listStart cX6_listStart 2 (some .int), Cond.methodLink RX6 156 yX3_resultOf, Cond.instanceMethod yX3_resultOf, Cond.selects RX3 yX3_resultOf yX3_resultOf, Cond.code yX3_resultOf cX3_resultOf 3 (some .int), Cond.methodLink RX3 27 yX3_placeOf, Cond.instanceMethod yX3_placeOf, Cond.selects RX3 yX3_placeOf yX3_placeOf, Cond.code yX3_placeOf cX3_placeOf 5 (some .int)]
def wsL_runText_r8 : List Cond := [Cond.methodLink RX3 31 yX3_ownedWays, Cond.methodLink RX6 212 yX3_renew, Cond.instanceMethod yX3_renew, Cond.selects RX3 yX3_renew yX3_renew, Cond.code yX3_renew cX3_renew 5 none, Cond.methodLink RX6 215 yX6_bringIn, Cond.instanceMethod yX6_bringIn, Cond.selects RX6 yX6_bringIn yX6_bringIn, Cond.code yX6_bringIn cX6_bringIn 5 none, Cond.fieldLink RX6 147 "PartitionedCache$Places" "held" "[I", Cond.fieldLink RX6 222 "PartitionedCache$Places" "stamps" "[I", Cond.methodLink RX6 159 yX3_placeToFill, Cond.instanceMethod yX3_placeToFill, Cond.selects RX3 yX3_placeToFill yX3_placeToFill, Cond.code yX3_placeToFill cX3_placeToFill 7 (some .int), Cond.methodLink RX6 218 yX3_holdsLineOf]
def wsL_runText : List Cond := .codeWith yL_runText cL_runText 3 (some .int) [(0, 8, 11, 37)] :: ((wsL_runText_r1 ++ (wsL_runText_r2 ++ (wsL_runText_r3 ++ (wsL_runText_r4 ++ (wsL_runText_r5 ++ (wsL_runText_r6 ++ (wsL_runText_r7 ++ wsL_runText_r8))))))) ++ wsX60 ++ wsX00 ++ wsX10 ++ wsX40 ++ wsX30 ++ wsX20 ++ wsX50 ++ (vx_atS RX6 109 "java/lang/IllegalStateException" ["java/lang/RuntimeException", "java/lang/Exception"]).filter goodWord)
def wsL_undo_r1 : List Cond := [Cond.classLink RL 37 "java/lang/IllegalStateException", Cond.methodLink RL 43 yX6_undo, Cond.instanceMethod yX6_undo, Cond.selects RX6 yX6_undo yX6_undo, Cond.initialized RX6, Cond.code yX6_undo cX6_undo 1 (some .int), Cond.classLink RX6 105 "java/lang/IllegalStateException", Cond.initialized "java/lang/IllegalStateException", Cond.fieldLink RX6 26 "PartitionedCache" "history" "LPartitionedCache$History;", Cond.fieldLink RX6 128 "PartitionedCache$History" "size" "I", Cond.fieldLink RX6 12 "PartitionedCache" "now" "LPartitionedCache$State;", Cond.methodLink RX6 133 yX1_popInto, Cond.instanceMethod yX1_popInto, Cond.selects RX1 yX1_popInto yX1_popInto, Cond.initialized RX1, Cond.code yX1_popInto cX1_popInto 2 none, Cond.fieldLink RX1 21 "PartitionedCache$History" "size" "I", Cond.fieldLink RX1 11 "PartitionedCache$History" "ring" "[LPartitionedCache$State;", Cond.fieldLink RX1 17 "PartitionedCache$History" "oldest" "I", Cond.methodLink RX1 25 yX4_copyFrom, Cond.instanceMethod yX4_copyFrom, Cond.selects RX4 yX4_copyFrom yX4_copyFrom, Cond.initialized RX4, Cond.code yX4_copyFrom cX4_copyFrom 2 none]
def wsL_undo_r2 : List Cond := [Cond.fieldLink RX4 12 "PartitionedCache$State" "places" "LPartitionedCache$Places;", Cond.fieldLink RX4 21 "PartitionedCache$State" "monitors" "LPartitionedCache$Monitors;", Cond.fieldLink RX4 25 "PartitionedCache$State" "leasts" "[I", Cond.methodLink RX4 46 arraycopyName, Cond.native arraycopyName, Cond.static arraycopyName, Cond.initialized "java/lang/System", Cond.fieldLink RX4 29 "PartitionedCache$State" "counts" "[I", Cond.fieldLink RX4 32 "PartitionedCache$State" "epoch" "I", Cond.fieldLink RX4 36 "PartitionedCache$State" "accesses" "I", Cond.methodLink RX4 39 yX3_copyFrom, Cond.instanceMethod yX3_copyFrom, Cond.selects RX3 yX3_copyFrom yX3_copyFrom, Cond.initialized RX3, Cond.code yX3_copyFrom cX3_copyFrom 2 none, Cond.fieldLink RX3 9 "PartitionedCache$Places" "owners" "[I", Cond.methodLink RX3 21 arraycopyName, Cond.fieldLink RX3 15 "PartitionedCache$Places" "held" "[I", Cond.fieldLink RX3 18 "PartitionedCache$Places" "stamps" "[I", Cond.methodLink RX4 43 yX2_copyFrom, Cond.instanceMethod yX2_copyFrom, Cond.selects RX2 yX2_copyFrom yX2_copyFrom, Cond.initialized RX2, Cond.code yX2_copyFrom cX2_copyFrom 2 none]
def wsL_undo_r3 : List Cond := [Cond.fieldLink RX2 9 "PartitionedCache$Monitors" "addresses" "[I", Cond.methodLink RX2 18 arraycopyName, Cond.fieldLink RX2 15 "PartitionedCache$Monitors" "gains" "[I"]
def wsL_undo : List Cond := .codeWith yL_undo cL_undo 3 (some .int) [(0, 8, 11, 37)] :: ((wsL_undo_r1 ++ (wsL_undo_r2 ++ wsL_undo_r3)) ++ wsX60 ++ wsX10 ++ wsX40 ++ wsX30 ++ wsX20 ++ (vx_atS RX6 109 "java/lang/IllegalStateException" ["java/lang/RuntimeException", "java/lang/Exception"]).filter goodWord)
def wsL_save_r1 : List Cond := [Cond.classLink RL 13 "java/lang/IndexOutOfBoundsException", Cond.methodLink RL 46 yX6_save, Cond.instanceMethod yX6_save, Cond.selects RX6 yX6_save yX6_save, Cond.initialized RX6, Cond.code yX6_save cX6_save 2 (some .int), Cond.fieldLink RX6 37 "PartitionedCache" "slots" "[LPartitionedCache$State;", Cond.fieldLink RX6 12 "PartitionedCache" "now" "LPartitionedCache$State;", Cond.fieldLink RX6 41 "PartitionedCache" "slotFilled" "[Z", Cond.fieldLink RX6 61 "PartitionedCache$State" "places" "LPartitionedCache$Places;", Cond.methodLink RX6 75 yX6_requireIndex, Cond.static yX6_requireIndex, Cond.code yX6_requireIndex cX6_requireIndex 2 none, Cond.classLink RX6 171 "java/lang/IndexOutOfBoundsException", Cond.initialized "java/lang/IndexOutOfBoundsException", Cond.methodLink RX6 136 yX4_copyFrom, Cond.instanceMethod yX4_copyFrom, Cond.selects RX4 yX4_copyFrom yX4_copyFrom, Cond.initialized RX4, Cond.code yX4_copyFrom cX4_copyFrom 2 none, Cond.fieldLink RX4 12 "PartitionedCache$State" "places" "LPartitionedCache$Places;", Cond.fieldLink RX4 21 "PartitionedCache$State" "monitors" "LPartitionedCache$Monitors;", Cond.fieldLink RX4 25 "PartitionedCache$State" "leasts" "[I", Cond.methodLink RX4 46 arraycopyName]
def wsL_save_r2 : List Cond := [Cond.native arraycopyName, Cond.static arraycopyName, Cond.initialized "java/lang/System", Cond.fieldLink RX4 29 "PartitionedCache$State" "counts" "[I", Cond.fieldLink RX4 32 "PartitionedCache$State" "epoch" "I", Cond.fieldLink RX4 36 "PartitionedCache$State" "accesses" "I", Cond.methodLink RX4 39 yX3_copyFrom, Cond.instanceMethod yX3_copyFrom, Cond.selects RX3 yX3_copyFrom yX3_copyFrom, Cond.initialized RX3, Cond.code yX3_copyFrom cX3_copyFrom 2 none, Cond.fieldLink RX3 9 "PartitionedCache$Places" "owners" "[I", Cond.methodLink RX3 21 arraycopyName, Cond.fieldLink RX3 15 "PartitionedCache$Places" "held" "[I", Cond.fieldLink RX3 18 "PartitionedCache$Places" "stamps" "[I", Cond.methodLink RX4 43 yX2_copyFrom, Cond.instanceMethod yX2_copyFrom, Cond.selects RX2 yX2_copyFrom yX2_copyFrom, Cond.initialized RX2, Cond.code yX2_copyFrom cX2_copyFrom 2 none, Cond.fieldLink RX2 9 "PartitionedCache$Monitors" "addresses" "[I", Cond.methodLink RX2 18 arraycopyName, Cond.fieldLink RX2 15 "PartitionedCache$Monitors" "gains" "[I", Cond.methodLink RX6 139 yX3_allLines]
def wsL_save_r3 : List Cond := [Cond.instanceMethod yX3_allLines, Cond.selects RX3 yX3_allLines yX3_allLines, Cond.code yX3_allLines cX3_allLines 3 (some .int), Cond.methodLink RX3 42 yX3_linesOf, Cond.instanceMethod yX3_linesOf, Cond.selects RX3 yX3_linesOf yX3_linesOf, Cond.code yX3_linesOf cX3_linesOf 4 (some .int), Cond.methodLink RX3 39 yX3_linesInWay, Cond.instanceMethod yX3_linesInWay, Cond.selects RX3 yX3_linesInWay yX3_linesInWay, Cond.code yX3_linesInWay cX3_linesInWay 5 (some .int), Cond.methodLink RX3 35 yX3_holdsLineOf, Cond.instanceMethod yX3_holdsLineOf, Cond.selects RX3 yX3_holdsLineOf yX3_holdsLineOf, Cond.code yX3_holdsLineOf cX3_holdsLineOf 3 (some .boolean)]
def wsL_save : List Cond := .codeWith yL_save cL_save 4 (some .int) [(0, 9, 12, 13)] :: ((wsL_save_r1 ++ (wsL_save_r2 ++ wsL_save_r3)) ++ wsX60 ++ wsX40 ++ wsX30 ++ wsX20 ++ (vx_atS RX6 175 "java/lang/IndexOutOfBoundsException" ["java/lang/RuntimeException", "java/lang/Exception"]).filter goodWord)
def wsL_restore_r1 : List Cond := [Cond.classLink RL 13 "java/lang/IndexOutOfBoundsException", Cond.classLink RL 37 "java/lang/IllegalStateException", Cond.methodLink RL 49 yX6_restore, Cond.instanceMethod yX6_restore, Cond.selects RX6 yX6_restore yX6_restore, Cond.initialized RX6, Cond.code yX6_restore cX6_restore 2 (some .int), Cond.classLink RX6 105 "java/lang/IllegalStateException", Cond.initialized "java/lang/IllegalStateException", Cond.fieldLink RX6 41 "PartitionedCache" "slotFilled" "[Z", Cond.fieldLink RX6 26 "PartitionedCache" "history" "LPartitionedCache$History;", Cond.fieldLink RX6 12 "PartitionedCache" "now" "LPartitionedCache$State;", Cond.fieldLink RX6 37 "PartitionedCache" "slots" "[LPartitionedCache$State;", Cond.fieldLink RX6 61 "PartitionedCache$State" "places" "LPartitionedCache$Places;", Cond.methodLink RX6 75 yX6_requireIndex, Cond.static yX6_requireIndex, Cond.code yX6_requireIndex cX6_requireIndex 2 none, Cond.classLink RX6 171 "java/lang/IndexOutOfBoundsException", Cond.initialized "java/lang/IndexOutOfBoundsException", Cond.methodLink RX6 53 yX1_push, Cond.instanceMethod yX1_push, Cond.selects RX1 yX1_push yX1_push, Cond.initialized RX1, Cond.code yX1_push cX1_push 2 none]
def wsL_restore_r2 : List Cond := [Cond.fieldLink RX1 11 "PartitionedCache$History" "ring" "[LPartitionedCache$State;", Cond.fieldLink RX1 17 "PartitionedCache$History" "oldest" "I", Cond.fieldLink RX1 21 "PartitionedCache$History" "size" "I", Cond.methodLink RX1 25 yX4_copyFrom, Cond.instanceMethod yX4_copyFrom, Cond.selects RX4 yX4_copyFrom yX4_copyFrom, Cond.initialized RX4, Cond.code yX4_copyFrom cX4_copyFrom 2 none, Cond.fieldLink RX4 12 "PartitionedCache$State" "places" "LPartitionedCache$Places;", Cond.fieldLink RX4 21 "PartitionedCache$State" "monitors" "LPartitionedCache$Monitors;", Cond.fieldLink RX4 25 "PartitionedCache$State" "leasts" "[I", Cond.methodLink RX4 46 arraycopyName, Cond.native arraycopyName, Cond.static arraycopyName, Cond.initialized "java/lang/System", Cond.fieldLink RX4 29 "PartitionedCache$State" "counts" "[I", Cond.fieldLink RX4 32 "PartitionedCache$State" "epoch" "I", Cond.fieldLink RX4 36 "PartitionedCache$State" "accesses" "I", Cond.methodLink RX4 39 yX3_copyFrom, Cond.instanceMethod yX3_copyFrom, Cond.selects RX3 yX3_copyFrom yX3_copyFrom, Cond.initialized RX3, Cond.code yX3_copyFrom cX3_copyFrom 2 none, Cond.fieldLink RX3 9 "PartitionedCache$Places" "owners" "[I"]
def wsL_restore_r3 : List Cond := [Cond.methodLink RX3 21 arraycopyName, Cond.fieldLink RX3 15 "PartitionedCache$Places" "held" "[I", Cond.fieldLink RX3 18 "PartitionedCache$Places" "stamps" "[I", Cond.methodLink RX4 43 yX2_copyFrom, Cond.instanceMethod yX2_copyFrom, Cond.selects RX2 yX2_copyFrom yX2_copyFrom, Cond.initialized RX2, Cond.code yX2_copyFrom cX2_copyFrom 2 none, Cond.fieldLink RX2 9 "PartitionedCache$Monitors" "addresses" "[I", Cond.methodLink RX2 18 arraycopyName, Cond.fieldLink RX2 15 "PartitionedCache$Monitors" "gains" "[I", Cond.methodLink RX6 136 yX4_copyFrom, Cond.methodLink RX6 139 yX3_allLines, Cond.instanceMethod yX3_allLines, Cond.selects RX3 yX3_allLines yX3_allLines, Cond.code yX3_allLines cX3_allLines 3 (some .int), Cond.methodLink RX3 42 yX3_linesOf, Cond.instanceMethod yX3_linesOf, Cond.selects RX3 yX3_linesOf yX3_linesOf, Cond.code yX3_linesOf cX3_linesOf 4 (some .int), Cond.methodLink RX3 39 yX3_linesInWay, Cond.instanceMethod yX3_linesInWay, Cond.selects RX3 yX3_linesInWay yX3_linesInWay, Cond.code yX3_linesInWay cX3_linesInWay 5 (some .int)]
def wsL_restore_r4 : List Cond := [Cond.methodLink RX3 35 yX3_holdsLineOf, Cond.instanceMethod yX3_holdsLineOf, Cond.selects RX3 yX3_holdsLineOf yX3_holdsLineOf, Cond.code yX3_holdsLineOf cX3_holdsLineOf 3 (some .boolean)]
def wsL_restore : List Cond := .codeWith yL_restore cL_restore 4 (some .int) [(0, 9, 12, 13), (0, 9, 15, 37)] :: ((wsL_restore_r1 ++ (wsL_restore_r2 ++ (wsL_restore_r3 ++ wsL_restore_r4))) ++ wsX60 ++ wsX40 ++ wsX10 ++ wsX30 ++ wsX20 ++ (vx_atS RX6 109 "java/lang/IllegalStateException" ["java/lang/RuntimeException", "java/lang/Exception"]).filter goodWord ++ (vx_atS RX6 175 "java/lang/IndexOutOfBoundsException" ["java/lang/RuntimeException", "java/lang/Exception"]).filter goodWord)
def wsL_owner : List Cond := .codeWith yL_owner cL_owner 4 (some .int) [(0, 9, 12, 13)] :: ([.classLink RL 13 "java/lang/IndexOutOfBoundsException", .methodLink RL 52 yX6_owner, .instanceMethod yX6_owner, .selects RX6 yX6_owner yX6_owner, .initialized RX6, .code yX6_owner cX6_owner 2 (some .int), .fieldLink RX6 12 "PartitionedCache" "now" "LPartitionedCache$State;", .fieldLink RX6 61 "PartitionedCache$State" "places" "LPartitionedCache$Places;", .fieldLink RX6 79 "PartitionedCache$Places" "owners" "[I", .methodLink RX6 75 yX6_requireIndex, .static yX6_requireIndex, .code yX6_requireIndex cX6_requireIndex 2 none, .classLink RX6 171 "java/lang/IndexOutOfBoundsException", .initialized "java/lang/IndexOutOfBoundsException"] ++ wsX60 ++ wsX40 ++ wsX30 ++ (vx_atS RX6 175 "java/lang/IndexOutOfBoundsException" ["java/lang/RuntimeException", "java/lang/Exception"]).filter goodWord)
def wsL_waysOf : List Cond := .codeWith yL_waysOf cL_waysOf 4 (some .int) [(0, 9, 12, 13)] :: ([.classLink RL 13 "java/lang/IndexOutOfBoundsException", .methodLink RL 55 yX6_waysOf, .instanceMethod yX6_waysOf, .selects RX6 yX6_waysOf yX6_waysOf, .initialized RX6, .code yX6_waysOf cX6_waysOf 2 (some .int), .fieldLink RX6 12 "PartitionedCache" "now" "LPartitionedCache$State;", .fieldLink RX6 61 "PartitionedCache$State" "places" "LPartitionedCache$Places;", .methodLink RX6 45 yX6_requireTenant, .static yX6_requireTenant, .code yX6_requireTenant cX6_requireTenant 1 none, .methodLink RX6 75 yX6_requireIndex, .static yX6_requireIndex, .code yX6_requireIndex cX6_requireIndex 2 none, .classLink RX6 171 "java/lang/IndexOutOfBoundsException", .initialized "java/lang/IndexOutOfBoundsException", .methodLink RX6 144 yX3_ownedWays, .instanceMethod yX3_ownedWays, .selects RX3 yX3_ownedWays yX3_ownedWays, .initialized RX3, .code yX3_ownedWays cX3_ownedWays 4 (some .int), .fieldLink RX3 9 "PartitionedCache$Places" "owners" "[I"] ++ wsX60 ++ wsX40 ++ wsX30 ++ (vx_atS RX6 175 "java/lang/IndexOutOfBoundsException" ["java/lang/RuntimeException", "java/lang/Exception"]).filter goodWord)
def wsL_line : List Cond := .codeWith yL_line cL_line 5 (some .int) [(0, 10, 13, 13)] :: ([.classLink RL 13 "java/lang/IndexOutOfBoundsException", .methodLink RL 58 yX6_line, .instanceMethod yX6_line, .selects RX6 yX6_line yX6_line, .initialized RX6, .code yX6_line cX6_line 3 (some .int), .fieldLink RX6 12 "PartitionedCache" "now" "LPartitionedCache$State;", .fieldLink RX6 61 "PartitionedCache$State" "places" "LPartitionedCache$Places;", .fieldLink RX6 147 "PartitionedCache$Places" "held" "[I", .methodLink RX6 75 yX6_requireIndex, .static yX6_requireIndex, .code yX6_requireIndex cX6_requireIndex 2 none, .classLink RX6 171 "java/lang/IndexOutOfBoundsException", .initialized "java/lang/IndexOutOfBoundsException"] ++ wsX60 ++ wsX40 ++ wsX30 ++ (vx_atS RX6 175 "java/lang/IndexOutOfBoundsException" ["java/lang/RuntimeException", "java/lang/Exception"]).filter goodWord)
def wsL_lines_r1 : List Cond := [Cond.classLink RL 13 "java/lang/IndexOutOfBoundsException", Cond.methodLink RL 61 yX6_lines, Cond.instanceMethod yX6_lines, Cond.selects RX6 yX6_lines yX6_lines, Cond.initialized RX6, Cond.code yX6_lines cX6_lines 4 (some .int), Cond.fieldLink RX6 12 "PartitionedCache" "now" "LPartitionedCache$State;", Cond.fieldLink RX6 61 "PartitionedCache$State" "places" "LPartitionedCache$Places;", Cond.methodLink RX6 45 yX6_requireTenant, Cond.static yX6_requireTenant, Cond.code yX6_requireTenant cX6_requireTenant 1 none, Cond.methodLink RX6 75 yX6_requireIndex, Cond.static yX6_requireIndex, Cond.code yX6_requireIndex cX6_requireIndex 2 none, Cond.classLink RX6 171 "java/lang/IndexOutOfBoundsException", Cond.initialized "java/lang/IndexOutOfBoundsException", Cond.methodLink RX6 150 yX3_linesInOwnWays, Cond.instanceMethod yX3_linesInOwnWays, Cond.selects RX3 yX3_linesInOwnWays yX3_linesInOwnWays, Cond.initialized RX3, Cond.code yX3_linesInOwnWays cX3_linesInOwnWays 4 (some .int), Cond.fieldLink RX3 9 "PartitionedCache$Places" "owners" "[I", Cond.methodLink RX3 39 yX3_linesInWay, Cond.instanceMethod yX3_linesInWay]
def wsL_lines_r2 : List Cond := [Cond.selects RX3 yX3_linesInWay yX3_linesInWay, Cond.code yX3_linesInWay cX3_linesInWay 5 (some .int), Cond.methodLink RX3 35 yX3_holdsLineOf, Cond.instanceMethod yX3_holdsLineOf, Cond.selects RX3 yX3_holdsLineOf yX3_holdsLineOf, Cond.code yX3_holdsLineOf cX3_holdsLineOf 3 (some .boolean), Cond.fieldLink RX3 15 "PartitionedCache$Places" "held" "[I", Cond.methodLink RX6 153 yX3_linesOf, Cond.instanceMethod yX3_linesOf, Cond.selects RX3 yX3_linesOf yX3_linesOf, Cond.code yX3_linesOf cX3_linesOf 4 (some .int)]
def wsL_lines : List Cond := .codeWith yL_lines cL_lines 5 (some .int) [(0, 10, 13, 13)] :: ((wsL_lines_r1 ++ wsL_lines_r2) ++ wsX60 ++ wsX40 ++ wsX30 ++ (vx_atS RX6 175 "java/lang/IndexOutOfBoundsException" ["java/lang/RuntimeException", "java/lang/Exception"]).filter goodWord)
def wsL_ifAccessed_r1 : List Cond := [Cond.classLink RL 13 "java/lang/IndexOutOfBoundsException", Cond.classLink RL 15 "java/lang/IllegalArgumentException", Cond.methodLink RL 65 yX6_ifAccessed, Cond.instanceMethod yX6_ifAccessed, Cond.selects RX6 yX6_ifAccessed yX6_ifAccessed, Cond.initialized RX6, Cond.code yX6_ifAccessed cX6_ifAccessed 3 (some .int), Cond.fieldLink RX6 12 "PartitionedCache" "now" "LPartitionedCache$State;", Cond.fieldLink RX6 61 "PartitionedCache$State" "places" "LPartitionedCache$Places;", Cond.methodLink RX6 45 yX6_requireTenant, Cond.static yX6_requireTenant, Cond.code yX6_requireTenant cX6_requireTenant 1 none, Cond.methodLink RX6 75 yX6_requireIndex, Cond.static yX6_requireIndex, Cond.code yX6_requireIndex cX6_requireIndex 2 none, Cond.classLink RX6 171 "java/lang/IndexOutOfBoundsException", Cond.initialized "java/lang/IndexOutOfBoundsException", Cond.methodLink RX6 49 yX6_requireArgument, Cond.static yX6_requireArgument, Cond.code yX6_requireArgument cX6_requireArgument 3 none, Cond.classLink RX6 204 "java/lang/IllegalArgumentException", Cond.initialized "java/lang/IllegalArgumentException", Cond.methodLink RX6 156 yX3_resultOf, Cond.instanceMethod yX3_resultOf]
def wsL_ifAccessed_r2 : List Cond := [Cond.selects RX3 yX3_resultOf yX3_resultOf, Cond.initialized RX3, Cond.code yX3_resultOf cX3_resultOf 3 (some .int), Cond.methodLink RX3 27 yX3_placeOf, Cond.instanceMethod yX3_placeOf, Cond.selects RX3 yX3_placeOf yX3_placeOf, Cond.code yX3_placeOf cX3_placeOf 5 (some .int), Cond.fieldLink RX3 15 "PartitionedCache$Places" "held" "[I", Cond.methodLink RX3 31 yX3_ownedWays, Cond.instanceMethod yX3_ownedWays, Cond.selects RX3 yX3_ownedWays yX3_ownedWays, Cond.code yX3_ownedWays cX3_ownedWays 4 (some .int), Cond.fieldLink RX3 9 "PartitionedCache$Places" "owners" "[I"]
def wsL_ifAccessed : List Cond := .codeWith yL_ifAccessed cL_ifAccessed 5 (some .int) [(0, 10, 13, 13), (0, 10, 17, 15)] :: ((wsL_ifAccessed_r1 ++ wsL_ifAccessed_r2) ++ wsX60 ++ wsX40 ++ wsX30 ++ (vx_atS RX6 175 "java/lang/IndexOutOfBoundsException" ["java/lang/RuntimeException", "java/lang/Exception"]).filter goodWord ++ (vx_atS RX6 208 "java/lang/IllegalArgumentException" ["java/lang/RuntimeException", "java/lang/Exception"]).filter goodWord)
def wsL_victim_r1 : List Cond := [Cond.classLink RL 13 "java/lang/IndexOutOfBoundsException", Cond.classLink RL 15 "java/lang/IllegalArgumentException", Cond.methodLink RL 68 yX6_victim, Cond.instanceMethod yX6_victim, Cond.selects RX6 yX6_victim yX6_victim, Cond.initialized RX6, Cond.code yX6_victim cX6_victim 4 (some .int), Cond.fieldLink RX6 12 "PartitionedCache" "now" "LPartitionedCache$State;", Cond.fieldLink RX6 61 "PartitionedCache$State" "places" "LPartitionedCache$Places;", Cond.fieldLink RX6 147 "PartitionedCache$Places" "held" "[I", Cond.methodLink RX6 45 yX6_requireTenant, Cond.static yX6_requireTenant, Cond.code yX6_requireTenant cX6_requireTenant 1 none, Cond.methodLink RX6 75 yX6_requireIndex, Cond.static yX6_requireIndex, Cond.code yX6_requireIndex cX6_requireIndex 2 none, Cond.classLink RX6 171 "java/lang/IndexOutOfBoundsException", Cond.initialized "java/lang/IndexOutOfBoundsException", Cond.methodLink RX6 49 yX6_requireArgument, Cond.static yX6_requireArgument, Cond.code yX6_requireArgument cX6_requireArgument 3 none, Cond.classLink RX6 204 "java/lang/IllegalArgumentException", Cond.initialized "java/lang/IllegalArgumentException", Cond.methodLink RX6 156 yX3_resultOf]
def wsL_victim_r2 : List Cond := [Cond.instanceMethod yX3_resultOf, Cond.selects RX3 yX3_resultOf yX3_resultOf, Cond.initialized RX3, Cond.code yX3_resultOf cX3_resultOf 3 (some .int), Cond.methodLink RX3 27 yX3_placeOf, Cond.instanceMethod yX3_placeOf, Cond.selects RX3 yX3_placeOf yX3_placeOf, Cond.code yX3_placeOf cX3_placeOf 5 (some .int), Cond.fieldLink RX3 15 "PartitionedCache$Places" "held" "[I", Cond.methodLink RX3 31 yX3_ownedWays, Cond.instanceMethod yX3_ownedWays, Cond.selects RX3 yX3_ownedWays yX3_ownedWays, Cond.code yX3_ownedWays cX3_ownedWays 4 (some .int), Cond.fieldLink RX3 9 "PartitionedCache$Places" "owners" "[I", Cond.methodLink RX6 159 yX3_placeToFill, Cond.instanceMethod yX3_placeToFill, Cond.selects RX3 yX3_placeToFill yX3_placeToFill, Cond.code yX3_placeToFill cX3_placeToFill 7 (some .int), Cond.fieldLink RX3 18 "PartitionedCache$Places" "stamps" "[I"]
def wsL_victim : List Cond := .codeWith yL_victim cL_victim 5 (some .int) [(0, 10, 13, 13), (0, 10, 17, 15)] :: ((wsL_victim_r1 ++ wsL_victim_r2) ++ wsX60 ++ wsX40 ++ wsX30 ++ (vx_atS RX6 175 "java/lang/IndexOutOfBoundsException" ["java/lang/RuntimeException", "java/lang/Exception"]).filter goodWord ++ (vx_atS RX6 208 "java/lang/IllegalArgumentException" ["java/lang/RuntimeException", "java/lang/Exception"]).filter goodWord)
def wsL_gain : List Cond := .codeWith yL_gain cL_gain 5 (some .int) [(0, 10, 13, 13)] :: ([.classLink RL 13 "java/lang/IndexOutOfBoundsException", .methodLink RL 71 yX6_gain, .instanceMethod yX6_gain, .selects RX6 yX6_gain yX6_gain, .initialized RX6, .code yX6_gain cX6_gain 3 (some .int), .fieldLink RX6 12 "PartitionedCache" "now" "LPartitionedCache$State;", .fieldLink RX6 90 "PartitionedCache$State" "monitors" "LPartitionedCache$Monitors;", .fieldLink RX6 162 "PartitionedCache$Monitors" "gains" "[I", .methodLink RX6 45 yX6_requireTenant, .static yX6_requireTenant, .code yX6_requireTenant cX6_requireTenant 1 none, .methodLink RX6 75 yX6_requireIndex, .static yX6_requireIndex, .code yX6_requireIndex cX6_requireIndex 2 none, .classLink RX6 171 "java/lang/IndexOutOfBoundsException", .initialized "java/lang/IndexOutOfBoundsException"] ++ wsX60 ++ wsX40 ++ wsX20 ++ (vx_atS RX6 175 "java/lang/IndexOutOfBoundsException" ["java/lang/RuntimeException", "java/lang/Exception"]).filter goodWord)
def wsL_utility_r1 : List Cond := [Cond.classLink RL 13 "java/lang/IndexOutOfBoundsException", Cond.classLink RL 15 "java/lang/IllegalArgumentException", Cond.methodLink RL 74 yX6_utility, Cond.instanceMethod yX6_utility, Cond.selects RX6 yX6_utility yX6_utility, Cond.initialized RX6, Cond.code yX6_utility cX6_utility 3 (some .int), Cond.fieldLink RX6 12 "PartitionedCache" "now" "LPartitionedCache$State;", Cond.fieldLink RX6 90 "PartitionedCache$State" "monitors" "LPartitionedCache$Monitors;", Cond.methodLink RX6 45 yX6_requireTenant, Cond.static yX6_requireTenant, Cond.code yX6_requireTenant cX6_requireTenant 1 none, Cond.methodLink RX6 75 yX6_requireIndex, Cond.static yX6_requireIndex, Cond.code yX6_requireIndex cX6_requireIndex 2 none, Cond.classLink RX6 171 "java/lang/IndexOutOfBoundsException", Cond.initialized "java/lang/IndexOutOfBoundsException", Cond.methodLink RX6 49 yX6_requireArgument, Cond.static yX6_requireArgument, Cond.code yX6_requireArgument cX6_requireArgument 3 none, Cond.classLink RX6 204 "java/lang/IllegalArgumentException", Cond.initialized "java/lang/IllegalArgumentException", Cond.methodLink RX6 165 yX2_utilityOf, Cond.instanceMethod yX2_utilityOf]
def wsL_utility_r2 : List Cond := [Cond.selects RX2 yX2_utilityOf yX2_utilityOf, Cond.initialized RX2, Cond.code yX2_utilityOf cX2_utilityOf 5 (some .int), Cond.fieldLink RX2 15 "PartitionedCache$Monitors" "gains" "[I"]
def wsL_utility : List Cond := .codeWith yL_utility cL_utility 5 (some .int) [(0, 10, 13, 13), (0, 10, 17, 15)] :: ((wsL_utility_r1 ++ wsL_utility_r2) ++ wsX60 ++ wsX40 ++ wsX20 ++ (vx_atS RX6 175 "java/lang/IndexOutOfBoundsException" ["java/lang/RuntimeException", "java/lang/Exception"]).filter goodWord ++ (vx_atS RX6 208 "java/lang/IllegalArgumentException" ["java/lang/RuntimeException", "java/lang/Exception"]).filter goodWord)
def wsL_monitored : List Cond := .codeWith yL_monitored cL_monitored 6 (some .int) [(0, 12, 15, 13)] :: ([.classLink RL 13 "java/lang/IndexOutOfBoundsException", .methodLink RL 77 yX6_monitored, .instanceMethod yX6_monitored, .selects RX6 yX6_monitored yX6_monitored, .initialized RX6, .code yX6_monitored cX6_monitored 4 (some .int), .classLink RX6 171 "java/lang/IndexOutOfBoundsException", .initialized "java/lang/IndexOutOfBoundsException", .fieldLink RX6 12 "PartitionedCache" "now" "LPartitionedCache$State;", .fieldLink RX6 90 "PartitionedCache$State" "monitors" "LPartitionedCache$Monitors;", .fieldLink RX6 176 "PartitionedCache$Monitors" "addresses" "[I", .methodLink RX6 45 yX6_requireTenant, .static yX6_requireTenant, .code yX6_requireTenant cX6_requireTenant 1 none, .methodLink RX6 75 yX6_requireIndex, .static yX6_requireIndex, .code yX6_requireIndex cX6_requireIndex 2 none, .methodLink RX6 168 yX6_isSampled, .static yX6_isSampled, .code yX6_isSampled cX6_isSampled 1 (some .boolean), .methodLink RX6 179 yX6_listStart, .static yX6_listStart, .code yX6_listStart cX6_listStart 2 (some .int)] ++ wsX60 ++ wsX40 ++ wsX20 ++ (vx_atS RX6 175 "java/lang/IndexOutOfBoundsException" ["java/lang/RuntimeException", "java/lang/Exception"]).filter goodWord)
def wsL_target_r1 : List Cond := [Cond.classLink RL 13 "java/lang/IndexOutOfBoundsException", Cond.methodLink RL 81 yX6_target, Cond.instanceMethod yX6_target, Cond.selects RX6 yX6_target yX6_target, Cond.initialized RX6, Cond.code yX6_target cX6_target 2 (some .int), Cond.fieldLink RX6 19 "PartitionedCache" "targets" "LPartitionedCache$Targets;", Cond.fieldLink RX6 12 "PartitionedCache" "now" "LPartitionedCache$State;", Cond.fieldLink RX6 185 "PartitionedCache$Targets" "ways" "[I", Cond.methodLink RX6 45 yX6_requireTenant, Cond.static yX6_requireTenant, Cond.code yX6_requireTenant cX6_requireTenant 1 none, Cond.methodLink RX6 75 yX6_requireIndex, Cond.static yX6_requireIndex, Cond.code yX6_requireIndex cX6_requireIndex 2 none, Cond.classLink RX6 171 "java/lang/IndexOutOfBoundsException", Cond.initialized "java/lang/IndexOutOfBoundsException", Cond.methodLink RX6 182 yX5_compute, Cond.instanceMethod yX5_compute, Cond.selects RX5 yX5_compute yX5_compute, Cond.initialized RX5, Cond.code yX5_compute cX5_compute 4 none, Cond.fieldLink RX5 9 "PartitionedCache$Targets" "ways" "[I", Cond.fieldLink RX5 15 "PartitionedCache$State" "leasts" "[I"]
def wsL_target_r2 : List Cond := [Cond.fieldLink RX5 20 "PartitionedCache$State" "monitors" "LPartitionedCache$Monitors;", Cond.methodLink RX5 24 yX5_growOne, Cond.instanceMethod yX5_growOne, Cond.selects RX5 yX5_growOne yX5_growOne, Cond.code yX5_growOne cX5_growOne 9 (some .int), Cond.fieldLink RX5 28 "PartitionedCache$Monitors" "gains" "[I", Cond.methodLink RX5 33 yX5_lowest, Cond.instanceMethod yX5_lowest, Cond.selects RX5 yX5_lowest yX5_lowest, Cond.code yX5_lowest cX5_lowest 3 (some .int)]
def wsL_target : List Cond := .codeWith yL_target cL_target 4 (some .int) [(0, 9, 12, 13)] :: ((wsL_target_r1 ++ wsL_target_r2) ++ wsX60 ++ wsX50 ++ wsX40 ++ wsX20 ++ (vx_atS RX6 175 "java/lang/IndexOutOfBoundsException" ["java/lang/RuntimeException", "java/lang/Exception"]).filter goodWord)
def wsL_count : List Cond := .codeWith yL_count cL_count 5 (some .int) [(0, 10, 13, 13), (0, 10, 17, 15)] :: ([.classLink RL 13 "java/lang/IndexOutOfBoundsException", .classLink RL 15 "java/lang/IllegalArgumentException", .methodLink RL 84 yX6_count, .instanceMethod yX6_count, .selects RX6 yX6_count yX6_count, .initialized RX6, .code yX6_count cX6_count 3 (some .int), .fieldLink RX6 12 "PartitionedCache" "now" "LPartitionedCache$State;", .fieldLink RX6 196 "PartitionedCache$State" "counts" "[I", .methodLink RX6 45 yX6_requireTenant, .static yX6_requireTenant, .code yX6_requireTenant cX6_requireTenant 1 none, .methodLink RX6 75 yX6_requireIndex, .static yX6_requireIndex, .code yX6_requireIndex cX6_requireIndex 2 none, .classLink RX6 171 "java/lang/IndexOutOfBoundsException", .initialized "java/lang/IndexOutOfBoundsException", .methodLink RX6 49 yX6_requireArgument, .static yX6_requireArgument, .code yX6_requireArgument cX6_requireArgument 3 none, .classLink RX6 204 "java/lang/IllegalArgumentException", .initialized "java/lang/IllegalArgumentException"] ++ wsX60 ++ wsX40 ++ (vx_atS RX6 175 "java/lang/IndexOutOfBoundsException" ["java/lang/RuntimeException", "java/lang/Exception"]).filter goodWord ++ (vx_atS RX6 208 "java/lang/IllegalArgumentException" ["java/lang/RuntimeException", "java/lang/Exception"]).filter goodWord)
def wsL_hitRate : List Cond := .codeWith yL_hitRate cL_hitRate 4 (some .int) [(0, 8, 11, 13)] :: ([.classLink RL 13 "java/lang/IndexOutOfBoundsException", .methodLink RL 87 yX6_hitRate, .instanceMethod yX6_hitRate, .selects RX6 yX6_hitRate yX6_hitRate, .initialized RX6, .code yX6_hitRate cX6_hitRate 5 (some .double), .fieldLink RX6 12 "PartitionedCache" "now" "LPartitionedCache$State;", .fieldLink RX6 196 "PartitionedCache$State" "counts" "[I", .methodLink RX6 45 yX6_requireTenant, .static yX6_requireTenant, .code yX6_requireTenant cX6_requireTenant 1 none, .methodLink RX6 75 yX6_requireIndex, .static yX6_requireIndex, .code yX6_requireIndex cX6_requireIndex 2 none, .classLink RX6 171 "java/lang/IndexOutOfBoundsException", .initialized "java/lang/IndexOutOfBoundsException"] ++ wsX60 ++ wsX40 ++ (vx_atS RX6 175 "java/lang/IndexOutOfBoundsException" ["java/lang/RuntimeException", "java/lang/Exception"]).filter goodWord)
abbrev vwCl : List vw_C := [(RX0, TX0, 2), (RX1, TX1, 3), (RX2, TX2, 2), (RX3, TX3, 3), (RX4, TX4, 6), (RX5, TX5, 1), (RX6, TX6, 6), (RX7, TX7, 11)]
end
section
/-! A calculus of abstract states: a method's code is a list of steps; a step takes what holds behind it to what must hold ahead of it; the cells of a world are numbered, a reference is a number, and one function gives the addresses. -/
section GE
abbrev gD : Type := (Nat → Int32) ⊕ (Nat → Int64) ⊕ (Nat → UInt64) ⊕ List (Option Nat)
abbrev gE : Type := (Nat × Nat × gD) ⊕ (Nat × List Value)
abbrev gP : Type := List (Nat × Value) → List Value → List gE → Nat → Nat → Prop
abbrev gO : Type := (Nat → gP) → gP → gP
abbrev gK : Type := Option Value → List gE → Prop
abbrev gI (f : Nat → Int32) : gD := .inl f
def gv (ad : Nat → Nat) : Value → Value
  | .ref k => .ref (ad k)
  | v => v
def ge (cA : Nat → ClassId) (ad : Nat → Nat) : gE → va_E
  | .inr (c, fs) => .inr (c, fs.map (gv ad))
  | .inl (t, n, .inl f) => .inl (cA t, n, .inl f)
  | .inl (t, n, .inr (.inl f)) => .inl (cA t, n, .inr (.inl f))
  | .inl (t, n, .inr (.inr (.inl f))) => .inl (cA t, n, .inr (.inr (.inr (.inl f))))
  | .inl (t, n, .inr (.inr (.inr r))) => .inl (cA t, n, .inr (.inr (.inr (.inr (fun j => (r.getD j none).map ad)))))
def gw (cA : Nat → ClassId) (ad : Nat → Nat) (es : List gE) : va_W := es.mapIdx (fun k e => (ad k, ge cA ad e))
def gT (cA : Nat → ClassId) : List (ClassId × FieldType) := [(cA 0, .int), (cA 1, .char), (cA 2, .boolean), (cA 3, .long), (cA 4, .double), (cA 5, .object RX4)]
theorem gv_cat (ad : Nat → Nat) (v : Value) : (gv ad v).category = v.category := by cases v <;> rfl
theorem gw_len {cA : Nat → ClassId} {ad : Nat → Nat} {es : List gE} : (gw cA ad es).length = es.length := by simp [gw]
theorem gw_at (cA : Nat → ClassId) (ad : Nat → Nat) (es : List gE) (k : Nat) : (gw cA ad es)[k]? = (es[k]?).map (fun e => (ad k, ge cA ad e)) := by
  simp [gw, List.getElem?_mapIdx]
theorem gw_get {cA : Nat → ClassId} {ad : Nat → Nat} {es : List gE} {k : Nat} {e : gE} (h : es[k]? = some e) : (gw cA ad es)[k]? = some (ad k, ge cA ad e) := by
  rw [gw_at, h]; rfl
theorem gw_set (cA : Nat → ClassId) (ad : Nat → Nat) (es : List gE) (k : Nat) (e : gE) : (gw cA ad es).set k (ad k, ge cA ad e) = gw cA ad (es.set k e) := by
  apply List.ext_getElem?
  intro i
  rw [gw_at, List.getElem?_set, List.getElem?_set, gw_at, gw_len]
  by_cases h : k = i
  · subst h
    by_cases h2 : k < es.length
    · simp [h2]
    · simp [h2]
  · simp [h]
theorem gw_push (cA : Nat → ClassId) (ad : Nat → Nat) (es : List gE) (e : gE) : gw cA ad es ++ [(ad es.length, ge cA ad e)] = gw cA ad (es ++ [e]) := by
  simp [gw, List.mapIdx_append]
-- lists by literal numbers
def gnth : List gE → Nat → Option gE
  | [], _ => none
  | e :: _, 0 => some e
  | _ :: es, k + 1 => gnth es k
def vnth : List Value → Nat → Option Value
  | [], _ => none
  | e :: _, 0 => some e
  | _ :: es, k + 1 => vnth es k
def rnth : List (Option Nat) → Nat → Option (Option Nat)
  | [], _ => none
  | e :: _, 0 => some e
  | _ :: es, k + 1 => rnth es k
theorem gnth_eq : ∀ (es : List gE) (k : Nat), gnth es k = es[k]?
  | [], k => by simp [gnth]
  | _ :: _, 0 => rfl
  | _ :: es, k + 1 => by simpa [gnth] using gnth_eq es k
theorem vnth_eq : ∀ (es : List Value) (k : Nat), vnth es k = es[k]?
  | [], k => by simp [vnth]
  | _ :: _, 0 => rfl
  | _ :: es, k + 1 => by simpa [vnth] using vnth_eq es k
theorem rnth_eq : ∀ (es : List (Option Nat)) (k : Nat), rnth es k = es[k]?
  | [], k => by simp [rnth]
  | _ :: _, 0 => rfl
  | _ :: es, k + 1 => by simpa [rnth] using rnth_eq es k
-- locals
def lget : List (Nat × Value) → Nat → Option Value
  | [], _ => none
  | (j, w) :: L, i => bif Nat.beq j i then some w else lget L i
def cat2 : Value → Bool
  | .long _ => true
  | .double _ => true
  | _ => false
def ldel : List (Nat × Value) → Nat → List (Nat × Value)
  | [], _ => []
  | (j, w) :: L, i => bif Nat.beq j i then ldel L i else bif Nat.beq (j + 1) i && cat2 w then ldel L i else (j, w) :: ldel L i
def lset (L : List (Nat × Value)) (i : Nat) (v : Value) : List (Nat × Value) := (i, v) :: ldel L i
def lpick (L : List (Nat × Value)) : List Nat → Option (List Value)
  | [] => some []
  | i :: is => match lget L i with
    | some v => match lpick L is with
      | some vs => some (v :: vs)
      | none => none
    | none => none
abbrev lmap (ad : Nat → Nat) (L : List (Nat × Value)) : List (Nat × Value) := L.map (fun q => (q.1, gv ad q.2))
theorem lget_mem : ∀ {L : List (Nat × Value)} {i : Nat} {v : Value}, lget L i = some v → (i, v) ∈ L
  | [], _, _, h => by cases h
  | (j, w) :: L, i, v, h => by
    unfold lget at h
    cases hb : Nat.beq j i with
    | true =>
      rw [hb] at h
      have := Nat.eq_of_beq_eq_true hb
      subst this
      cases h
      exact List.mem_cons_self
    | false =>
      rw [hb] at h
      exact List.mem_cons_of_mem _ (lget_mem h)
theorem lget_at {ls : Array Slot} {nL : Nat} {ad : Nat → Nat} {L : List (Nat × Value)} {i : Nat} {v : Value} (hl : lv_has ls nL (lmap ad L)) (h : lget L i = some v) : ls[i]? = some (.val (gv ad v)) :=
  hl.2.2 (i, gv ad v) (List.mem_map.mpr ⟨(i, v), lget_mem h, rfl⟩)
theorem lget_ix {ad : Nat → Nat} {L : List (Nat × Value)} {i : Nat} {v : Value} (h : lget L i = some v) : ∃ k : Nat, (lmap ad L)[k]? = some (i, gv ad v) := by
  have : (i, gv ad v) ∈ lmap ad L := List.mem_map.mpr ⟨(i, v), lget_mem h, rfl⟩
  exact List.getElem?_of_mem this
theorem cat2_eq (v : Value) : cat2 v = (v.category == 2) := by cases v <;> rfl
theorem ldel_mem : ∀ {L : List (Nat × Value)} {i : Nat} {q : Nat × Value}, q ∈ ldel L i → q ∈ L ∧ (!(q.1 == i) && !(q.1 + 1 == i && q.2.category == 2)) = true
  | [], _, _, h => by cases h
  | (j, w) :: L, i, q, h => by
    unfold ldel at h
    cases hb : Nat.beq j i with
    | true =>
      rw [hb] at h
      have := ldel_mem (L := L) h
      exact ⟨List.mem_cons_of_mem _ this.1, this.2⟩
    | false =>
      rw [hb] at h
      cases hc : (Nat.beq (j + 1) i && cat2 w) with
      | true =>
        rw [hc] at h
        have := ldel_mem (L := L) h
        exact ⟨List.mem_cons_of_mem _ this.1, this.2⟩
      | false =>
        rw [hc] at h
        rcases List.mem_cons.mp h with rfl | h
        · refine ⟨List.mem_cons_self, ?_⟩
          rw [cat2_eq] at hc
          have hb' : (j == i) = false := by simpa using Nat.ne_of_beq_eq_false hb
          have hc' : (j + 1 == i && w.category == 2) = false := by
            cases hx : Nat.beq (j + 1) i with
            | true =>
              rw [hx] at hc
              have h2 : (w.category == 2) = false := by simpa using hc
              simp only [h2, Bool.and_false]
            | false =>
              have h2 : (j + 1 == i) = false := by simpa using Nat.ne_of_beq_eq_false hx
              simp only [h2, Bool.false_and]
          simp only [hb', hc', Bool.not_false, Bool.and_self]
        · have := ldel_mem (L := L) h
          exact ⟨List.mem_cons_of_mem _ this.1, this.2⟩
theorem lv_mono {ls : Array Slot} {nL : Nat} {l l' : List (Nat × Value)} (h : lv_has ls nL l) (hs : ∀ q ∈ l', q ∈ l) : lv_has ls nL l' := ⟨h.1, h.2.1, fun q hq => h.2.2 q (hs q hq)⟩
theorem lset_ok {ls : Array Slot} {nL i : Nat} {ad : Nat → Nat} {v : Value} {L : List (Nat × Value)} (h : lv_has ls nL ((i, gv ad v) :: (lmap ad L).filter (fun q => !(q.1 == i) && !(q.1 + 1 == i && q.2.category == 2)))) : lv_has ls nL (lmap ad (lset L i v)) := by
  refine lv_mono h (fun q hq => ?_)
  obtain ⟨q0, hq0, rfl⟩ := List.mem_map.mp hq
  rcases List.mem_cons.mp hq0 with rfl | hq0
  · exact List.mem_cons_self
  · have := ldel_mem hq0
    refine List.mem_cons_of_mem _ (List.mem_filter.mpr ⟨List.mem_map.mpr ⟨q0, this.1, rfl⟩, ?_⟩)
    simpa [gv_cat] using this.2
theorem lpick_mem : ∀ {L : List (Nat × Value)} {is : List Nat} {vs : List Value}, lpick L is = some vs → ∀ q ∈ is.zip vs, q ∈ L
  | L, [], vs, h, q, hq => by simp at hq
  | L, i :: is, vs, h, q, hq => by
    unfold lpick at h
    split at h
    · rename_i v hv
      split at h
      · rename_i ws hw
        cases h
        rw [List.zip_cons_cons] at hq
        rcases List.mem_cons.mp hq with rfl | hq
        · exact lget_mem hv
        · exact lpick_mem hw q hq
      · cases h
    · cases h
-- what a start gives beside a world: links between nest mates, texts, two statics of Throwable
def gNest : List (String × Nat × MethodName) := [(RX6, 18, yX5_init), (RX6, 32, yX0_init), (RX2, 24, yX6_isSampled), (RX2, 28, yX6_listStart)]
def gStr : List (Nat × String) := [(202, "no such tenant, way, set, position or slot"), (206, "the number is out of range"), (107, "the text is full"), (119, "the text is not valid"), (131, "no state is saved"), (142, "the slot is empty"), (173, "the set is not sampled")]
def gBad : List Cond := [.castable "java/lang/IndexOutOfBoundsException" "java/lang/IndexOutOfBoundsException", .castable "java/lang/IllegalArgumentException" "java/lang/IllegalArgumentException", .castable "java/lang/IllegalStateException" "java/lang/IllegalStateException", .declares (Bundle.initS "java/lang/RuntimeException"), .declares (Bundle.initS "java/lang/Exception"), .declares (Bundle.initS Bundle.tN)]
theorem gBad_ot : ∀ w ∈ gBad, w.onTables = true := by
  intro w hw
  simp only [gBad, List.mem_cons, List.not_mem_nil, or_false] at hw
  rcases hw with rfl | rfl | rfl | rfl | rfl | rfl <;> rfl
def gN (U : State) : Prop := (∀ q ∈ gNest, va_Nw (.methodLinkNest q.1 q.2.1 q.2.2 RX6) U) ∧ (∀ q ∈ gStr, ∃ a : Nat, vk_R RX6 q.1 q.2 a U) ∧ (∀ w ∈ gBad, va_Nw w U) ∧ va_AO RX4 U
def gY (D : va_G) (cA : Nat → ClassId) (A : Nat → Prop) (U : State) (H : Heap) : Prop := va_K D vwCl (gT cA) U ∧ gN U ∧ vx_Zq Bundle.tN "UNASSIGNED_STACK" Bundle.steD A U H ∧ vx_Zq Bundle.tN "SUPPRESSED_SENTINEL" Bundle.listD A U H
theorem gN.warm {s U : State} (hW : s.WarmedH U.vm) (h : gN s) : gN U := ⟨fun q hq => va_Nw.warmM hW (h.1 q hq), fun q hq => (h.2.1 q hq).elim fun a ha => ⟨a, vk_R.warm hW ha⟩, fun w hw => by
  have h3 := h.2.2.1 w hw
  simp only [gBad, List.mem_cons, List.not_mem_nil, or_false] at hw
  rcases hw with rfl | rfl | rfl | rfl | rfl | rfl
  · exact va_Nw.warmC hW h3
  · exact va_Nw.warmC hW h3
  · exact va_Nw.warmC hW h3
  · exact va_Nw.warmD hW h3
  · exact va_Nw.warmD hW h3
  · exact va_Nw.warmD hW h3, va_AO.moved hW.alike h.2.2.2⟩
theorem gN.same {u U : State} (hv : u.vm = U.vm) (h : gN u) : gN U := ⟨fun q hq => va_Nw.same rfl hv (h.1 q hq), fun q hq => (h.2.1 q hq).elim fun a ha => ⟨a, vk_R.same hv.symm ha⟩, fun w hw => va_Nw.same (gBad_ot w hw) hv (h.2.2.1 w hw), va_AO.moved (by rw [hv]; exact Vm.Alike.refl U.vm) h.2.2.2⟩
theorem gY.same {D : va_G} {cA : Nat → ClassId} {A : Nat → Prop} {u U : State} {H : Heap} (hv : u.vm = U.vm) (h : gY D cA A u H) : gY D cA A U H := by
  have ha : u.vm.Alike U.vm := by rw [hv]; exact Vm.Alike.refl U.vm
  exact ⟨va_K.moved ha h.1, h.2.1.same hv, vx_Zq.moved ha h.2.2.1, vx_Zq.moved ha h.2.2.2⟩
theorem gY.call {D : va_G} {cA : Nat → ClassId} {A A1 : Nat → Prop} {s U : State} {H : Heap} {locs : List Loc} (h : gY D cA A s s.heap) (hS : va_S A s.heap H locs) (hF : ∀ q, A1 q → A q) (hW : s.WarmedH U.vm) (hU : U.heap = H) : gY D cA A1 U U.heap := by
  rw [hU]
  have k1 : ∀ a : Nat, a < s.heap.size → ¬ A a → H[a]? = s.heap[a]? := hS.2.1
  exact ⟨va_K.moved hW.alike h.1, h.2.1.warm hW, vx_Zq.moved hW.alike (vx_Zq.narrow (vx_Zq.kept h.2.2.1 k1) hF), vx_Zq.moved hW.alike (vx_Zq.narrow (vx_Zq.kept h.2.2.2 k1) hF)⟩
-- the context of a walk
abbrev gX : Type := Program × Launch × Env × Room × State × MethodId × Array Value × List Frame × Method × Code × va_G × (Nat → ClassId) × (Nat → Prop) × (Nat → Prop) × (Nat → Nat) × (State → Prop) × Nat
def G (X : gX) (pc : Nat) : gP := fun L S es k n => match X with
  | (p, l, e, R, s, m, args, below, meth, c, D, cA, A, ag, ad0, Q, nL) => ∀ (ad : Nat → Nat) (H : Heap) (locs : List Loc) (ls : Array Slot), (∀ i, ag i → ad i = ad0 i) → va_P D vwCl (gw cA ad es) H → va_D A (gw cA ad es) → va_S A s.heap H locs → lv_has ls nL (lmap ad L) →
    W p l e R s m args below meth c H locs k n Q (F0 m pc ls (S.map (gv ad)))
def gM (X : gX) (l0 : Launch) (cc : ByteArray) (own : String) (Ts : List Cond) (R0 : Room) : Prop := match X with
  | (p, l, _, R, s, m, args, _, meth, c, D, cA, A, _, _, _, nL) => p.tables.exec = Jvm.exec ∧ c.code = cc ∧ s.vm.findClass own = some m.cls ∧ (∀ w ∈ Ts, w.before args s = true) ∧ c.maxLocals = nL ∧ meth.locks = false ∧ gY D cA A s s.heap ∧ (∀ q, s.heap.size ≤ q → A q) ∧ R = R0 ∧ l = l0
def gQ (D : va_G) (cA : Nat → ClassId) (ad0 : Nat → Nat) (ag : Nat → Prop) (A : Nat → Prop) (K : gK) : Array Value → State → Outcome → State → Prop := fun _ st oc t =>
  (∃ (v : Option Value) (es : List gE) (ad : Nat → Nat), oc = .returned (v.map (gv ad)) ∧ K v es ∧ (∀ i, ag i → ad i = ad0 i) ∧ va_P D vwCl (gw cA ad es) t.heap ∧ va_D A (gw cA ad es)) ∧ va_F A st t
/-- the end of the walk is a method's end with K -/
def gR (X : gX) (K : gK) (mc ms : Nat) (ret : Option FieldType) : Prop := match X with
  | (p, l, e, R, s, m, args, below, meth, c, D, cA, A, ag, ad0, Q, _) => meth.sig.returnType = ret ∧ ∀ (H : Heap) (locs : List Loc) (g : JFrame), W p l e R s m args below meth c H locs mc ms (MQ below (gQ D cA ad0 ag A K) args s mc ms A) g → W p l e R s m args below meth c H locs mc ms Q g
/-- a step is right -/
def okO (X : gX) (pc nx : Nat) (o : gO) : Prop := ∀ (J : Nat → gP) (N : gP), (∀ t L S es k n, J t L S es k n → G X t L S es k n) → (∀ L S es k n, N L S es k n → G X nx L S es k n) → ∀ L S es k n, o J N L S es k n → G X pc L S es k n
def hpc : List (Nat × gO) → Nat
  | [] => 0
  | q :: _ => q.1
def okL (X : gX) : List (Nat × gO) → Prop
  | [] => True
  | q :: l => okO X q.1 (hpc l) q.2 ∧ okL X l
-- loops' heads, and the walk
abbrev gC : Type := Nat × List Nat × (List Value → List gE → Nat → Nat → Prop)
def gcut : List gC → Nat → Option gC
  | [], _ => none
  | c :: cs, t => bif Nat.beq c.1 t then some c else gcut cs t
def gcutP (c : gC) : gP := fun L S es k n => match S with
  | [] => match lpick L c.2.1 with
    | some vs => c.2.2 vs es k n
    | none => False
  | _ => False
def glook : List (Nat × gO) → Nat → List (Nat × gO)
  | [], _ => []
  | q :: l, t => bif Nat.beq q.1 t then q :: l else glook l t
def giscut (cs : List gC) (l : List (Nat × gO)) : Bool := match gcut cs (hpc l) with
  | some _ => true
  | none => false
def wl (J : Nat → gP) (cs : List gC) : List (Nat × gO) → gP
  | [] => fun _ _ _ _ _ => False
  | q :: l => q.2 J (bif giscut cs l then J (hpc l) else wl J cs l)
def wr (full : List (Nat × gO)) (cs : List gC) : Nat → Nat → gP
  | 0, _ => fun _ _ _ _ _ => False
  | f + 1, t => match gcut cs t with
    | some c => gcutP c
    | none => wl (wr full cs f) cs (glook full t)
def cutOK (X : gX) (cs : List gC) : Prop := ∀ c ∈ cs, ∀ vs es k n, c.2.2 vs es k n → G X c.1 (c.2.1.zip vs) [] es k n
theorem G_mono {X : gX} {pc : Nat} {L L' : List (Nat × Value)} {S : List Value} {es : List gE} {k n : Nat} (h : G X pc L S es k n) (hs : ∀ q ∈ L, q ∈ L') : G X pc L' S es k n := by
  obtain ⟨p, l, e, R, s, m, args, below, meth, c, D, cA, A, ag, ad0, Q, nL⟩ := X
  intro ad H locs ls ha hP hD hS hl
  refine h ad H locs ls ha hP hD hS (lv_mono hl (fun q hq => ?_))
  obtain ⟨q0, hq0, rfl⟩ := List.mem_map.mp hq
  exact List.mem_map.mpr ⟨q0, hs q0 hq0, rfl⟩
theorem gcut_ok : ∀ {cs : List gC} {t : Nat} {c : gC}, gcut cs t = some c → c ∈ cs ∧ c.1 = t
  | [], _, _, h => by cases h
  | d :: cs, t, c, h => by
    unfold gcut at h
    cases hb : Nat.beq d.1 t with
    | true =>
      rw [hb] at h
      cases h
      exact ⟨List.mem_cons_self, Nat.eq_of_beq_eq_true hb⟩
    | false =>
      rw [hb] at h
      have := gcut_ok (cs := cs) h
      exact ⟨List.mem_cons_of_mem _ this.1, this.2⟩
theorem gcutP_ok {X : gX} {cs : List gC} (hc : cutOK X cs) {t : Nat} {c : gC} (h : gcut cs t = some c) {L : List (Nat × Value)} {S : List Value} {es : List gE} {k n : Nat} (hp : gcutP c L S es k n) : G X t L S es k n := by
  obtain ⟨hm, rfl⟩ := gcut_ok h
  unfold gcutP at hp
  split at hp
  · split at hp
    · rename_i vs hv
      exact G_mono (hc c hm vs es k n hp) (lpick_mem hv)
    · exact hp.elim
  · exact hp.elim
theorem wl_ok {X : gX} {J : Nat → gP} {cs : List gC} (hJ : ∀ t L S es k n, J t L S es k n → G X t L S es k n) : ∀ {lst : List (Nat × gO)}, okL X lst → ∀ L S es k n, wl J cs lst L S es k n → G X (hpc lst) L S es k n
  | [], _, _, _, _, _, _, h => h.elim
  | q :: l, ho, L, S, es, k, n, h => by
    refine ho.1 J _ hJ (fun L S es k n h => ?_) L S es k n h
    revert h
    cases giscut cs l with
    | true => exact fun h => hJ _ _ _ _ _ _ h
    | false => exact fun h => wl_ok hJ ho.2 _ _ _ _ _ h
theorem glook_ok {X : gX} : ∀ {full : List (Nat × gO)} {t : Nat}, okL X full → okL X (glook full t) ∧ (glook full t = [] ∨ hpc (glook full t) = t)
  | [], _, _ => ⟨trivial, Or.inl rfl⟩
  | q :: l, t, h => by
    unfold glook
    cases hb : Nat.beq q.1 t with
    | true => exact ⟨h, Or.inr (Nat.eq_of_beq_eq_true hb)⟩
    | false => exact glook_ok h.2
theorem wl_at {X : gX} {J : Nat → gP} {cs : List gC} {full : List (Nat × gO)} (hf : okL X full) (hJ : ∀ t L S es k n, J t L S es k n → G X t L S es k n) {t : Nat} {L : List (Nat × Value)} {S : List Value} {es : List gE} {k n : Nat} (h : wl J cs (glook full t) L S es k n) : G X t L S es k n := by
  obtain ⟨h1, h2⟩ := glook_ok (t := t) hf
  rcases h2 with h2 | h2
  · rw [h2] at h
    exact h.elim
  · have := wl_ok hJ h1 L S es k n h
    rw [h2] at this
    exact this
theorem wr_ok {X : gX} {cs : List gC} {full : List (Nat × gO)} (hf : okL X full) (hc : cutOK X cs) : ∀ (f t : Nat) L S es k n, wr full cs f t L S es k n → G X t L S es k n
  | 0, _, _, _, _, _, _, h => h.elim
  | f + 1, t, L, S, es, k, n, h => by
    unfold wr at h
    cases hct : gcut cs t with
    | some c =>
      rw [hct] at h
      exact gcutP_ok hc hct h
    | none =>
      rw [hct] at h
      exact wl_at hf (wr_ok hf hc f) h
/-- from a head: the step at it first -/
theorem g_go {X : gX} {cs : List gC} {full : List (Nat × gO)} (hf : okL X full) (hc : cutOK X cs) (f : Nat) {t : Nat} {L : List (Nat × Value)} {S : List Value} {es : List gE} {k n : Nat} (h : wl (wr full cs f) cs (glook full t) L S es k n) : G X t L S es k n := wl_at hf (wr_ok hf hc f) h
theorem cut_nil {X : gX} : cutOK X [] := fun _ h => by cases h
/-- a loop: by a measure that falls -/
theorem g_loop {X : gX} {cs : List gC} (head : Nat) (keep : List Nat) (Inv : Nat → List Value → List gE → Nat → Nat → Prop) (hc : cutOK X cs)
    (step : ∀ μ : Nat, cutOK X ((head, keep, fun vs es k n => ∃ ν, ν < μ ∧ Inv ν vs es k n) :: cs) → ∀ vs es k n, Inv μ vs es k n → G X head (keep.zip vs) [] es k n) : cutOK X ((head, keep, fun vs es k n => ∃ ν, Inv ν vs es k n) :: cs) := by
  have key : ∀ μ : Nat, ∀ vs es k n, Inv μ vs es k n → G X head (keep.zip vs) [] es k n := by
    intro μ
    induction μ using Nat.strongRecOn with
    | ind μ ih =>
      refine step μ (fun c hm vs es k n h => ?_)
      rcases List.mem_cons.mp hm with rfl | hm
      · obtain ⟨ν, h1, h2⟩ := h
        exact ih ν h1 vs es k n h2
      · exact hc c hm vs es k n h
  intro c hm vs es k n h
  rcases List.mem_cons.mp hm with rfl | hm
  · obtain ⟨ν, h2⟩ := h
    exact key ν vs es k n h2
  · exact hc c hm vs es k n h
end GE
end
section
/-! Steps of single instructions. -/
section GS
def gif : Bool → Prop → Prop
  | true, P => P
  | false, _ => False
theorem bif_t {b : Bool} {P : Prop} (h : gif b P) : b = true ∧ P := by
  cases b
  · exact h.elim
  · exact ⟨rfl, h⟩
theorem and_t {a b : Bool} (h : (a && b) = true) : a = true ∧ b = true := by
  cases a
  · cases h
  · exact ⟨rfl, h⟩
variable {X : gX} {l0 : Launch} {cc : ByteArray} {own : String} {Ts : List Cond} {R0 : Room} {pc : Nat}
def oConst (v : Int32) : gO := fun J N L S es k n => N L (.int v :: S) es k n
theorem ok_iconst (hM : gM X l0 cc own Ts R0) {z : Int} {v : Int32} (hd : decode cc pc = .ok (.iconst z, 1)) (hv : Int32.ofInt z = v) : okO X pc (pc + 1) (oConst v) := by
  obtain ⟨p, l, e, R, s, m, args, below, meth, c, D, cA, A, ag, ad0, Q, nL⟩ := X
  obtain ⟨hx, hb, hown, hts, hml, hlk, hY, hA, hR, hL0⟩ := hM
  have hK := hY.1
  intro J N hJ hN L S es k n h ad H locs ls hag hP hD hS hl
  exact lv_iconst hx hb hd hv (hN _ _ _ _ _ h ad H locs ls hag hP hD hS hl)
theorem ok_bipush (hM : gM X l0 cc own Ts R0) {z : Int} {v : Int32} (hd : decode cc pc = .ok (.bipush z, 2)) (hv : (Int8.ofInt z).toInt32 = v) : okO X pc (pc + 2) (oConst v) := by
  obtain ⟨p, l, e, R, s, m, args, below, meth, c, D, cA, A, ag, ad0, Q, nL⟩ := X
  obtain ⟨hx, hb, hown, hts, hml, hlk, hY, hA, hR, hL0⟩ := hM
  have hK := hY.1
  intro J N hJ hN L S es k n h ad H locs ls hag hP hD hS hl
  exact lv_bipush hx hb hd hv (hN _ _ _ _ _ h ad H locs ls hag hP hD hS hl)
theorem ok_sipush (hM : gM X l0 cc own Ts R0) {z : Int} {v : Int32} (hd : decode cc pc = .ok (.sipush z, 3)) (hv : (Int16.ofInt z).toInt32 = v) : okO X pc (pc + 3) (oConst v) := by
  obtain ⟨p, l, e, R, s, m, args, below, meth, c, D, cA, A, ag, ad0, Q, nL⟩ := X
  obtain ⟨hx, hb, hown, hts, hml, hlk, hY, hA, hR, hL0⟩ := hM
  have hK := hY.1
  intro J N hJ hN L S es k n h ad H locs ls hag hP hD hS hl
  exact lv_sipush hx hb hd hv (hN _ _ _ _ _ h ad H locs ls hag hP hD hS hl)
def oILoad (i : Nat) : gO := fun J N L S es k n => match lget L i with | some (.int x) => N L (.int x :: S) es k n | _ => False
def oALoad (i : Nat) : gO := fun J N L S es k n => match lget L i with | some (.ref x) => N L (.ref x :: S) es k n | _ => False
def oDLoad (i : Nat) : gO := fun J N L S es k n => match lget L i with | some (.double x) => N L (.double x :: S) es k n | _ => False
theorem ok_iload_n (hM : gM X l0 cc own Ts R0) {kk : Fin 4} (i : Nat) (hd : decode cc pc = .ok (.iload_n kk, 1)) (hi : (kk : Nat) = i) : okO X pc (pc + 1) (oILoad i) := by
  obtain ⟨p, l, e, R, s, m, args, below, meth, c, D, cA, A, ag, ad0, Q, nL⟩ := X
  obtain ⟨hx, hb, hown, hts, hml, hlk, hY, hA, hR, hL0⟩ := hM
  have hK := hY.1
  intro J N hJ hN L S es k n h ad H locs ls hag hP hD hS hl
  unfold oILoad at h
  split at h
  · rename_i x hx'
    exact lv_iload_n hx hb hd hi (lget_at hl hx') (hN _ _ _ _ _ h ad H locs ls hag hP hD hS hl)
  · exact h.elim
theorem ok_aload_n (hM : gM X l0 cc own Ts R0) {kk : Fin 4} (i : Nat) (hd : decode cc pc = .ok (.aload_n kk, 1)) (hi : (kk : Nat) = i) : okO X pc (pc + 1) (oALoad i) := by
  obtain ⟨p, l, e, R, s, m, args, below, meth, c, D, cA, A, ag, ad0, Q, nL⟩ := X
  obtain ⟨hx, hb, hown, hts, hml, hlk, hY, hA, hR, hL0⟩ := hM
  have hK := hY.1
  intro J N hJ hN L S es k n h ad H locs ls hag hP hD hS hl
  unfold oALoad at h
  split at h
  · rename_i x hx'
    exact lv_aload_n hx hb hd hi (lget_at hl hx') (hN _ _ _ _ _ h ad H locs ls hag hP hD hS hl)
  · exact h.elim
theorem ok_iload (hM : gM X l0 cc own Ts R0) (i : Nat) (hd : decode cc pc = .ok (.iload i, 2)) : okO X pc (pc + 2) (oILoad i) := by
  obtain ⟨p, l, e, R, s, m, args, below, meth, c, D, cA, A, ag, ad0, Q, nL⟩ := X
  obtain ⟨hx, hb, hown, hts, hml, hlk, hY, hA, hR, hL0⟩ := hM
  have hK := hY.1
  intro J N hJ hN L S es k n h ad H locs ls hag hP hD hS hl
  unfold oILoad at h
  split at h
  · rename_i x hx'
    exact lv_iload hx hb hd (lget_at hl hx') (hN _ _ _ _ _ h ad H locs ls hag hP hD hS hl)
  · exact h.elim
theorem ok_aload (hM : gM X l0 cc own Ts R0) (i : Nat) (hd : decode cc pc = .ok (.aload i, 2)) : okO X pc (pc + 2) (oALoad i) := by
  obtain ⟨p, l, e, R, s, m, args, below, meth, c, D, cA, A, ag, ad0, Q, nL⟩ := X
  obtain ⟨hx, hb, hown, hts, hml, hlk, hY, hA, hR, hL0⟩ := hM
  have hK := hY.1
  intro J N hJ hN L S es k n h ad H locs ls hag hP hD hS hl
  unfold oALoad at h
  split at h
  · rename_i x hx'
    exact lv_aload hx hb hd (lget_at hl hx') (hN _ _ _ _ _ h ad H locs ls hag hP hD hS hl)
  · exact h.elim
theorem ok_dload (hM : gM X l0 cc own Ts R0) (i : Nat) (hd : decode cc pc = .ok (.dload i, 2)) : okO X pc (pc + 2) (oDLoad i) := by
  obtain ⟨p, l, e, R, s, m, args, below, meth, c, D, cA, A, ag, ad0, Q, nL⟩ := X
  obtain ⟨hx, hb, hown, hts, hml, hlk, hY, hA, hR, hL0⟩ := hM
  have hK := hY.1
  intro J N hJ hN L S es k n h ad H locs ls hag hP hD hS hl
  unfold oDLoad at h
  split at h
  · rename_i x hx'
    exact lv_dload hx hb hd (lget_at hl hx') (hN _ _ _ _ _ h ad H locs ls hag hP hD hS hl)
  · exact h.elim
def oIStore (nl i : Nat) : gO := fun J N L S es k n => match S with | .int x :: S' => gif (Nat.ble (i + 1) nl) (N (lset L i (.int x)) S' es k n) | _ => False
def oAStore (nl i : Nat) : gO := fun J N L S es k n => match S with | .ref x :: S' => gif (Nat.ble (i + 1) nl) (N (lset L i (.ref x)) S' es k n) | _ => False
theorem ok_istore_n (hM : gM X l0 cc own Ts R0) {kk : Fin 4} (i : Nat) (hd : decode cc pc = .ok (.istore_n kk, 1)) (hi : (kk : Nat) = i) : okO X pc (pc + 1) (oIStore X.2.2.2.2.2.2.2.2.2.2.2.2.2.2.2.2 i) := by
  obtain ⟨p, l, e, R, s, m, args, below, meth, c, D, cA, A, ag, ad0, Q, nL⟩ := X
  obtain ⟨hx, hb, hown, hts, hml, hlk, hY, hA, hR, hL0⟩ := hM
  have hK := hY.1
  intro J N hJ hN L S es k n h ad H locs ls hag hP hD hS hl
  unfold oIStore at h
  split at h
  · obtain ⟨hn, h⟩ := bif_t h
    exact lv_istore_n hx hb hd hi hl (Nat.le_of_ble_eq_true hn) rfl (fun ls' hl' => hN _ _ _ _ _ h ad H locs ls' hag hP hD hS (lset_ok hl'))
  · exact h.elim
theorem ok_istore (hM : gM X l0 cc own Ts R0) (i : Nat) (hd : decode cc pc = .ok (.istore i, 2))  : okO X pc (pc + 2) (oIStore X.2.2.2.2.2.2.2.2.2.2.2.2.2.2.2.2 i) := by
  obtain ⟨p, l, e, R, s, m, args, below, meth, c, D, cA, A, ag, ad0, Q, nL⟩ := X
  obtain ⟨hx, hb, hown, hts, hml, hlk, hY, hA, hR, hL0⟩ := hM
  have hK := hY.1
  intro J N hJ hN L S es k n h ad H locs ls hag hP hD hS hl
  unfold oIStore at h
  split at h
  · obtain ⟨hn, h⟩ := bif_t h
    exact lv_istore hx hb hd  hl (Nat.le_of_ble_eq_true hn) rfl (fun ls' hl' => hN _ _ _ _ _ h ad H locs ls' hag hP hD hS (lset_ok hl'))
  · exact h.elim
theorem ok_astore_n (hM : gM X l0 cc own Ts R0) {kk : Fin 4} (i : Nat) (hd : decode cc pc = .ok (.astore_n kk, 1)) (hi : (kk : Nat) = i) : okO X pc (pc + 1) (oAStore X.2.2.2.2.2.2.2.2.2.2.2.2.2.2.2.2 i) := by
  obtain ⟨p, l, e, R, s, m, args, below, meth, c, D, cA, A, ag, ad0, Q, nL⟩ := X
  obtain ⟨hx, hb, hown, hts, hml, hlk, hY, hA, hR, hL0⟩ := hM
  have hK := hY.1
  intro J N hJ hN L S es k n h ad H locs ls hag hP hD hS hl
  unfold oAStore at h
  split at h
  · obtain ⟨hn, h⟩ := bif_t h
    exact lv_astore_n hx hb hd hi hl (Nat.le_of_ble_eq_true hn) rfl (fun ls' hl' => hN _ _ _ _ _ h ad H locs ls' hag hP hD hS (lset_ok hl'))
  · exact h.elim
theorem ok_astore (hM : gM X l0 cc own Ts R0) (i : Nat) (hd : decode cc pc = .ok (.astore i, 2))  : okO X pc (pc + 2) (oAStore X.2.2.2.2.2.2.2.2.2.2.2.2.2.2.2.2 i) := by
  obtain ⟨p, l, e, R, s, m, args, below, meth, c, D, cA, A, ag, ad0, Q, nL⟩ := X
  obtain ⟨hx, hb, hown, hts, hml, hlk, hY, hA, hR, hL0⟩ := hM
  have hK := hY.1
  intro J N hJ hN L S es k n h ad H locs ls hag hP hD hS hl
  unfold oAStore at h
  split at h
  · obtain ⟨hn, h⟩ := bif_t h
    exact lv_astore hx hb hd  hl (Nat.le_of_ble_eq_true hn) rfl (fun ls' hl' => hN _ _ _ _ _ h ad H locs ls' hag hP hD hS (lset_ok hl'))
  · exact h.elim
def oIInc (nl i : Nat) (z : Int32) : gO := fun J N L S es k n => match lget L i with | some (.int x) => gif (Nat.ble (i + 1) nl) (N (lset L i (.int (x + z))) S es k n) | _ => False
theorem ok_iinc (hM : gM X l0 cc own Ts R0) (i : Nat) {zi : Int} {z : Int32} (hd : decode cc pc = .ok (.iinc i zi, 3)) (hz : Int32.ofInt zi = z) : okO X pc (pc + 3) (oIInc X.2.2.2.2.2.2.2.2.2.2.2.2.2.2.2.2 i z) := by
  obtain ⟨p, l, e, R, s, m, args, below, meth, c, D, cA, A, ag, ad0, Q, nL⟩ := X
  obtain ⟨hx, hb, hown, hts, hml, hlk, hY, hA, hR, hL0⟩ := hM
  have hK := hY.1
  intro J N hJ hN L S es k n h ad H locs ls hag hP hD hS hl
  unfold oIInc at h
  split at h
  · rename_i x hx'
    obtain ⟨hn, h⟩ := bif_t h
    obtain ⟨q, hq⟩ := lget_ix (ad := ad) hx'
    exact lv_iinc (v := x + z) hx hb hd hl hq (by rw [hz]) (Nat.le_of_ble_eq_true hn) rfl (fun ls' hl' => hN _ _ _ _ _ h ad H locs ls' hag hP hD hS (lset_ok (v := .int (x + z)) hl'))
  · exact h.elim
def oAdd : gO := fun J N L S es k n => match S with | .int y :: .int x :: S' => N L (.int (x + y) :: S') es k n | _ => False
theorem ok_iadd (hM : gM X l0 cc own Ts R0) (hd : decode cc pc = .ok (.iadd, 1)) : okO X pc (pc + 1) oAdd := by
  obtain ⟨p, l, e, R, s, m, args, below, meth, c, D, cA, A, ag, ad0, Q, nL⟩ := X
  obtain ⟨hx, hb, hown, hts, hml, hlk, hY, hA, hR, hL0⟩ := hM
  have hK := hY.1
  intro J N hJ hN L S es k n h ad H locs ls hag hP hD hS hl
  unfold oAdd at h
  split at h
  · exact lv_iadd hx hb hd (hN _ _ _ _ _ h ad H locs ls hag hP hD hS hl)
  · exact h.elim
def oSub : gO := fun J N L S es k n => match S with | .int y :: .int x :: S' => N L (.int (x - y) :: S') es k n | _ => False
theorem ok_isub (hM : gM X l0 cc own Ts R0) (hd : decode cc pc = .ok (.isub, 1)) : okO X pc (pc + 1) oSub := by
  obtain ⟨p, l, e, R, s, m, args, below, meth, c, D, cA, A, ag, ad0, Q, nL⟩ := X
  obtain ⟨hx, hb, hown, hts, hml, hlk, hY, hA, hR, hL0⟩ := hM
  have hK := hY.1
  intro J N hJ hN L S es k n h ad H locs ls hag hP hD hS hl
  unfold oSub at h
  split at h
  · exact lv_isub hx hb hd (hN _ _ _ _ _ h ad H locs ls hag hP hD hS hl)
  · exact h.elim
def oMul : gO := fun J N L S es k n => match S with | .int y :: .int x :: S' => N L (.int (x * y) :: S') es k n | _ => False
theorem ok_imul (hM : gM X l0 cc own Ts R0) (hd : decode cc pc = .ok (.imul, 1)) : okO X pc (pc + 1) oMul := by
  obtain ⟨p, l, e, R, s, m, args, below, meth, c, D, cA, A, ag, ad0, Q, nL⟩ := X
  obtain ⟨hx, hb, hown, hts, hml, hlk, hY, hA, hR, hL0⟩ := hM
  have hK := hY.1
  intro J N hJ hN L S es k n h ad H locs ls hag hP hD hS hl
  unfold oMul at h
  split at h
  · exact lv_imul hx hb hd (hN _ _ _ _ _ h ad H locs ls hag hP hD hS hl)
  · exact h.elim
def oAnd : gO := fun J N L S es k n => match S with | .int y :: .int x :: S' => N L (.int (x &&& y) :: S') es k n | _ => False
theorem ok_iand (hM : gM X l0 cc own Ts R0) (hd : decode cc pc = .ok (.iand, 1)) : okO X pc (pc + 1) oAnd := by
  obtain ⟨p, l, e, R, s, m, args, below, meth, c, D, cA, A, ag, ad0, Q, nL⟩ := X
  obtain ⟨hx, hb, hown, hts, hml, hlk, hY, hA, hR, hL0⟩ := hM
  have hK := hY.1
  intro J N hJ hN L S es k n h ad H locs ls hag hP hD hS hl
  unfold oAnd at h
  split at h
  · exact lv_iand hx hb hd (hN _ _ _ _ _ h ad H locs ls hag hP hD hS hl)
  · exact h.elim
def oDiv : gO := fun J N L S es k n => match S with | .int y :: .int x :: S' => ¬ y = 0 ∧ N L (.int (x / y) :: S') es k n | _ => False
theorem ok_idiv (hM : gM X l0 cc own Ts R0) (hd : decode cc pc = .ok (.idiv, 1)) : okO X pc (pc + 1) oDiv := by
  obtain ⟨p, l, e, R, s, m, args, below, meth, c, D, cA, A, ag, ad0, Q, nL⟩ := X
  obtain ⟨hx, hb, hown, hts, hml, hlk, hY, hA, hR, hL0⟩ := hM
  have hK := hY.1
  intro J N hJ hN L S es k n h ad H locs ls hag hP hD hS hl
  unfold oDiv at h
  split at h
  · obtain ⟨hz, h⟩ := h
    exact lv_idiv hx hb hd hz (hN _ _ _ _ _ h ad H locs ls hag hP hD hS hl)
  · exact h.elim
def oRem : gO := fun J N L S es k n => match S with | .int y :: .int x :: S' => ¬ y = 0 ∧ N L (.int (x - x / y * y) :: S') es k n | _ => False
theorem ok_irem (hM : gM X l0 cc own Ts R0) (hd : decode cc pc = .ok (.irem, 1)) : okO X pc (pc + 1) oRem := by
  obtain ⟨p, l, e, R, s, m, args, below, meth, c, D, cA, A, ag, ad0, Q, nL⟩ := X
  obtain ⟨hx, hb, hown, hts, hml, hlk, hY, hA, hR, hL0⟩ := hM
  have hK := hY.1
  intro J N hJ hN L S es k n h ad H locs ls hag hP hD hS hl
  unfold oRem at h
  split at h
  · obtain ⟨hz, h⟩ := h
    exact lv_irem hx hb hd hz (hN _ _ _ _ _ h ad H locs ls hag hP hD hS hl)
  · exact h.elim
def oI2L : gO := fun J N L S es k n => match S with | .int x :: S' => N L (.long x.toInt64 :: S') es k n | _ => False
theorem ok_i2l (hM : gM X l0 cc own Ts R0) (hd : decode cc pc = .ok (.i2l, 1)) : okO X pc (pc + 1) oI2L := by
  obtain ⟨p, l, e, R, s, m, args, below, meth, c, D, cA, A, ag, ad0, Q, nL⟩ := X
  obtain ⟨hx, hb, hown, hts, hml, hlk, hY, hA, hR, hL0⟩ := hM
  have hK := hY.1
  intro J N hJ hN L S es k n h ad H locs ls hag hP hD hS hl
  unfold oI2L at h
  split at h
  · exact lv_i2l hx hb hd rfl (hN _ _ _ _ _ h ad H locs ls hag hP hD hS hl)
  · exact h.elim
def oI2C : gO := fun J N L S es k n => match S with | .int x :: S' => N L (.int (x.toUInt32 % 65536).toInt32 :: S') es k n | _ => False
theorem ok_i2c (hM : gM X l0 cc own Ts R0) (hd : decode cc pc = .ok (.i2c, 1)) : okO X pc (pc + 1) oI2C := by
  obtain ⟨p, l, e, R, s, m, args, below, meth, c, D, cA, A, ag, ad0, Q, nL⟩ := X
  obtain ⟨hx, hb, hown, hts, hml, hlk, hY, hA, hR, hL0⟩ := hM
  have hK := hY.1
  intro J N hJ hN L S es k n h ad H locs ls hag hP hD hS hl
  unfold oI2C at h
  split at h
  · exact lv_i2c hx hb hd rfl (hN _ _ _ _ _ h ad H locs ls hag hP hD hS hl)
  · exact h.elim
def oI2D : gO := fun J N L S es k n => match S with | .int x :: S' => N L (.double (FP.i2d x) :: S') es k n | _ => False
theorem ok_i2d (hM : gM X l0 cc own Ts R0) (hd : decode cc pc = .ok (.i2d, 1)) : okO X pc (pc + 1) oI2D := by
  obtain ⟨p, l, e, R, s, m, args, below, meth, c, D, cA, A, ag, ad0, Q, nL⟩ := X
  obtain ⟨hx, hb, hown, hts, hml, hlk, hY, hA, hR, hL0⟩ := hM
  have hK := hY.1
  intro J N hJ hN L S es k n h ad H locs ls hag hP hD hS hl
  unfold oI2D at h
  split at h
  · exact lv_i2d hx hb hd (hN _ _ _ _ _ h ad H locs ls hag hP hD hS hl)
  · exact h.elim
def oDConst0 : gO := fun J N L S es k n => N L (.double FP.dconst0 :: S) es k n
theorem ok_dconst0 (hM : gM X l0 cc own Ts R0) (hd : decode cc pc = .ok (.dconst 0, 1)) : okO X pc (pc + 1) oDConst0 := by
  obtain ⟨p, l, e, R, s, m, args, below, meth, c, D, cA, A, ag, ad0, Q, nL⟩ := X
  obtain ⟨hx, hb, hown, hts, hml, hlk, hY, hA, hR, hL0⟩ := hM
  have hK := hY.1
  intro J N hJ hN L S es k n h ad H locs ls hag hP hD hS hl
  exact lv_dconst0 hx hb hd (hN _ _ _ _ _ h ad H locs ls hag hP hD hS hl)
def oLCmp : gO := fun J N L S es k n => match S with | .long y :: .long x :: S' => N L (.int (lg_cmp x y) :: S') es k n | _ => False
theorem ok_lcmp (hM : gM X l0 cc own Ts R0) (hd : decode cc pc = .ok (.lcmp, 1)) : okO X pc (pc + 1) oLCmp := by
  obtain ⟨p, l, e, R, s, m, args, below, meth, c, D, cA, A, ag, ad0, Q, nL⟩ := X
  obtain ⟨hx, hb, hown, hts, hml, hlk, hY, hA, hR, hL0⟩ := hM
  have hK := hY.1
  intro J N hJ hN L S es k n h ad H locs ls hag hP hD hS hl
  unfold oLCmp at h
  split at h
  · exact W.lcmp hx hb hd (hN _ _ _ _ _ h ad H locs ls hag hP hD hS hl)
  · exact h.elim
def oDCmp (op : CmpOp) : gO := fun J N L S es k n => match S with | .double y :: .double x :: S' => N L (.int (Op.cmpValue (FP.dcmp x y) op) :: S') es k n | _ => False
theorem ok_dcmp (hM : gM X l0 cc own Ts R0) {op : CmpOp} (hd : decode cc pc = .ok (.dcmp op, 1)) : okO X pc (pc + 1) (oDCmp op) := by
  obtain ⟨p, l, e, R, s, m, args, below, meth, c, D, cA, A, ag, ad0, Q, nL⟩ := X
  obtain ⟨hx, hb, hown, hts, hml, hlk, hY, hA, hR, hL0⟩ := hM
  have hK := hY.1
  intro J N hJ hN L S es k n h ad H locs ls hag hP hD hS hl
  unfold oDCmp at h
  split at h
  · exact lv_dcmp hx hb hd (hN _ _ _ _ _ h ad H locs ls hag hP hD hS hl)
  · exact h.elim
def oDDiv : gO := fun J N L S es k n => match S with | .double y :: .double x :: S' => vf_n64 (FP.ddiv x y) ∧ N L (.double (FP.ddiv x y) :: S') es k n | _ => False
theorem ok_ddiv (hM : gM X l0 cc own Ts R0) (hd : decode cc pc = .ok (.ddiv, 1)) : okO X pc (pc + 1) oDDiv := by
  obtain ⟨p, l, e, R, s, m, args, below, meth, c, D, cA, A, ag, ad0, Q, nL⟩ := X
  obtain ⟨hx, hb, hown, hts, hml, hlk, hY, hA, hR, hL0⟩ := hM
  have hK := hY.1
  intro J N hJ hN L S es k n h ad H locs ls hag hP hD hS hl
  unfold oDDiv at h
  split at h
  · obtain ⟨hz, h⟩ := h
    exact lv_ddiv hx hb hd hz (hN _ _ _ _ _ h ad H locs ls hag hP hD hS hl)
  · exact h.elim
def oDup : gO := fun J N L S es k n => match S with | v :: S' => gif (!(cat2 v)) (N L (v :: v :: S') es k n) | _ => False
theorem cat1_of {b : Bool} {P : Prop} (h : gif (!b) P) : b = false ∧ P := by
  cases b
  · exact ⟨rfl, h⟩
  · exact h.elim
theorem cat1 {v : Value} {ad : Nat → Nat} (h : cat2 v = false) : (gv ad v).category = 1 := by
  cases v <;> first | rfl | cases h
theorem ok_dup (hM : gM X l0 cc own Ts R0) (hd : decode cc pc = .ok (.dup, 1)) : okO X pc (pc + 1) oDup := by
  obtain ⟨p, l, e, R, s, m, args, below, meth, c, D, cA, A, ag, ad0, Q, nL⟩ := X
  obtain ⟨hx, hb, hown, hts, hml, hlk, hY, hA, hR, hL0⟩ := hM
  have hK := hY.1
  intro J N hJ hN L S es k n h ad H locs ls hag hP hD hS hl
  unfold oDup at h
  split at h
  · obtain ⟨hc, h⟩ := cat1_of h
    exact lv_dup hx hb hd (cat1 hc) (hN _ _ _ _ _ h ad H locs ls hag hP hD hS hl)
  · exact h.elim
def oPop : gO := fun J N L S es k n => match S with | v :: S' => gif (!(cat2 v)) (N L S' es k n) | _ => False
theorem ok_pop (hM : gM X l0 cc own Ts R0) (hd : decode cc pc = .ok (.pop, 1)) : okO X pc (pc + 1) oPop := by
  obtain ⟨p, l, e, R, s, m, args, below, meth, c, D, cA, A, ag, ad0, Q, nL⟩ := X
  obtain ⟨hx, hb, hown, hts, hml, hlk, hY, hA, hR, hL0⟩ := hM
  have hK := hY.1
  intro J N hJ hN L S es k n h ad H locs ls hag hP hD hS hl
  unfold oPop at h
  split at h
  · obtain ⟨hc, h⟩ := cat1_of h
    exact lv_pop hx hb hd (cat1 hc) (hN _ _ _ _ _ h ad H locs ls hag hP hD hS hl)
  · exact h.elim
def oDup2 : gO := fun J N L S es k n => match S with | v :: v' :: S' => gif (!(cat2 v)) (gif (!(cat2 v')) (N L (v :: v' :: v :: v' :: S') es k n)) | _ => False
theorem ok_dup2 (hM : gM X l0 cc own Ts R0) (hd : decode cc pc = .ok (.dup2, 1)) : okO X pc (pc + 1) oDup2 := by
  obtain ⟨p, l, e, R, s, m, args, below, meth, c, D, cA, A, ag, ad0, Q, nL⟩ := X
  obtain ⟨hx, hb, hown, hts, hml, hlk, hY, hA, hR, hL0⟩ := hM
  have hK := hY.1
  intro J N hJ hN L S es k n h ad H locs ls hag hP hD hS hl
  unfold oDup2 at h
  split at h
  · obtain ⟨hc, h⟩ := cat1_of h
    obtain ⟨hc', h⟩ := cat1_of h
    exact lv_dup2_11 hx hb hd (cat1 hc) (cat1 hc') (hN _ _ _ _ _ h ad H locs ls hag hP hD hS hl)
  · exact h.elim
def oICmp_eq (t : Nat) : gO := fun J N L S es k n => match S with | .int y :: .int x :: S' => (x = y → J t L S' es k n) ∧ (¬ x = y → N L S' es k n) | _ => False
theorem ok_icmp_eq (hM : gM X l0 cc own Ts R0) {off : Int} (t : Nat) (hd : decode cc pc = .ok (.if_icmp .eq off, 3)) (ht : (pc : Int) + off = (t : Int)) : okO X pc (pc + 3) (oICmp_eq t) := by
  obtain ⟨p, l, e, R, s, m, args, below, meth, c, D, cA, A, ag, ad0, Q, nL⟩ := X
  obtain ⟨hx, hb, hown, hts, hml, hlk, hY, hA, hR, hL0⟩ := hM
  have hK := hY.1
  intro J N hJ hN L S es k n h ad H locs ls hag hP hD hS hl
  unfold oICmp_eq at h
  split at h
  · exact lv_icmp_eq hx hb hd ht (fun hc => hJ _ _ _ _ _ _ (h.1 hc) ad H locs ls hag hP hD hS hl) (fun hc => hN _ _ _ _ _ (h.2 hc) ad H locs ls hag hP hD hS hl)
  · exact h.elim
def oIf_eq (t : Nat) : gO := fun J N L S es k n => match S with | .int x :: S' => (x = 0 → J t L S' es k n) ∧ (¬ x = 0 → N L S' es k n) | _ => False
theorem ok_if_eq (hM : gM X l0 cc own Ts R0) {off : Int} (t : Nat) (hd : decode cc pc = .ok (.ifCond .eq off, 3)) (ht : (pc : Int) + off = (t : Int)) : okO X pc (pc + 3) (oIf_eq t) := by
  obtain ⟨p, l, e, R, s, m, args, below, meth, c, D, cA, A, ag, ad0, Q, nL⟩ := X
  obtain ⟨hx, hb, hown, hts, hml, hlk, hY, hA, hR, hL0⟩ := hM
  have hK := hY.1
  intro J N hJ hN L S es k n h ad H locs ls hag hP hD hS hl
  unfold oIf_eq at h
  split at h
  · exact lv_if_eq hx hb hd ht (fun hc => hJ _ _ _ _ _ _ (h.1 hc) ad H locs ls hag hP hD hS hl) (fun hc => hN _ _ _ _ _ (h.2 hc) ad H locs ls hag hP hD hS hl)
  · exact h.elim
def oICmp_ne (t : Nat) : gO := fun J N L S es k n => match S with | .int y :: .int x :: S' => (¬ x = y → J t L S' es k n) ∧ (x = y → N L S' es k n) | _ => False
theorem ok_icmp_ne (hM : gM X l0 cc own Ts R0) {off : Int} (t : Nat) (hd : decode cc pc = .ok (.if_icmp .ne off, 3)) (ht : (pc : Int) + off = (t : Int)) : okO X pc (pc + 3) (oICmp_ne t) := by
  obtain ⟨p, l, e, R, s, m, args, below, meth, c, D, cA, A, ag, ad0, Q, nL⟩ := X
  obtain ⟨hx, hb, hown, hts, hml, hlk, hY, hA, hR, hL0⟩ := hM
  have hK := hY.1
  intro J N hJ hN L S es k n h ad H locs ls hag hP hD hS hl
  unfold oICmp_ne at h
  split at h
  · exact lv_icmp_ne hx hb hd ht (fun hc => hJ _ _ _ _ _ _ (h.1 hc) ad H locs ls hag hP hD hS hl) (fun hc => hN _ _ _ _ _ (h.2 hc) ad H locs ls hag hP hD hS hl)
  · exact h.elim
def oIf_ne (t : Nat) : gO := fun J N L S es k n => match S with | .int x :: S' => (¬ x = 0 → J t L S' es k n) ∧ (x = 0 → N L S' es k n) | _ => False
theorem ok_if_ne (hM : gM X l0 cc own Ts R0) {off : Int} (t : Nat) (hd : decode cc pc = .ok (.ifCond .ne off, 3)) (ht : (pc : Int) + off = (t : Int)) : okO X pc (pc + 3) (oIf_ne t) := by
  obtain ⟨p, l, e, R, s, m, args, below, meth, c, D, cA, A, ag, ad0, Q, nL⟩ := X
  obtain ⟨hx, hb, hown, hts, hml, hlk, hY, hA, hR, hL0⟩ := hM
  have hK := hY.1
  intro J N hJ hN L S es k n h ad H locs ls hag hP hD hS hl
  unfold oIf_ne at h
  split at h
  · exact lv_if_ne hx hb hd ht (fun hc => hJ _ _ _ _ _ _ (h.1 hc) ad H locs ls hag hP hD hS hl) (fun hc => hN _ _ _ _ _ (h.2 hc) ad H locs ls hag hP hD hS hl)
  · exact h.elim
def oICmp_lt (t : Nat) : gO := fun J N L S es k n => match S with | .int y :: .int x :: S' => (x < y → J t L S' es k n) ∧ (¬ x < y → N L S' es k n) | _ => False
theorem ok_icmp_lt (hM : gM X l0 cc own Ts R0) {off : Int} (t : Nat) (hd : decode cc pc = .ok (.if_icmp .lt off, 3)) (ht : (pc : Int) + off = (t : Int)) : okO X pc (pc + 3) (oICmp_lt t) := by
  obtain ⟨p, l, e, R, s, m, args, below, meth, c, D, cA, A, ag, ad0, Q, nL⟩ := X
  obtain ⟨hx, hb, hown, hts, hml, hlk, hY, hA, hR, hL0⟩ := hM
  have hK := hY.1
  intro J N hJ hN L S es k n h ad H locs ls hag hP hD hS hl
  unfold oICmp_lt at h
  split at h
  · exact lv_icmp_lt hx hb hd ht (fun hc => hJ _ _ _ _ _ _ (h.1 hc) ad H locs ls hag hP hD hS hl) (fun hc => hN _ _ _ _ _ (h.2 hc) ad H locs ls hag hP hD hS hl)
  · exact h.elim
def oIf_lt (t : Nat) : gO := fun J N L S es k n => match S with | .int x :: S' => (x < 0 → J t L S' es k n) ∧ (¬ x < 0 → N L S' es k n) | _ => False
theorem ok_if_lt (hM : gM X l0 cc own Ts R0) {off : Int} (t : Nat) (hd : decode cc pc = .ok (.ifCond .lt off, 3)) (ht : (pc : Int) + off = (t : Int)) : okO X pc (pc + 3) (oIf_lt t) := by
  obtain ⟨p, l, e, R, s, m, args, below, meth, c, D, cA, A, ag, ad0, Q, nL⟩ := X
  obtain ⟨hx, hb, hown, hts, hml, hlk, hY, hA, hR, hL0⟩ := hM
  have hK := hY.1
  intro J N hJ hN L S es k n h ad H locs ls hag hP hD hS hl
  unfold oIf_lt at h
  split at h
  · exact lv_if_lt hx hb hd ht (fun hc => hJ _ _ _ _ _ _ (h.1 hc) ad H locs ls hag hP hD hS hl) (fun hc => hN _ _ _ _ _ (h.2 hc) ad H locs ls hag hP hD hS hl)
  · exact h.elim
def oICmp_ge (t : Nat) : gO := fun J N L S es k n => match S with | .int y :: .int x :: S' => (y ≤ x → J t L S' es k n) ∧ (¬ y ≤ x → N L S' es k n) | _ => False
theorem ok_icmp_ge (hM : gM X l0 cc own Ts R0) {off : Int} (t : Nat) (hd : decode cc pc = .ok (.if_icmp .ge off, 3)) (ht : (pc : Int) + off = (t : Int)) : okO X pc (pc + 3) (oICmp_ge t) := by
  obtain ⟨p, l, e, R, s, m, args, below, meth, c, D, cA, A, ag, ad0, Q, nL⟩ := X
  obtain ⟨hx, hb, hown, hts, hml, hlk, hY, hA, hR, hL0⟩ := hM
  have hK := hY.1
  intro J N hJ hN L S es k n h ad H locs ls hag hP hD hS hl
  unfold oICmp_ge at h
  split at h
  · exact lv_icmp_ge hx hb hd ht (fun hc => hJ _ _ _ _ _ _ (h.1 hc) ad H locs ls hag hP hD hS hl) (fun hc => hN _ _ _ _ _ (h.2 hc) ad H locs ls hag hP hD hS hl)
  · exact h.elim
def oIf_ge (t : Nat) : gO := fun J N L S es k n => match S with | .int x :: S' => (0 ≤ x → J t L S' es k n) ∧ (¬ 0 ≤ x → N L S' es k n) | _ => False
theorem ok_if_ge (hM : gM X l0 cc own Ts R0) {off : Int} (t : Nat) (hd : decode cc pc = .ok (.ifCond .ge off, 3)) (ht : (pc : Int) + off = (t : Int)) : okO X pc (pc + 3) (oIf_ge t) := by
  obtain ⟨p, l, e, R, s, m, args, below, meth, c, D, cA, A, ag, ad0, Q, nL⟩ := X
  obtain ⟨hx, hb, hown, hts, hml, hlk, hY, hA, hR, hL0⟩ := hM
  have hK := hY.1
  intro J N hJ hN L S es k n h ad H locs ls hag hP hD hS hl
  unfold oIf_ge at h
  split at h
  · exact lv_if_ge hx hb hd ht (fun hc => hJ _ _ _ _ _ _ (h.1 hc) ad H locs ls hag hP hD hS hl) (fun hc => hN _ _ _ _ _ (h.2 hc) ad H locs ls hag hP hD hS hl)
  · exact h.elim
def oICmp_gt (t : Nat) : gO := fun J N L S es k n => match S with | .int y :: .int x :: S' => (y < x → J t L S' es k n) ∧ (¬ y < x → N L S' es k n) | _ => False
theorem ok_icmp_gt (hM : gM X l0 cc own Ts R0) {off : Int} (t : Nat) (hd : decode cc pc = .ok (.if_icmp .gt off, 3)) (ht : (pc : Int) + off = (t : Int)) : okO X pc (pc + 3) (oICmp_gt t) := by
  obtain ⟨p, l, e, R, s, m, args, below, meth, c, D, cA, A, ag, ad0, Q, nL⟩ := X
  obtain ⟨hx, hb, hown, hts, hml, hlk, hY, hA, hR, hL0⟩ := hM
  have hK := hY.1
  intro J N hJ hN L S es k n h ad H locs ls hag hP hD hS hl
  unfold oICmp_gt at h
  split at h
  · exact lv_icmp_gt hx hb hd ht (fun hc => hJ _ _ _ _ _ _ (h.1 hc) ad H locs ls hag hP hD hS hl) (fun hc => hN _ _ _ _ _ (h.2 hc) ad H locs ls hag hP hD hS hl)
  · exact h.elim
def oIf_gt (t : Nat) : gO := fun J N L S es k n => match S with | .int x :: S' => (0 < x → J t L S' es k n) ∧ (¬ 0 < x → N L S' es k n) | _ => False
theorem ok_if_gt (hM : gM X l0 cc own Ts R0) {off : Int} (t : Nat) (hd : decode cc pc = .ok (.ifCond .gt off, 3)) (ht : (pc : Int) + off = (t : Int)) : okO X pc (pc + 3) (oIf_gt t) := by
  obtain ⟨p, l, e, R, s, m, args, below, meth, c, D, cA, A, ag, ad0, Q, nL⟩ := X
  obtain ⟨hx, hb, hown, hts, hml, hlk, hY, hA, hR, hL0⟩ := hM
  have hK := hY.1
  intro J N hJ hN L S es k n h ad H locs ls hag hP hD hS hl
  unfold oIf_gt at h
  split at h
  · exact lv_if_gt hx hb hd ht (fun hc => hJ _ _ _ _ _ _ (h.1 hc) ad H locs ls hag hP hD hS hl) (fun hc => hN _ _ _ _ _ (h.2 hc) ad H locs ls hag hP hD hS hl)
  · exact h.elim
def oICmp_le (t : Nat) : gO := fun J N L S es k n => match S with | .int y :: .int x :: S' => (x ≤ y → J t L S' es k n) ∧ (¬ x ≤ y → N L S' es k n) | _ => False
theorem ok_icmp_le (hM : gM X l0 cc own Ts R0) {off : Int} (t : Nat) (hd : decode cc pc = .ok (.if_icmp .le off, 3)) (ht : (pc : Int) + off = (t : Int)) : okO X pc (pc + 3) (oICmp_le t) := by
  obtain ⟨p, l, e, R, s, m, args, below, meth, c, D, cA, A, ag, ad0, Q, nL⟩ := X
  obtain ⟨hx, hb, hown, hts, hml, hlk, hY, hA, hR, hL0⟩ := hM
  have hK := hY.1
  intro J N hJ hN L S es k n h ad H locs ls hag hP hD hS hl
  unfold oICmp_le at h
  split at h
  · exact lv_icmp_le hx hb hd ht (fun hc => hJ _ _ _ _ _ _ (h.1 hc) ad H locs ls hag hP hD hS hl) (fun hc => hN _ _ _ _ _ (h.2 hc) ad H locs ls hag hP hD hS hl)
  · exact h.elim
def oIf_le (t : Nat) : gO := fun J N L S es k n => match S with | .int x :: S' => (x ≤ 0 → J t L S' es k n) ∧ (¬ x ≤ 0 → N L S' es k n) | _ => False
theorem ok_if_le (hM : gM X l0 cc own Ts R0) {off : Int} (t : Nat) (hd : decode cc pc = .ok (.ifCond .le off, 3)) (ht : (pc : Int) + off = (t : Int)) : okO X pc (pc + 3) (oIf_le t) := by
  obtain ⟨p, l, e, R, s, m, args, below, meth, c, D, cA, A, ag, ad0, Q, nL⟩ := X
  obtain ⟨hx, hb, hown, hts, hml, hlk, hY, hA, hR, hL0⟩ := hM
  have hK := hY.1
  intro J N hJ hN L S es k n h ad H locs ls hag hP hD hS hl
  unfold oIf_le at h
  split at h
  · exact lv_if_le hx hb hd ht (fun hc => hJ _ _ _ _ _ _ (h.1 hc) ad H locs ls hag hP hD hS hl) (fun hc => hN _ _ _ _ _ (h.2 hc) ad H locs ls hag hP hD hS hl)
  · exact h.elim
def oGoto (t : Nat) : gO := fun J N L S es k n => J t L S es k n
theorem ok_goto (hM : gM X l0 cc own Ts R0) {nx : Nat} {off : Int} (t : Nat) (hd : decode cc pc = .ok (.goto off, 3)) (ht : (pc : Int) + off = (t : Int)) : okO X pc nx (oGoto t) := by
  obtain ⟨p, l, e, R, s, m, args, below, meth, c, D, cA, A, ag, ad0, Q, nL⟩ := X
  obtain ⟨hx, hb, hown, hts, hml, hlk, hY, hA, hR, hL0⟩ := hM
  have hK := hY.1
  intro J N hJ hN L S es k n h ad H locs ls hag hP hD hS hl
  exact lv_goto hx hb hd ht (hJ _ _ _ _ _ _ h ad H locs ls hag hP hD hS hl)
def eObj (es : List gE) (a ci : Nat) (F : List Value → Prop) : Prop := match gnth es a with | some (.inr (c, fs)) => gif (Nat.beq c ci) (F fs) | _ => False
def eInt (es : List gE) (a tg : Nat) (F : Nat → (Nat → Int32) → Prop) : Prop := match gnth es a with | some (.inl (t, sz, .inl f)) => gif (Nat.beq t tg && Nat.ble sz 100000) (F sz f) | _ => False
def eLng (es : List gE) (a tg : Nat) (F : Nat → (Nat → Int64) → Prop) : Prop := match gnth es a with | some (.inl (t, sz, .inr (.inl f))) => gif (Nat.beq t tg && Nat.ble sz 100000) (F sz f) | _ => False
def eDbl (es : List gE) (a tg : Nat) (F : Nat → (Nat → UInt64) → Prop) : Prop := match gnth es a with | some (.inl (t, sz, .inr (.inr (.inl f)))) => gif (Nat.beq t tg && Nat.ble sz 100000) (F sz f) | _ => False
def eRef (es : List gE) (a tg : Nat) (F : Nat → List (Option Nat) → Prop) : Prop := match gnth es a with | some (.inl (t, sz, .inr (.inr (.inr f)))) => gif (Nat.beq t tg && Nat.ble sz 100000) (F sz f) | _ => False
theorem sz_lt {sz : Nat} (h : Nat.ble sz 100000 = true) : sz < 2 ^ 31 := by
  have := Nat.le_of_ble_eq_true h
  omega
theorem eObj_ok {es : List gE} {a ci : Nat} {F : List Value → Prop} (h : eObj es a ci F) : ∃ fs, es[a]? = some (.inr (ci, fs)) ∧ F fs := by
  unfold eObj at h
  rw [← gnth_eq]
  cases hg : gnth es a with
  | none => rw [hg] at h; exact h.elim
  | some e =>
    rw [hg] at h
    rcases e with d | ⟨c, fs⟩
    · exact h.elim
    · obtain ⟨h1, h2⟩ := bif_t (b := Nat.beq c ci) (P := F fs) h
      have h1 := Nat.eq_of_beq_eq_true h1
      subst h1
      exact ⟨fs, rfl, h2⟩
theorem eInt_ok {es : List gE} {a tg : Nat} {F : Nat → (Nat → Int32) → Prop} (h : eInt es a tg F) : ∃ sz f, es[a]? = some (.inl (tg, sz, .inl f)) ∧ sz < 2 ^ 31 ∧ F sz f := by
  unfold eInt at h
  rw [← gnth_eq]
  cases hg : gnth es a with
  | none => rw [hg] at h; exact h.elim
  | some e =>
    rw [hg] at h
    rcases e with ⟨t, sz, f | d⟩ | ⟨c, fs⟩
    · obtain ⟨h1, h2⟩ := bif_t (b := Nat.beq t tg && Nat.ble sz 100000) (P := F sz f) h
      obtain ⟨h1, h3⟩ := and_t h1
      have h1 := Nat.eq_of_beq_eq_true h1
      subst h1
      exact ⟨sz, f, rfl, sz_lt h3, h2⟩
    · exact h.elim
    · exact h.elim
theorem eLng_ok {es : List gE} {a tg : Nat} {F : Nat → (Nat → Int64) → Prop} (h : eLng es a tg F) : ∃ sz f, es[a]? = some (.inl (tg, sz, .inr (.inl f))) ∧ sz < 2 ^ 31 ∧ F sz f := by
  unfold eLng at h
  rw [← gnth_eq]
  cases hg : gnth es a with
  | none => rw [hg] at h; exact h.elim
  | some e =>
    rw [hg] at h
    rcases e with ⟨t, sz, d | f | d⟩ | ⟨c, fs⟩
    · exact h.elim
    · obtain ⟨h1, h2⟩ := bif_t (b := Nat.beq t tg && Nat.ble sz 100000) (P := F sz f) h
      obtain ⟨h1, h3⟩ := and_t h1
      have h1 := Nat.eq_of_beq_eq_true h1
      subst h1
      exact ⟨sz, f, rfl, sz_lt h3, h2⟩
    · exact h.elim
    · exact h.elim
theorem eDbl_ok {es : List gE} {a tg : Nat} {F : Nat → (Nat → UInt64) → Prop} (h : eDbl es a tg F) : ∃ sz f, es[a]? = some (.inl (tg, sz, .inr (.inr (.inl f)))) ∧ sz < 2 ^ 31 ∧ F sz f := by
  unfold eDbl at h
  rw [← gnth_eq]
  cases hg : gnth es a with
  | none => rw [hg] at h; exact h.elim
  | some e =>
    rw [hg] at h
    rcases e with ⟨t, sz, d | d | f | d⟩ | ⟨c, fs⟩
    · exact h.elim
    · exact h.elim
    · obtain ⟨h1, h2⟩ := bif_t (b := Nat.beq t tg && Nat.ble sz 100000) (P := F sz f) h
      obtain ⟨h1, h3⟩ := and_t h1
      have h1 := Nat.eq_of_beq_eq_true h1
      subst h1
      exact ⟨sz, f, rfl, sz_lt h3, h2⟩
    · exact h.elim
    · exact h.elim
theorem eRef_ok {es : List gE} {a tg : Nat} {F : Nat → (List (Option Nat)) → Prop} (h : eRef es a tg F) : ∃ sz f, es[a]? = some (.inl (tg, sz, .inr (.inr (.inr f)))) ∧ sz < 2 ^ 31 ∧ F sz f := by
  unfold eRef at h
  rw [← gnth_eq]
  cases hg : gnth es a with
  | none => rw [hg] at h; exact h.elim
  | some e =>
    rw [hg] at h
    rcases e with ⟨t, sz, d | d | d | f⟩ | ⟨c, fs⟩
    · exact h.elim
    · exact h.elim
    · exact h.elim
    · obtain ⟨h1, h2⟩ := bif_t (b := Nat.beq t tg && Nat.ble sz 100000) (P := F sz f) h
      obtain ⟨h1, h3⟩ := and_t h1
      have h1 := Nat.eq_of_beq_eq_true h1
      subst h1
      exact ⟨sz, f, rfl, sz_lt h3, h2⟩
    · exact h.elim
def oGet (ci j : Nat) : gO := fun J N L S es k n => match S with | .ref a :: S' => eObj es a ci (fun fs => match vnth fs j with | some v => N L (v :: S') es k n | none => False) | _ => False
theorem ok_get (hM : gM X l0 cc own Ts R0) {ref C : String} {T : u_T} {Nf ci index : Nat} (hin : ∀ w ∈ u_ws C T Nf, w ∈ Ts) (hc : vwCl[ci]? = some (C, T, Nf)) (j : Nat) (hj : j < Nf) (hlink : (Cond.fieldLink own index ref (T j).2.1 (T j).2.2.1) ∈ Ts) (href : (T j).1 = ref) (hd : decode cc pc = .ok (.getfield index, 3)) : okO X pc (pc + 3) (oGet ci j) := by
  obtain ⟨p, l, e, R, s, m, args, below, meth, c, D, cA, A, ag, ad0, Q, nL⟩ := X
  obtain ⟨hx, hb, hown, hts, hml, hlk, hY, hA, hR, hL0⟩ := hM
  have hK := hY.1
  intro J N hJ hN L S es k n h ad H locs ls hag hP hD hS hl
  unfold oGet at h
  split at h
  · rename_i a S'
    obtain ⟨fs, hes, h⟩ := eObj_ok h
    split at h
    · rename_i v hv
      rw [vnth_eq] at hv
      exact va_get (fs := fs.map (gv ad)) hx hb hts hin hown hK hP a (gw_get hes) hc j hj (hts _ hlink) (fun x h9 => by rw [← href]; exact h9) (by rw [List.getElem?_map, hv]; rfl) hd (hN _ _ _ _ _ h ad H locs ls hag hP hD hS hl)
    · exact h.elim
  · exact h.elim
def oPutI (ci j : Nat) : gO := fun J N L S es k n => match S with | .int v :: .ref a :: S' => eObj es a ci (fun fs => gif (Nat.ble (j + 1) fs.length) (N L S' (es.set a (.inr (ci, fs.set j (.int v)))) k n)) | _ => False
theorem ok_putI (hM : gM X l0 cc own Ts R0) {ref C : String} {T : u_T} {Nf ci index : Nat} (hin : ∀ w ∈ u_ws C T Nf, w ∈ Ts) (ty0 : Nat → FieldType) (hty : ∀ k, k < Nf → parseFieldDescriptor (T k).2.2.1 = some (ty0 k)) (hnm : ∀ a, a < Nf → ∀ b, b < Nf → a ≠ b → (T a).2.1 ≠ (T b).2.1) (hc : vwCl[ci]? = some (C, T, Nf)) (j : Nat) (hj : j < Nf) (hlink : (Cond.fieldLink own index ref (T j).2.1 (T j).2.2.1) ∈ Ts) (href : (T j).1 = ref) (hfin : (T j).2.2.2 = false) (hty0 : parseFieldDescriptor (T j).2.2.1 = some .int) (hd : decode cc pc = .ok (.putfield index, 3)) : okO X pc (pc + 3) (oPutI ci j) := by
  obtain ⟨p, l, e, R, s, m, args, below, meth, c, D, cA, A, ag, ad0, Q, nL⟩ := X
  obtain ⟨hx, hb, hown, hts, hml, hlk, hY, hA, hR, hL0⟩ := hM
  have hK := hY.1
  intro J N hJ hN L S es k n h ad H locs ls hag hP hD hS hl
  unfold oPutI at h
  split at h
  · rename_i v a S'
    obtain ⟨fs, hes, h⟩ := eObj_ok h
    obtain ⟨hlen, h⟩ := bif_t h
    refine va_put (fs := fs.map (gv ad)) (v := gv ad (.int v)) (ty := .int) hx hb hts hin ty0 hty hnm hown hK hP hD hS a (gw_get hes) hc j hj (hts _ hlink) (fun x h9 => by rw [← href]; exact h9) hfin hty0 rfl rfl (by rw [List.length_map]; exact Nat.le_of_ble_eq_true hlen) hd (fun H1 locs1 hP1 hD1 hS1 => hN _ _ _ _ _ h ad H1 locs1 ls hag ?_ ?_ hS1 hl)
    · rw [← gw_set]; simp only [ge, List.map_set]; exact hP1
    · rw [← gw_set]; simp only [ge, List.map_set]; exact hD1
  · exact h.elim
def gInit (X : gX) : Prop := match X with | (_, _, _, _, _, _, _, _, meth, _) => meth.name = "<init>"
theorem ok_putIF (hM : gM X l0 cc own Ts R0) {ref C : String} {T : u_T} {Nf ci index : Nat} (hin : ∀ w ∈ u_ws C T Nf, w ∈ Ts) (ty0 : Nat → FieldType) (hty : ∀ k, k < Nf → parseFieldDescriptor (T k).2.2.1 = some (ty0 k)) (hnm : ∀ a, a < Nf → ∀ b, b < Nf → a ≠ b → (T a).2.1 ≠ (T b).2.1) (hc : vwCl[ci]? = some (C, T, Nf)) (j : Nat) (hj : j < Nf) (hlink : (Cond.fieldLink own index ref (T j).2.1 (T j).2.2.1) ∈ Ts) (href : (T j).1 = ref) (hfin : (T j).2.2.2 = true) (hin2 : gInit X) (hdecl : (T j).1 = own) (hty0 : parseFieldDescriptor (T j).2.2.1 = some .int) (hd : decode cc pc = .ok (.putfield index, 3)) : okO X pc (pc + 3) (oPutI ci j) := by
  obtain ⟨p, l, e, R, s, m, args, below, meth, c, D, cA, A, ag, ad0, Q, nL⟩ := X
  obtain ⟨hx, hb, hown, hts, hml, hlk, hY, hA, hR, hL0⟩ := hM
  have hK := hY.1
  intro J N hJ hN L S es k n h ad H locs ls hag hP hD hS hl
  unfold oPutI at h
  split at h
  · rename_i v a S'
    obtain ⟨fs, hes, h⟩ := eObj_ok h
    obtain ⟨hlen, h⟩ := bif_t h
    refine va_putF (fs := fs.map (gv ad)) (v := gv ad (.int v)) (ty := .int) hx hb hts hin ty0 hty hnm hown hK hP hD hS a (gw_get hes) hc j hj (hts _ hlink) (fun x h9 => by rw [← href]; exact h9) hfin hin2 hdecl hty0 rfl rfl (by rw [List.length_map]; exact Nat.le_of_ble_eq_true hlen) hd (fun H1 locs1 hP1 hD1 hS1 => hN _ _ _ _ _ h ad H1 locs1 ls hag ?_ ?_ hS1 hl)
    · rw [← gw_set]; simp only [ge, List.map_set]; exact hP1
    · rw [← gw_set]; simp only [ge, List.map_set]; exact hD1
  · exact h.elim
def oPutR (ci j : Nat) : gO := fun J N L S es k n => match S with | .ref v :: .ref a :: S' => eObj es a ci (fun fs => gif (Nat.ble (j + 1) fs.length) (N L S' (es.set a (.inr (ci, fs.set j (.ref v)))) k n)) | _ => False
theorem ok_putR (hM : gM X l0 cc own Ts R0) {ref C : String} {T : u_T} {Nf ci index : Nat} (hin : ∀ w ∈ u_ws C T Nf, w ∈ Ts) (ty0 : Nat → FieldType) (hty : ∀ k, k < Nf → parseFieldDescriptor (T k).2.2.1 = some (ty0 k)) (hnm : ∀ a, a < Nf → ∀ b, b < Nf → a ≠ b → (T a).2.1 ≠ (T b).2.1) (hc : vwCl[ci]? = some (C, T, Nf)) (j : Nat) (hj : j < Nf) (hlink : (Cond.fieldLink own index ref (T j).2.1 (T j).2.2.1) ∈ Ts) (href : (T j).1 = ref) (hfin : (T j).2.2.2 = false) {cn : String} (hty0 : parseFieldDescriptor (T j).2.2.1 = some (.object cn)) (hd : decode cc pc = .ok (.putfield index, 3)) : okO X pc (pc + 3) (oPutR ci j) := by
  obtain ⟨p, l, e, R, s, m, args, below, meth, c, D, cA, A, ag, ad0, Q, nL⟩ := X
  obtain ⟨hx, hb, hown, hts, hml, hlk, hY, hA, hR, hL0⟩ := hM
  have hK := hY.1
  intro J N hJ hN L S es k n h ad H locs ls hag hP hD hS hl
  unfold oPutR at h
  split at h
  · rename_i v a S'
    obtain ⟨fs, hes, h⟩ := eObj_ok h
    obtain ⟨hlen, h⟩ := bif_t h
    refine va_put (fs := fs.map (gv ad)) (v := gv ad (.ref v)) (ty := .object cn) hx hb hts hin ty0 hty hnm hown hK hP hD hS a (gw_get hes) hc j hj (hts _ hlink) (fun x h9 => by rw [← href]; exact h9) hfin hty0 rfl rfl (by rw [List.length_map]; exact Nat.le_of_ble_eq_true hlen) hd (fun H1 locs1 hP1 hD1 hS1 => hN _ _ _ _ _ h ad H1 locs1 ls hag ?_ ?_ hS1 hl)
    · rw [← gw_set]; simp only [ge, List.map_set]; exact hP1
    · rw [← gw_set]; simp only [ge, List.map_set]; exact hD1
  · exact h.elim
theorem ok_putRA (hM : gM X l0 cc own Ts R0) {ref C : String} {T : u_T} {Nf ci index : Nat} (hin : ∀ w ∈ u_ws C T Nf, w ∈ Ts) (ty0 : Nat → FieldType) (hty : ∀ k, k < Nf → parseFieldDescriptor (T k).2.2.1 = some (ty0 k)) (hnm : ∀ a, a < Nf → ∀ b, b < Nf → a ≠ b → (T a).2.1 ≠ (T b).2.1) (hc : vwCl[ci]? = some (C, T, Nf)) (j : Nat) (hj : j < Nf) (hlink : (Cond.fieldLink own index ref (T j).2.1 (T j).2.2.1) ∈ Ts) (href : (T j).1 = ref) (hfin : (T j).2.2.2 = false) {ct : FieldType} (hty0 : parseFieldDescriptor (T j).2.2.1 = some (.array ct)) (hd : decode cc pc = .ok (.putfield index, 3)) : okO X pc (pc + 3) (oPutR ci j) := by
  obtain ⟨p, l, e, R, s, m, args, below, meth, c, D, cA, A, ag, ad0, Q, nL⟩ := X
  obtain ⟨hx, hb, hown, hts, hml, hlk, hY, hA, hR, hL0⟩ := hM
  have hK := hY.1
  intro J N hJ hN L S es k n h ad H locs ls hag hP hD hS hl
  unfold oPutR at h
  split at h
  · rename_i v a S'
    obtain ⟨fs, hes, h⟩ := eObj_ok h
    obtain ⟨hlen, h⟩ := bif_t h
    refine va_put (fs := fs.map (gv ad)) (v := gv ad (.ref v)) (ty := .array ct) hx hb hts hin ty0 hty hnm hown hK hP hD hS a (gw_get hes) hc j hj (hts _ hlink) (fun x h9 => by rw [← href]; exact h9) hfin hty0 rfl rfl (by rw [List.length_map]; exact Nat.le_of_ble_eq_true hlen) hd (fun H1 locs1 hP1 hD1 hS1 => hN _ _ _ _ _ h ad H1 locs1 ls hag ?_ ?_ hS1 hl)
    · rw [← gw_set]; simp only [ge, List.map_set]; exact hP1
    · rw [← gw_set]; simp only [ge, List.map_set]; exact hD1
  · exact h.elim
theorem ok_putRF (hM : gM X l0 cc own Ts R0) {ref C : String} {T : u_T} {Nf ci index : Nat} (hin : ∀ w ∈ u_ws C T Nf, w ∈ Ts) (ty0 : Nat → FieldType) (hty : ∀ k, k < Nf → parseFieldDescriptor (T k).2.2.1 = some (ty0 k)) (hnm : ∀ a, a < Nf → ∀ b, b < Nf → a ≠ b → (T a).2.1 ≠ (T b).2.1) (hc : vwCl[ci]? = some (C, T, Nf)) (j : Nat) (hj : j < Nf) (hlink : (Cond.fieldLink own index ref (T j).2.1 (T j).2.2.1) ∈ Ts) (href : (T j).1 = ref) (hfin : (T j).2.2.2 = true) (hin2 : gInit X) (hdecl : (T j).1 = own) {cn : String} (hty0 : parseFieldDescriptor (T j).2.2.1 = some (.object cn)) (hd : decode cc pc = .ok (.putfield index, 3)) : okO X pc (pc + 3) (oPutR ci j) := by
  obtain ⟨p, l, e, R, s, m, args, below, meth, c, D, cA, A, ag, ad0, Q, nL⟩ := X
  obtain ⟨hx, hb, hown, hts, hml, hlk, hY, hA, hR, hL0⟩ := hM
  have hK := hY.1
  intro J N hJ hN L S es k n h ad H locs ls hag hP hD hS hl
  unfold oPutR at h
  split at h
  · rename_i v a S'
    obtain ⟨fs, hes, h⟩ := eObj_ok h
    obtain ⟨hlen, h⟩ := bif_t h
    refine va_putF (fs := fs.map (gv ad)) (v := gv ad (.ref v)) (ty := .object cn) hx hb hts hin ty0 hty hnm hown hK hP hD hS a (gw_get hes) hc j hj (hts _ hlink) (fun x h9 => by rw [← href]; exact h9) hfin hin2 hdecl hty0 rfl rfl (by rw [List.length_map]; exact Nat.le_of_ble_eq_true hlen) hd (fun H1 locs1 hP1 hD1 hS1 => hN _ _ _ _ _ h ad H1 locs1 ls hag ?_ ?_ hS1 hl)
    · rw [← gw_set]; simp only [ge, List.map_set]; exact hP1
    · rw [← gw_set]; simp only [ge, List.map_set]; exact hD1
  · exact h.elim
theorem ok_putRAF (hM : gM X l0 cc own Ts R0) {ref C : String} {T : u_T} {Nf ci index : Nat} (hin : ∀ w ∈ u_ws C T Nf, w ∈ Ts) (ty0 : Nat → FieldType) (hty : ∀ k, k < Nf → parseFieldDescriptor (T k).2.2.1 = some (ty0 k)) (hnm : ∀ a, a < Nf → ∀ b, b < Nf → a ≠ b → (T a).2.1 ≠ (T b).2.1) (hc : vwCl[ci]? = some (C, T, Nf)) (j : Nat) (hj : j < Nf) (hlink : (Cond.fieldLink own index ref (T j).2.1 (T j).2.2.1) ∈ Ts) (href : (T j).1 = ref) (hfin : (T j).2.2.2 = true) (hin2 : gInit X) (hdecl : (T j).1 = own) {ct : FieldType} (hty0 : parseFieldDescriptor (T j).2.2.1 = some (.array ct)) (hd : decode cc pc = .ok (.putfield index, 3)) : okO X pc (pc + 3) (oPutR ci j) := by
  obtain ⟨p, l, e, R, s, m, args, below, meth, c, D, cA, A, ag, ad0, Q, nL⟩ := X
  obtain ⟨hx, hb, hown, hts, hml, hlk, hY, hA, hR, hL0⟩ := hM
  have hK := hY.1
  intro J N hJ hN L S es k n h ad H locs ls hag hP hD hS hl
  unfold oPutR at h
  split at h
  · rename_i v a S'
    obtain ⟨fs, hes, h⟩ := eObj_ok h
    obtain ⟨hlen, h⟩ := bif_t h
    refine va_putF (fs := fs.map (gv ad)) (v := gv ad (.ref v)) (ty := .array ct) hx hb hts hin ty0 hty hnm hown hK hP hD hS a (gw_get hes) hc j hj (hts _ hlink) (fun x h9 => by rw [← href]; exact h9) hfin hin2 hdecl hty0 rfl rfl (by rw [List.length_map]; exact Nat.le_of_ble_eq_true hlen) hd (fun H1 locs1 hP1 hD1 hS1 => hN _ _ _ _ _ h ad H1 locs1 ls hag ?_ ?_ hS1 hl)
    · rw [← gw_set]; simp only [ge, List.map_set]; exact hP1
    · rw [← gw_set]; simp only [ge, List.map_set]; exact hD1
  · exact h.elim
def oIALd (tg : Nat) : gO := fun J N L S es k n => match S with | .int i :: .ref a :: S' => eInt es a tg (fun sz f => ∃ j : Nat, i = nI j ∧ j < sz ∧ N L (.int (f j) :: S') es k n) | _ => False
theorem ok_iald (hM : gM X l0 cc own Ts R0) (hd : decode cc pc = .ok (.iaload, 1)) : okO X pc (pc + 1) (oIALd 0) := by
  obtain ⟨p, l, e, R, s, m, args, below, meth, c, D, cA, A, ag, ad0, Q, nL⟩ := X
  obtain ⟨hx, hb, hown, hts, hml, hlk, hY, hA, hR, hL0⟩ := hM
  have hK := hY.1
  intro J N hJ hN L S es k n h ad H locs ls hag hP hD hS hl
  unfold oIALd at h
  split at h
  · rename_i i a S'
    obtain ⟨sz, f, hes, hsz, j, rfl, hj, h⟩ := eInt_ok h
    have hc9 : (nI j).toNatClampNeg = j := nI_clamp (Nat.lt_trans hj hsz)
    exact va_iald hx hb hK hP a 0 (gw_get hes) rfl (vp_in_nI hj hsz) hd (by rw [hc9]; exact hN _ _ _ _ _ h ad H locs ls hag hP hD hS hl)
  · exact h.elim
theorem ok_cald (hM : gM X l0 cc own Ts R0) (hd : decode cc pc = .ok (.caload, 1)) : okO X pc (pc + 1) (oIALd 1) := by
  obtain ⟨p, l, e, R, s, m, args, below, meth, c, D, cA, A, ag, ad0, Q, nL⟩ := X
  obtain ⟨hx, hb, hown, hts, hml, hlk, hY, hA, hR, hL0⟩ := hM
  have hK := hY.1
  intro J N hJ hN L S es k n h ad H locs ls hag hP hD hS hl
  unfold oIALd at h
  split at h
  · rename_i i a S'
    obtain ⟨sz, f, hes, hsz, j, rfl, hj, h⟩ := eInt_ok h
    have hc9 : (nI j).toNatClampNeg = j := nI_clamp (Nat.lt_trans hj hsz)
    exact va_cald hx hb hK hP a 1 (gw_get hes) rfl (vp_in_nI hj hsz) hd (by rw [hc9]; exact hN _ _ _ _ _ h ad H locs ls hag hP hD hS hl)
  · exact h.elim
theorem ok_zald (hM : gM X l0 cc own Ts R0) (hd : decode cc pc = .ok (.baload, 1)) : okO X pc (pc + 1) (oIALd 2) := by
  obtain ⟨p, l, e, R, s, m, args, below, meth, c, D, cA, A, ag, ad0, Q, nL⟩ := X
  obtain ⟨hx, hb, hown, hts, hml, hlk, hY, hA, hR, hL0⟩ := hM
  have hK := hY.1
  intro J N hJ hN L S es k n h ad H locs ls hag hP hD hS hl
  unfold oIALd at h
  split at h
  · rename_i i a S'
    obtain ⟨sz, f, hes, hsz, j, rfl, hj, h⟩ := eInt_ok h
    have hc9 : (nI j).toNatClampNeg = j := nI_clamp (Nat.lt_trans hj hsz)
    exact va_zald hx hb hK hP a 2 (gw_get hes) rfl (vp_in_nI hj hsz) hd (by rw [hc9]; exact hN _ _ _ _ _ h ad H locs ls hag hP hD hS hl)
  · exact h.elim
def oLALd : gO := fun J N L S es k n => match S with | .int i :: .ref a :: S' => eLng es a 3 (fun sz f => ∃ j : Nat, i = nI j ∧ j < sz ∧ N L (.long (f j) :: S') es k n) | _ => False
theorem ok_lald (hM : gM X l0 cc own Ts R0) (hd : decode cc pc = .ok (.laload, 1)) : okO X pc (pc + 1) oLALd := by
  obtain ⟨p, l, e, R, s, m, args, below, meth, c, D, cA, A, ag, ad0, Q, nL⟩ := X
  obtain ⟨hx, hb, hown, hts, hml, hlk, hY, hA, hR, hL0⟩ := hM
  have hK := hY.1
  intro J N hJ hN L S es k n h ad H locs ls hag hP hD hS hl
  unfold oLALd at h
  split at h
  · rename_i i a S'
    obtain ⟨sz, f, hes, hsz, j, rfl, hj, h⟩ := eLng_ok h
    have hc9 : (nI j).toNatClampNeg = j := nI_clamp (Nat.lt_trans hj hsz)
    exact va_lald hx hb hK hP a 3 (gw_get hes) rfl (vp_in_nI hj hsz) hd (by rw [hc9]; exact hN _ _ _ _ _ h ad H locs ls hag hP hD hS hl)
  · exact h.elim
def oDALd : gO := fun J N L S es k n => match S with | .int i :: .ref a :: S' => eDbl es a 4 (fun sz f => ∃ j : Nat, i = nI j ∧ j < sz ∧ N L (.double (f j) :: S') es k n) | _ => False
theorem ok_dald (hM : gM X l0 cc own Ts R0) (hd : decode cc pc = .ok (.daload, 1)) : okO X pc (pc + 1) oDALd := by
  obtain ⟨p, l, e, R, s, m, args, below, meth, c, D, cA, A, ag, ad0, Q, nL⟩ := X
  obtain ⟨hx, hb, hown, hts, hml, hlk, hY, hA, hR, hL0⟩ := hM
  have hK := hY.1
  intro J N hJ hN L S es k n h ad H locs ls hag hP hD hS hl
  unfold oDALd at h
  split at h
  · rename_i i a S'
    obtain ⟨sz, f, hes, hsz, j, rfl, hj, h⟩ := eDbl_ok h
    have hc9 : (nI j).toNatClampNeg = j := nI_clamp (Nat.lt_trans hj hsz)
    exact va_dald hx hb hK hP a 4 (gw_get hes) rfl (vp_in_nI hj hsz) hd (by rw [hc9]; exact hN _ _ _ _ _ h ad H locs ls hag hP hD hS hl)
  · exact h.elim
def oIASt : gO := fun J N L S es k n => match S with | .int x :: .int i :: .ref a :: S' => eInt es a 0 (fun sz f => ∃ j : Nat, i = nI j ∧ j < sz ∧ N L S' (es.set a (.inl (0, sz, .inl (upd f j x)))) k n) | _ => False
theorem ok_iast (hM : gM X l0 cc own Ts R0) (hd : decode cc pc = .ok (.iastore, 1)) : okO X pc (pc + 1) oIASt := by
  obtain ⟨p, l, e, R, s, m, args, below, meth, c, D, cA, A, ag, ad0, Q, nL⟩ := X
  obtain ⟨hx, hb, hown, hts, hml, hlk, hY, hA, hR, hL0⟩ := hM
  have hK := hY.1
  intro J N hJ hN L S es k n h ad H locs ls hag hP hD hS hl
  unfold oIASt at h
  split at h
  · rename_i x i a S'
    obtain ⟨sz, f, hes, hsz, j, rfl, hj, h⟩ := eInt_ok h
    have hc9 : (nI j).toNatClampNeg = j := nI_clamp (Nat.lt_trans hj hsz)
    refine va_iast hx hb hK hP hD hS a 0 (gw_get hes) rfl (vp_in_nI hj hsz) hd (fun H1 locs1 hP1 hD1 hS1 => hN _ _ _ _ _ h ad H1 locs1 ls hag ?_ ?_ hS1 hl)
    · rw [hc9] at hP1
      rw [← gw_set]
      exact hP1
    · rw [hc9] at hD1
      rw [← gw_set]
      exact hD1
  · exact h.elim
def oCASt : gO := fun J N L S es k n => match S with | .int x :: .int i :: .ref a :: S' => eInt es a 1 (fun sz f => ∃ j : Nat, i = nI j ∧ j < sz ∧ vp_nar .char x = x ∧ N L S' (es.set a (.inl (1, sz, .inl (upd f j x)))) k n) | _ => False
theorem ok_cast (hM : gM X l0 cc own Ts R0) (hd : decode cc pc = .ok (.castore, 1)) : okO X pc (pc + 1) oCASt := by
  obtain ⟨p, l, e, R, s, m, args, below, meth, c, D, cA, A, ag, ad0, Q, nL⟩ := X
  obtain ⟨hx, hb, hown, hts, hml, hlk, hY, hA, hR, hL0⟩ := hM
  have hK := hY.1
  intro J N hJ hN L S es k n h ad H locs ls hag hP hD hS hl
  unfold oCASt at h
  split at h
  · rename_i x i a S'
    obtain ⟨sz, f, hes, hsz, j, rfl, hj, hnr, h⟩ := eInt_ok h
    have hc9 : (nI j).toNatClampNeg = j := nI_clamp (Nat.lt_trans hj hsz)
    refine va_cast hx hb hK hP hD hS a 1 (gw_get hes) rfl (vp_in_nI hj hsz) hd (fun H1 locs1 hP1 hD1 hS1 => hN _ _ _ _ _ h ad H1 locs1 ls hag ?_ ?_ hS1 hl)
    · rw [hc9, hnr] at hP1
      rw [← gw_set]
      exact hP1
    · rw [hc9, hnr] at hD1
      rw [← gw_set]
      exact hD1
  · exact h.elim
def oZASt : gO := fun J N L S es k n => match S with | .int x :: .int i :: .ref a :: S' => eInt es a 2 (fun sz f => ∃ j : Nat, i = nI j ∧ j < sz ∧ vp_nar .boolean x = x ∧ N L S' (es.set a (.inl (2, sz, .inl (upd f j x)))) k n) | _ => False
theorem ok_zast (hM : gM X l0 cc own Ts R0) (hd : decode cc pc = .ok (.bastore, 1)) : okO X pc (pc + 1) oZASt := by
  obtain ⟨p, l, e, R, s, m, args, below, meth, c, D, cA, A, ag, ad0, Q, nL⟩ := X
  obtain ⟨hx, hb, hown, hts, hml, hlk, hY, hA, hR, hL0⟩ := hM
  have hK := hY.1
  intro J N hJ hN L S es k n h ad H locs ls hag hP hD hS hl
  unfold oZASt at h
  split at h
  · rename_i x i a S'
    obtain ⟨sz, f, hes, hsz, j, rfl, hj, hnr, h⟩ := eInt_ok h
    have hc9 : (nI j).toNatClampNeg = j := nI_clamp (Nat.lt_trans hj hsz)
    refine va_zast hx hb hK hP hD hS a 2 (gw_get hes) rfl (vp_in_nI hj hsz) hd (fun H1 locs1 hP1 hD1 hS1 => hN _ _ _ _ _ h ad H1 locs1 ls hag ?_ ?_ hS1 hl)
    · rw [hc9, hnr] at hP1
      rw [← gw_set]
      exact hP1
    · rw [hc9, hnr] at hD1
      rw [← gw_set]
      exact hD1
  · exact h.elim
def oLASt : gO := fun J N L S es k n => match S with | .long x :: .int i :: .ref a :: S' => eLng es a 3 (fun sz f => ∃ j : Nat, i = nI j ∧ j < sz ∧ N L S' (es.set a (.inl (3, sz, .inr (.inl (vp_updL f j x))))) k n) | _ => False
theorem ok_last (hM : gM X l0 cc own Ts R0) (hd : decode cc pc = .ok (.lastore, 1)) : okO X pc (pc + 1) oLASt := by
  obtain ⟨p, l, e, R, s, m, args, below, meth, c, D, cA, A, ag, ad0, Q, nL⟩ := X
  obtain ⟨hx, hb, hown, hts, hml, hlk, hY, hA, hR, hL0⟩ := hM
  have hK := hY.1
  intro J N hJ hN L S es k n h ad H locs ls hag hP hD hS hl
  unfold oLASt at h
  split at h
  · rename_i x i a S'
    obtain ⟨sz, f, hes, hsz, j, rfl, hj, h⟩ := eLng_ok h
    have hc9 : (nI j).toNatClampNeg = j := nI_clamp (Nat.lt_trans hj hsz)
    refine va_last hx hb hK hP hD hS a 3 (gw_get hes) rfl (vp_in_nI hj hsz) hd (fun H1 locs1 hP1 hD1 hS1 => hN _ _ _ _ _ h ad H1 locs1 ls hag ?_ ?_ hS1 hl)
    · rw [hc9] at hP1
      rw [← gw_set]
      exact hP1
    · rw [hc9] at hD1
      rw [← gw_set]
      exact hD1
  · exact h.elim
def oDASt : gO := fun J N L S es k n => match S with | .double x :: .int i :: .ref a :: S' => eDbl es a 4 (fun sz f => ∃ j : Nat, i = nI j ∧ j < sz ∧ N L S' (es.set a (.inl (4, sz, .inr (.inr (.inl (vf_upd f j x)))))) k n) | _ => False
theorem ok_dast (hM : gM X l0 cc own Ts R0) (hd : decode cc pc = .ok (.dastore, 1)) : okO X pc (pc + 1) oDASt := by
  obtain ⟨p, l, e, R, s, m, args, below, meth, c, D, cA, A, ag, ad0, Q, nL⟩ := X
  obtain ⟨hx, hb, hown, hts, hml, hlk, hY, hA, hR, hL0⟩ := hM
  have hK := hY.1
  intro J N hJ hN L S es k n h ad H locs ls hag hP hD hS hl
  unfold oDASt at h
  split at h
  · rename_i x i a S'
    obtain ⟨sz, f, hes, hsz, j, rfl, hj, h⟩ := eDbl_ok h
    have hc9 : (nI j).toNatClampNeg = j := nI_clamp (Nat.lt_trans hj hsz)
    refine va_dast hx hb hK hP hD hS a 4 (gw_get hes) rfl (vp_in_nI hj hsz) hd (fun H1 locs1 hP1 hD1 hS1 => hN _ _ _ _ _ h ad H1 locs1 ls hag ?_ ?_ hS1 hl)
    · rw [hc9] at hP1
      rw [← gw_set]
      exact hP1
    · rw [hc9] at hD1
      rw [← gw_set]
      exact hD1
  · exact h.elim
def oAALd : gO := fun J N L S es k n => match S with | .int i :: .ref a :: S' => eRef es a 5 (fun sz r => ∃ j : Nat, i = nI j ∧ j < sz ∧ (match rnth r j with | some (some q) => N L (.ref q :: S') es k n | _ => False)) | _ => False
theorem ok_aald (hM : gM X l0 cc own Ts R0) (hd : decode cc pc = .ok (.aaload, 1)) : okO X pc (pc + 1) oAALd := by
  obtain ⟨p, l, e, R, s, m, args, below, meth, c, D, cA, A, ag, ad0, Q, nL⟩ := X
  obtain ⟨hx, hb, hown, hts, hml, hlk, hY, hA, hR, hL0⟩ := hM
  have hK := hY.1
  intro J N hJ hN L S es k n h ad H locs ls hag hP hD hS hl
  unfold oAALd at h
  split at h
  · rename_i i a S'
    obtain ⟨sz, r, hes, hsz, j, rfl, hj, h⟩ := eRef_ok h
    split at h
    · rename_i q hq
      rw [rnth_eq] at hq
      have hc9 : (nI j).toNatClampNeg = j := nI_clamp (Nat.lt_trans hj hsz)
      have hq9 : r.getD j none = some q := by rw [List.getD_eq_getElem?_getD, hq]; rfl
      exact va_aldq (C := RX4) hx hb hK hP a 5 (gw_get hes) rfl (vp_in_nI hj hsz) hd (by rw [hc9]; simp only [hq9]; exact hN _ _ _ _ _ h ad H locs ls hag hP hD hS hl)
    · exact h.elim
  · exact h.elim
def oALen : gO := fun J N L S es k n => match S with | .ref a :: S' => eInt es a 0 (fun sz _ => N L (.int (nI sz) :: S') es k n) | _ => False
theorem ok_alen (hM : gM X l0 cc own Ts R0) (hd : decode cc pc = .ok (.arraylength, 1)) : okO X pc (pc + 1) oALen := by
  obtain ⟨p, l, e, R, s, m, args, below, meth, c, D, cA, A, ag, ad0, Q, nL⟩ := X
  obtain ⟨hx, hb, hown, hts, hml, hlk, hY, hA, hR, hL0⟩ := hM
  have hK := hY.1
  intro J N hJ hN L S es k n h ad H locs ls hag hP hD hS hl
  unfold oALen at h
  split at h
  · rename_i a S'
    obtain ⟨sz, f, hes, hsz, h⟩ := eInt_ok h
    exact va_alen (x := (sz, .inl f)) hx hb hK hP a 0 (gw_get hes) rfl rfl hd (hN _ _ _ _ _ h ad H locs ls hag hP hD hS hl)
  · exact h.elim
def scat : List Value → Nat
  | [] => 0
  | v :: S => (bif cat2 v then 2 else 1) + scat S
theorem scat_eq (ad : Nat → Nat) : ∀ S : List Value, ((S.map (gv ad)).map fun v => v.category).sum = scat S
  | [] => rfl
  | v :: S => by
    have := scat_eq ad S
    simp only [List.map_cons, List.sum_cons, scat, this]
    cases v <;> rfl
def oCopy (rl : Nat) : gO := fun J N L S es k n => match S with | .int z :: .int dp :: .ref b :: .int sp :: .ref a :: S' => eInt es a 0 (fun sz f => eInt es b 0 (fun sz' g => gif (Nat.ble (scat S' + 40) rl) (∃ zz : Nat, z = nI zz ∧ sp = nI 0 ∧ dp = nI 0 ∧ zz ≤ sz ∧ zz ≤ sz' ∧ N L S' (es.set b (.inl (0, sz', .inl (va_cpy f g 0 0 zz)))) k n))) | _ => False
theorem ok_copy (hM : gM X l0 cc own Ts R0) {index : Nat} (hlink : (Cond.methodLink own index arraycopyName) ∈ Ts) (hnat : (Cond.native arraycopyName) ∈ Ts) (hstat : (Cond.static arraycopyName) ∈ Ts) (hini : (Cond.initialized "java/lang/System") ∈ Ts) (hfr : 1 ≤ R0.frames) (hw40 : nativeFrameWords "java/lang/System" "arraycopy" 5 + 11 ≤ 40) (hd : decode cc pc = .ok (.invokestatic index, 3)) : okO X pc (pc + 3) (oCopy R0.locals) := by
  obtain ⟨p, l, e, R, s, m, args, below, meth, c, D, cA, A, ag, ad0, Q, nL⟩ := X
  obtain ⟨hx, hb, hown, hts, hml, hlk, hY, hA, hR, hL0⟩ := hM
  have hK := hY.1
  intro J N hJ hN L S es k n h ad H locs ls hag hP hD hS hl
  subst hR
  unfold oCopy at h
  split at h
  · rename_i z dp b sp a S'
    obtain ⟨sz, f, hes, hsz, h⟩ := eInt_ok h
    obtain ⟨sz', g, hes', hsz', h⟩ := eInt_ok h
    obtain ⟨h5, h⟩ := bif_t h
    obtain ⟨zz, rfl, rfl, rfl, hz1, hz2, h⟩ := h
    have hzz : zz < 2 ^ 31 := Nat.lt_of_le_of_lt hz1 hsz
    have c0 : (nI 0).toNatClampNeg = 0 := nI_clamp (by decide)
    have cz : (nI zz).toNatClampNeg = zz := nI_clamp hzz
    have h5 := Nat.le_of_ble_eq_true h5
    refine va_copyi (ty := .int) (c0 := cA 0) (c1 := cA 0) hx hb (hml.trans hl.1.symm) hown (hts _ hlink) (hts _ hnat) (hts _ hstat) (hts _ hini) hK hP hD hS a b 0 0 (gw_get hes) (gw_get hes') rfl rfl rfl (nI_pos (by decide)) (nI_pos (by decide)) (nI_pos hzz) (by rw [c0, cz]; omega) (by rw [c0, cz]; omega) (fun _ _ => rfl) hfr (by rw [scat_eq]; omega) hd (fun H1 locs1 hP1 hD1 hS1 => hN _ _ _ _ _ h ad H1 locs1 ls hag ?_ ?_ hS1 hl)
    · rw [c0, cz] at hP1
      rw [← gw_set]
      exact hP1
    · rw [c0, cz] at hD1
      rw [← gw_set]
      exact hD1
  · exact h.elim
def oMax (rl rc rs : Nat) : gO := fun J N L S es k n => match S with | .int y :: .int x :: S' => gif (Nat.ble (scat S' + 13) rl && (Nat.ble k rc && Nat.ble n rs)) (N L (.int (if x < y then y else x) :: S') es k n) | _ => False
theorem ok_max (hM : gM X l0 cc own Ts R0) {index : Nat} (hlink : (Cond.methodLink own index Lib.Math.max.name) ∈ Ts) (hstat : (Cond.static Lib.Math.max.name) ∈ Ts) (hini : (Cond.initialized "java/lang/Math") ∈ Ts) (hcode : (Cond.code Lib.Math.max.name Lib.Math.max.code 2 (some .int)) ∈ Ts) (hfr : 1 ≤ R0.frames) (hd : decode cc pc = .ok (.invokestatic index, 3)) : okO X pc (pc + 3) (oMax R0.locals R0.cells R0.slots) := by
  obtain ⟨p, l, e, R, s, m, args, below, meth, c, D, cA, A, ag, ad0, Q, nL⟩ := X
  obtain ⟨hx, hb, hown, hts, hml, hlk, hY, hA, hR, hL0⟩ := hM
  have hK := hY.1
  intro J N hJ hN L S es k n h ad H locs ls hag hP hD hS hl
  subst hR
  unfold oMax at h
  split at h
  · obtain ⟨hcc, h⟩ := bif_t h
    obtain ⟨h1, hcc⟩ := and_t hcc
    obtain ⟨h2, h3⟩ := and_t hcc
    exact va_mmax hx hb (hml.trans hl.1.symm) hown (hts _ hlink) (hts _ hstat) (hts _ hini) (hts _ hcode) hfr (by rw [scat_eq]; exact Nat.le_of_ble_eq_true h1) (Nat.le_of_ble_eq_true h2) (Nat.le_of_ble_eq_true h3) hd (hN _ _ _ _ _ h ad H locs ls hag hP hD hS hl)
  · exact h.elim
def oRet (K : gK) (mc ms : Nat) : gO := fun J N L S es k n => match S with | [.int r] => gif (Nat.ble k mc && Nat.ble n ms) (K (some (.int r)) es) | _ => False
def oRetZ (K : gK) (mc ms : Nat) : gO := fun J N L S es k n => match S with | [.int r] => gif (Nat.ble k mc && Nat.ble n ms) ((r = 0 ∨ r = 1) ∧ K (some (.int r)) es) | _ => False
def oRetD (K : gK) (mc ms : Nat) : gO := fun J N L S es k n => match S with | [.double r] => gif (Nat.ble k mc && Nat.ble n ms) (K (some (.double r)) es) | _ => False
def oRetV (K : gK) (mc ms : Nat) : gO := fun J N L S es k n => match S with | [] => gif (Nat.ble k mc && Nat.ble n ms) (K none es) | _ => False
theorem ok_ret (hM : gM X l0 cc own Ts R0) {nx : Nat} {K : gK} {mc ms : Nat} (hE : gR X K mc ms (some .int)) (hd : decode cc pc = .ok (.ireturn, 1)) : okO X pc nx (oRet K mc ms) := by
  obtain ⟨p, l, e, R, s, m, args, below, meth, c, D, cA, A, ag, ad0, Q, nL⟩ := X
  obtain ⟨hx, hb, hown, hts, hml, hlk, hY, hA, hR, hL0⟩ := hM
  have hK := hY.1
  intro J N hJ hN L S es k n h ad H locs ls hag hP hD hS hl
  obtain ⟨hret, hE⟩ := hE
  unfold oRet at h
  split at h
  · obtain ⟨hcc, h⟩ := bif_t h
    obtain ⟨h1, h2⟩ := and_t hcc
    skip
    refine W.widen (Nat.le_of_ble_eq_true h1) (Nat.le_of_ble_eq_true h2) (hE _ _ _ ?_)
    exact W.iret hx hb hret (fun t ht hW => ⟨⟨some (.int _), es, ad, rfl, h, hag, by rw [ht]; exact hP, hD⟩, hS.F ht⟩) hS.2.2 hd hlk
  · exact h.elim
theorem ok_retZ (hM : gM X l0 cc own Ts R0) {nx : Nat} {K : gK} {mc ms : Nat} (hE : gR X K mc ms (some .boolean)) (hd : decode cc pc = .ok (.ireturn, 1)) : okO X pc nx (oRetZ K mc ms) := by
  obtain ⟨p, l, e, R, s, m, args, below, meth, c, D, cA, A, ag, ad0, Q, nL⟩ := X
  obtain ⟨hx, hb, hown, hts, hml, hlk, hY, hA, hR, hL0⟩ := hM
  have hK := hY.1
  intro J N hJ hN L S es k n h ad H locs ls hag hP hD hS hl
  obtain ⟨hret, hE⟩ := hE
  unfold oRetZ at h
  split at h
  · obtain ⟨hcc, h⟩ := bif_t h
    obtain ⟨h1, h2⟩ := and_t hcc
    obtain ⟨hz, h⟩ := h
    refine W.widen (Nat.le_of_ble_eq_true h1) (Nat.le_of_ble_eq_true h2) (hE _ _ _ ?_)
    exact W.zret hx hb hret (by rcases hz with rfl | rfl <;> rfl) (fun t ht hW => ⟨⟨some (.int _), es, ad, rfl, h, hag, by rw [ht]; exact hP, hD⟩, hS.F ht⟩) hS.2.2 hd hlk
  · exact h.elim
theorem ok_retD (hM : gM X l0 cc own Ts R0) {nx : Nat} {K : gK} {mc ms : Nat} (hE : gR X K mc ms (some .double)) (hd : decode cc pc = .ok (.dreturn, 1)) : okO X pc nx (oRetD K mc ms) := by
  obtain ⟨p, l, e, R, s, m, args, below, meth, c, D, cA, A, ag, ad0, Q, nL⟩ := X
  obtain ⟨hx, hb, hown, hts, hml, hlk, hY, hA, hR, hL0⟩ := hM
  have hK := hY.1
  intro J N hJ hN L S es k n h ad H locs ls hag hP hD hS hl
  obtain ⟨hret, hE⟩ := hE
  unfold oRetD at h
  split at h
  · obtain ⟨hcc, h⟩ := bif_t h
    obtain ⟨h1, h2⟩ := and_t hcc
    skip
    refine W.widen (Nat.le_of_ble_eq_true h1) (Nat.le_of_ble_eq_true h2) (hE _ _ _ ?_)
    exact W.dret hx hb hret (fun t ht hW => ⟨⟨some (.double _), es, ad, rfl, h, hag, by rw [ht]; exact hP, hD⟩, hS.F ht⟩) hS.2.2 hd hlk
  · exact h.elim
theorem ok_retV (hM : gM X l0 cc own Ts R0) {nx : Nat} {K : gK} {mc ms : Nat} (hE : gR X K mc ms none) (hd : decode cc pc = .ok (.return_, 1)) : okO X pc nx (oRetV K mc ms) := by
  obtain ⟨p, l, e, R, s, m, args, below, meth, c, D, cA, A, ag, ad0, Q, nL⟩ := X
  obtain ⟨hx, hb, hown, hts, hml, hlk, hY, hA, hR, hL0⟩ := hM
  have hK := hY.1
  intro J N hJ hN L S es k n h ad H locs ls hag hP hD hS hl
  obtain ⟨hret, hE⟩ := hE
  unfold oRetV at h
  split at h
  · obtain ⟨hcc, h⟩ := bif_t h
    obtain ⟨h1, h2⟩ := and_t hcc
    skip
    refine W.widen (Nat.le_of_ble_eq_true h1) (Nat.le_of_ble_eq_true h2) (hE _ _ _ ?_)
    exact W.vret hx hb hret (fun t ht hW => ⟨⟨none, es, ad, rfl, h, hag, by rw [ht]; exact hP, hD⟩, hS.F ht⟩) hS.2.2 hd hlk
  · exact h.elim
end GS
end
section
/-! Contracts, and calls of them. -/
section GC
/-- a number in the callee's count; what isn't handed over keeps its number, far out -/
def gixA : List Nat → Nat → Nat → Nat
  | [], k, _ => 1000 + k
  | i :: is, k, j => bif Nat.beq i k then j else gixA is k (j + 1)
def gix (ids : List Nat) (k : Nat) : Nat := gixA ids k 0
def gidO : List Nat → Nat → Option Nat
  | [], _ => none
  | i :: _, 0 => some i
  | _ :: is, k + 1 => gidO is k
def gid (ids : List Nat) (k : Nat) : Nat := match gidO ids k with
  | some i => i
  | none => k - 1000
theorem gidO_eq : ∀ (ids : List Nat) (j : Nat), gidO ids j = ids[j]?
  | [], _ => by simp [gidO]
  | _ :: _, 0 => rfl
  | _ :: is, j + 1 => by simpa [gidO] using gidO_eq is j
theorem gixA_ok : ∀ (ids : List Nat) (k j : Nat), (∃ m, gixA ids k j = j + m ∧ ids[m]? = some k) ∨ gixA ids k j = 1000 + k
  | [], k, j => Or.inr rfl
  | i :: is, k, j => by
    unfold gixA
    cases hb : Nat.beq i k with
    | true => exact Or.inl ⟨0, rfl, by rw [Nat.eq_of_beq_eq_true hb]; rfl⟩
    | false =>
      rcases gixA_ok is k (j + 1) with ⟨m, h1, h2⟩ | h
      · exact Or.inl ⟨m + 1, by show gixA is k (j + 1) = _; rw [h1]; omega, by simpa using h2⟩
      · exact Or.inr h
theorem gix_ok {ids : List Nat} {k : Nat} (hl : ids.length ≤ 1000) : gid ids (gix ids k) = k := by
  unfold gid gix
  rcases gixA_ok ids k 0 with ⟨m, h1, h2⟩ | h
  · rw [h1, gidO_eq, Nat.zero_add, h2]
  · rw [h, gidO_eq, List.getElem?_eq_none (by omega)]
    show 1000 + k - 1000 = k
    omega
theorem gid_eq {ids : List Nat} {j i : Nat} (h : ids[j]? = some i) : gid ids j = i := by
  unfold gid
  rw [gidO_eq, h]
def canV (ids : List Nat) : Value → Value
  | .ref k => .ref (gix ids k)
  | v => v
def canE (ids : List Nat) : gE → gE
  | .inr (c, fs) => .inr (c, fs.map (canV ids))
  | .inl (t, n, .inl f) => .inl (t, n, .inl f)
  | .inl (t, n, .inr (.inl f)) => .inl (t, n, .inr (.inl f))
  | .inl (t, n, .inr (.inr (.inl f))) => .inl (t, n, .inr (.inr (.inl f)))
  | .inl (t, n, .inr (.inr (.inr r))) => .inl (t, n, .inr (.inr (.inr (r.map (Option.map (gix ids))))))
def renV (σ : Nat → Nat) : Value → Value
  | .ref k => .ref (σ k)
  | v => v
def renE (σ : Nat → Nat) : gE → gE
  | .inr (c, fs) => .inr (c, fs.map (renV σ))
  | .inl (t, n, .inl f) => .inl (t, n, .inl f)
  | .inl (t, n, .inr (.inl f)) => .inl (t, n, .inr (.inl f))
  | .inl (t, n, .inr (.inr (.inl f))) => .inl (t, n, .inr (.inr (.inl f)))
  | .inl (t, n, .inr (.inr (.inr r))) => .inl (t, n, .inr (.inr (.inr (r.map (Option.map σ)))))
theorem can_v {ids : List Nat} {ad : Nat → Nat} {v : Value} (h : ids.length ≤ 1000) : gv (fun k => ad (gid ids k)) (canV ids v) = gv ad v := by
  cases v <;> first | rfl | (simp only [canV, gv]; rw [gix_ok h])
theorem can_vs {ids : List Nat} {ad : Nat → Nat} (h : ids.length ≤ 1000) : ∀ (vs : List Value), (vs.map (canV ids)).map (gv (fun k => ad (gid ids k))) = vs.map (gv ad)
  | [] => rfl
  | v :: vs => by
    simp only [List.map_cons, can_v h]
    rw [can_vs h vs]
theorem can_q {ids : List Nat} {ad : Nat → Nat} (h : ids.length ≤ 1000) : ∀ (r : List (Option Nat)) (j : Nat), ((r.map (Option.map (gix ids))).getD j none).map (fun k => ad (gid ids k)) = (r.getD j none).map ad
  | [], j => by simp
  | q :: r, 0 => by
    cases q with
    | none => rfl
    | some k => simp only [List.map_cons, List.getD_cons_zero, Option.map_some]; rw [gix_ok h]
  | q :: r, j + 1 => by simpa using can_q h r j
theorem can_e {ids : List Nat} {ad : Nat → Nat} {cA : Nat → ClassId} {e : gE} (h : ids.length ≤ 1000) : ge cA (fun k => ad (gid ids k)) (canE ids e) = ge cA ad e := by
  rcases e with ⟨t, n, f | f | f | r⟩ | ⟨c, fs⟩
  · rfl
  · rfl
  · rfl
  · simp only [canE, ge]
    have : (fun j => ((r.map (Option.map (gix ids))).getD j none).map (fun k => ad (gid ids k))) = fun j => (r.getD j none).map ad := funext (can_q h r)
    rw [this]
  · simp only [canE, ge]
    rw [can_vs h]
theorem ren_v {σ ad : Nat → Nat} (v : Value) : gv ad (renV σ v) = gv (fun k => ad (σ k)) v := by cases v <;> rfl
theorem ren_e {σ ad : Nat → Nat} {cA : Nat → ClassId} (e : gE) : ge cA ad (renE σ e) = ge cA (fun k => ad (σ k)) e := by
  rcases e with ⟨t, n, f | f | f | r⟩ | ⟨c, fs⟩
  · rfl
  · rfl
  · rfl
  · simp only [renE, ge]
    have : (fun j => ((r.map (Option.map σ)).getD j none).map ad) = fun j => (r.getD j none).map (fun k => ad (σ k)) := by
      funext j
      rw [List.getD_eq_getElem?_getD, List.getD_eq_getElem?_getD, List.getElem?_map]
      cases r[j]? with
      | none => rfl
      | some q => cases q <;> rfl
    rw [this]
  · simp only [renE, ge, List.map_map]
    have : (gv ad ∘ renV σ) = gv (fun k => ad (σ k)) := funext ren_v
    rw [this]
def gpick (es : List gE) : List Nat → Option (List gE)
  | [] => some []
  | i :: is => match gnth es i with
    | some e => match gpick es is with
      | some l => some (e :: l)
      | none => none
    | none => none
theorem gpick_ok {es : List gE} : ∀ {ids : List Nat} {l : List gE}, gpick es ids = some l → l.length = ids.length ∧ ∀ j i : Nat, ids[j]? = some i → ∃ e, es[i]? = some e ∧ l[j]? = some e
  | [], l, h => by
    cases h
    exact ⟨rfl, fun j i hj => by simp at hj⟩
  | i :: is, l, h => by
    unfold gpick at h
    cases he : gnth es i with
    | none => rw [he] at h; cases h
    | some e =>
      cases hl : gpick es is with
      | none => rw [he, hl] at h; cases h
      | some l' =>
        rw [he, hl] at h
        cases h
        obtain ⟨h1, h2⟩ := gpick_ok hl
        refine ⟨by simp [h1], fun j k hj => ?_⟩
        cases j with
        | zero =>
          simp at hj
          subst hj
          rw [gnth_eq] at he
          exact ⟨e, he, rfl⟩
        | succ j =>
          obtain ⟨e', h3, h4⟩ := h2 j k (by simpa using hj)
          exact ⟨e', h3, by simpa using h4⟩
def gput : List gE → List Nat → List gE → List gE
  | es, i :: is, f :: fs => gput (es.set i f) is fs
  | es, _, _ => es
theorem gput_len : ∀ {ids : List Nat} {es fs : List gE}, (gput es ids fs).length = es.length
  | [], es, [] => rfl
  | [], es, _ :: _ => rfl
  | _ :: _, es, [] => rfl
  | i :: is, es, f :: fs => by rw [gput, gput_len]; simp
theorem gput_out : ∀ {ids : List Nat} {es fs : List gE} {i : Nat}, i ∉ ids → (gput es ids fs)[i]? = es[i]?
  | [], es, [], _, _ => rfl
  | [], es, _ :: _, _, _ => rfl
  | _ :: _, es, [], _, _ => rfl
  | j :: is, es, f :: fs, i, h => by
    rw [gput, gput_out (fun q => h (List.mem_cons_of_mem _ q)), List.getElem?_set_ne (fun q => h (by rw [q]; exact List.mem_cons_self))]
theorem gput_in : ∀ {ids : List Nat} {es fs : List gE} {j i : Nat} {f : gE}, va_nd ids = true → ids[j]? = some i → fs[j]? = some f → i < es.length → (gput es ids fs)[i]? = some f
  | [], _, _, _, _, _, _, h, _, _ => by simp at h
  | _ :: _, _, [], _, _, _, _, _, h, _ => by simp at h
  | k :: is, es, g :: fs, j, i, f, hn, h1, h2, h3 => by
    simp only [va_nd, Bool.and_eq_true, decide_eq_true_eq] at hn
    cases j with
    | zero =>
      simp at h1 h2
      subst h1
      subst h2
      rw [gput, gput_out hn.1]
      simp [h3]
    | succ j =>
      rw [gput]
      exact gput_in hn.2 (by simpa using h1) (by simpa using h2) (by simpa using h3)
def gtake : Nat → List Value → List Value → Option (List Value × List Value)
  | 0, acc, S => some (acc, S)
  | k + 1, acc, v :: S => gtake k (v :: acc) S
  | _ + 1, _, [] => none
theorem gtake_ok : ∀ {k : Nat} {acc S av S' : List Value}, gtake k acc S = some (av, S') → ∃ pre : List Value, av = pre ++ acc ∧ S = pre.reverse ++ S' ∧ pre.length = k
  | 0, acc, S, av, S', h => by
    cases h
    exact ⟨[], rfl, rfl, rfl⟩
  | k + 1, acc, [], av, S', h => by cases h
  | k + 1, acc, v :: S, av, S', h => by
    obtain ⟨pre, h1, h2, h3⟩ := gtake_ok (k := k) h
    exact ⟨pre ++ [v], by simp [h1], by simp [h2], by simp [h3]⟩
-- a contract
def agr : Bool → Nat → Nat → Prop
  | true, n, i => i < n
  | false, _, _ => True
def gPc (D : va_G) (cA : Nat → ClassId) (ad : Nat → Nat) (sz : Nat) (av : List Value) (es : List gE) : Array Value → State → Prop := va_Pc (av.map (gv ad)) (fun U => U.heap.size = sz ∧ va_P D vwCl (gw cA ad es) U.heap ∧ gY D cA (va_A (gw cA ad es) sz) U U.heap ∧ va_D (fun _ => True) (gw cA ad es))
abbrev gS : Type := List Value → List gE → gK → Prop
def Ct (l : Launch) (y : MethodName) (ws : List Cond) (rm : Room) (mc ms : Nat) (al : Bool) (sp : gS) : Prop := ∀ (D : va_G) (cA : Nat → ClassId) (ad : Nat → Nat) (sz : Nat) (av : List Value) (es : List gE) (K : gK), sp av es K → Met l y ws rm (gPc D cA ad sz av es) (gQ D cA ad (agr al es.length) (va_A (gw cA ad es) sz) K) mc ms (va_A (gw cA ad es) sz)
theorem gPc_blind {D : va_G} {cA : Nat → ClassId} {ad : Nat → Nat} {sz : Nat} {av : List Value} {es : List gE} : FrameBlind (gPc D cA ad sz av es) :=
  fun a U g mk q => by
    obtain ⟨q0, q1, qP, qY, qD⟩ := q
    exact ⟨q0, q1, qP, gY.same (u := U) (U := U.calling g mk a) rfl qY, qD⟩
theorem lv_args_map (ad : Nat → Nat) : ∀ (i : Nat) (av : List Value), lv_args i (av.map (gv ad)) = lmap ad (lv_args i av)
  | _, [] => rfl
  | i, v :: av => by
    simp only [List.map_cons, lv_args, gv_cat]
    rw [lv_args_map ad _ av]
theorem lg_sl_len (ad : Nat → Nat) (av : List Value) : (lg_sl (av.map (gv ad))).length = (lg_sl av).length := by
  induction av with
  | nil => rfl
  | cons v av ih =>
    simp only [lg_sl, List.map_cons, List.flatMap_cons, List.length_append] at ih ⊢
    rw [ih]
    cases v <;> rfl
/-- the world of the callee: picked out of the caller's -/
theorem gsub_at {cA : Nat → ClassId} {ad : Nat → Nat} {es esc : List gE} {ids : List Nat} (hp : gpick es ids = some esc) (hok : ids.length ≤ 1000) {j : Nat} {q : Nat × va_E} (h : (gw cA (fun k => ad (gid ids k)) (esc.map (canE ids)))[j]? = some q) : ∃ i e, ids[j]? = some i ∧ es[i]? = some e ∧ esc[j]? = some e ∧ q = (ad i, ge cA ad e) := by
  obtain ⟨h1, h2⟩ := gpick_ok hp
  rw [gw_at, List.getElem?_map] at h
  cases hj : esc[j]? with
  | none => rw [hj] at h; cases h
  | some e =>
    rw [hj] at h
    have hlt : j < ids.length := by rw [← h1]; exact (List.getElem?_eq_some_iff.mp hj).1
    obtain ⟨e', h3, h4⟩ := h2 j ids[j] (List.getElem?_eq_getElem hlt)
    rw [hj] at h4
    cases h4
    have hi : ids[j]? = some ids[j] := List.getElem?_eq_getElem hlt
    refine ⟨ids[j], e, hi, h3, rfl, ?_⟩
    simp only [Option.map_some] at h
    rw [can_e hok, gid_eq hi] at h
    exact (Option.some.inj h).symm
theorem gsub_P {D : va_G} {cA : Nat → ClassId} {ad : Nat → Nat} {es esc : List gE} {ids : List Nat} {H : Heap} (hp : gpick es ids = some esc) (hok : ids.length ≤ 1000) (hP : va_P D vwCl (gw cA ad es) H) : va_P D vwCl (gw cA (fun k => ad (gid ids k)) (esc.map (canE ids))) H := by
  intro j q h
  obtain ⟨i, e, -, h3, -, rfl⟩ := gsub_at hp hok h
  exact hP i _ (gw_get h3)
theorem gsub_D {cA : Nat → ClassId} {ad : Nat → Nat} {es esc : List gE} {ids : List Nat} {A B : Nat → Prop} (hp : gpick es ids = some esc) (hok : ids.length ≤ 1000) (hn : va_nd ids = true) (hD : va_D A (gw cA ad es)) (hB : ∀ q, A q → B q) : va_D B (gw cA (fun k => ad (gid ids k)) (esc.map (canE ids))) := by
  refine ⟨fun j j' q q' h h' he => ?_, fun j q h => ?_⟩
  · obtain ⟨i, e, h1, h3, -, rfl⟩ := gsub_at hp hok h
    obtain ⟨i', e', h1', h3', -, rfl⟩ := gsub_at hp hok h'
    have := hD.1 i i' _ _ (gw_get h3) (gw_get h3') he
    subst this
    exact va_nd_inj ids hn j j' i h1 h1'
  · obtain ⟨i, e, h1, h3, -, rfl⟩ := gsub_at hp hok h
    exact hB _ (hD.2 i _ (gw_get h3))
theorem gsub_F {cA : Nat → ClassId} {ad : Nat → Nat} {es esc : List gE} {ids : List Nat} {A : Nat → Prop} {H0 H : Heap} {locs : List Loc} (hp : gpick es ids = some esc) (hok : ids.length ≤ 1000) (hD : va_D A (gw cA ad es)) (hS : va_S A H0 H locs) (hA : ∀ q, H0.size ≤ q → A q) : ∀ q, va_A (gw cA (fun k => ad (gid ids k)) (esc.map (canE ids))) H.size q → A q := by
  intro q h
  rcases h with ⟨k, e, h⟩ | h
  · obtain ⟨i, e', h1, h3, -, h5⟩ := gsub_at hp hok h
    have := hD.2 i _ (gw_get h3)
    rw [show q = ad i from congrArg Prod.fst h5]
    exact this
  · exact hA q (Nat.le_trans hS.1 h)
theorem g_pre {D : va_G} {cA : Nat → ClassId} {ad : Nat → Nat} {s : State} {es esc : List gE} {ids : List Nat} {A : Nat → Prop} {H : Heap} {locs : List Loc} {av : List Value} (hp : gpick es ids = some esc) (hok : ids.length ≤ 1000) (hn : va_nd ids = true) (hY : gY D cA A s s.heap) (hP : va_P D vwCl (gw cA ad es) H) (hD : va_D A (gw cA ad es)) (hS : va_S A s.heap H locs) (hA : ∀ q, s.heap.size ≤ q → A q) :
    ∀ U : State, U.heap = H → s.WarmedH U.vm → gPc D cA (fun k => ad (gid ids k)) H.size (av.map (canV ids)) (esc.map (canE ids)) (av.map (gv ad)).toArray U := by
  intro U hU hW
  refine ⟨by rw [can_vs hok], by rw [hU], by rw [hU]; exact gsub_P hp hok hP, ?_, gsub_D hp hok hn hD (fun _ _ => trivial)⟩
  exact gY.call hY hS (gsub_F hp hok hD hS hA) hW hU
/-- behind a call that makes nothing -/
theorem g_join {D : va_G} {cA : Nat → ClassId} {ad : Nat → Nat} {es esc es' : List gE} {ids : List Nat} {A : Nat → Prop} {H H1 : Heap} (hp : gpick es ids = some esc) (hok : ids.length ≤ 1000) (hn : va_nd ids = true) (hP : va_P D vwCl (gw cA ad es) H) (hD : va_D A (gw cA ad es)) (hlen : es'.length = ids.length)
    (hk : ∀ q : Nat, q < H.size → ¬ va_A (gw cA (fun k => ad (gid ids k)) (esc.map (canE ids))) H.size q → H1[q]? = H[q]?) (hP1 : va_P D vwCl (gw cA (fun k => ad (gid ids k)) es') H1) :
    va_P D vwCl (gw cA ad (gput es ids (es'.map (renE (gid ids))))) H1 ∧ va_D A (gw cA ad (gput es ids (es'.map (renE (gid ids))))) := by
  have hi_of : ∀ i : Nat, i ∈ ids → ∃ j, ids[j]? = some i := fun i h => List.getElem?_of_mem h
  obtain ⟨hl1, hl2⟩ := gpick_ok hp
  refine ⟨fun i q h => ?_, fun i j p q h h' he => ?_, fun i q h => ?_⟩
  · rw [gw_at] at h
    cases hg : (gput es ids (es'.map (renE (gid ids))))[i]? with
    | none => rw [hg] at h; cases h
    | some e =>
      rw [hg] at h
      cases h
      have hil : i < es.length := by
        have := (List.getElem?_eq_some_iff.mp hg).1
        rwa [gput_len] at this
      by_cases hm : i ∈ ids
      · obtain ⟨j, hj⟩ := hi_of i hm
        have hjl : j < es'.length := by rw [hlen]; exact (List.getElem?_eq_some_iff.mp hj).1
        have hej : es'[j]? = some es'[j] := List.getElem?_eq_getElem hjl
        have := gput_in (es := es) (fs := es'.map (renE (gid ids))) (f := renE (gid ids) es'[j]) hn hj (by rw [List.getElem?_map, hej]; rfl) hil
        rw [hg] at this
        cases this
        have h9 := hP1 j _ (gw_get hej)
        rw [gid_eq hj] at h9
        show va_at D vwCl (ad i, ge cA ad (renE (gid ids) es'[j])) H1
        rw [ren_e]
        exact h9
      · rw [gput_out hm] at hg
        refine (hP i _ (gw_get hg)).kept (hk (ad i) ?_ ?_)
        · exact (hP i _ (gw_get hg)).lt
        · intro h
          rcases h with ⟨k, e', h⟩ | h
          · obtain ⟨i', e2, h1, h3, -, h5⟩ := gsub_at hp hok h
            have h6 : ad i = ad i' := congrArg Prod.fst h5
            have hii := hD.1 i i' _ _ (gw_get hg) (gw_get h3) h6
            subst hii
            exact hm (List.mem_of_getElem? h1)
          · have := (hP i _ (gw_get hg)).lt
            simp only at this
            omega
  · rw [gw_at] at h h'
    cases hg : (gput es ids (es'.map (renE (gid ids))))[i]? with
    | none => rw [hg] at h; cases h
    | some e =>
      cases hg' : (gput es ids (es'.map (renE (gid ids))))[j]? with
      | none => rw [hg'] at h'; cases h'
      | some e' =>
        rw [hg] at h
        rw [hg'] at h'
        cases h
        cases h'
        have hil : i < es.length := by
          have := (List.getElem?_eq_some_iff.mp hg).1
          rwa [gput_len] at this
        have hjl : j < es.length := by
          have := (List.getElem?_eq_some_iff.mp hg').1
          rwa [gput_len] at this
        exact hD.1 i j _ _ (gw_get (List.getElem?_eq_getElem hil)) (gw_get (List.getElem?_eq_getElem hjl)) he
  · rw [gw_at] at h
    cases hg : (gput es ids (es'.map (renE (gid ids))))[i]? with
    | none => rw [hg] at h; cases h
    | some e =>
      rw [hg] at h
      cases h
      have hil : i < es.length := by
        have := (List.getElem?_eq_some_iff.mp hg).1
        rwa [gput_len] at this
      exact hD.2 i (ad i, ge cA ad es[i]) (gw_get (List.getElem?_eq_getElem hil))
def vpush (σ : Nat → Nat) : Option Value → List Value → List Value
  | none, S => S
  | some v, S => renV σ v :: S
theorem vpush_map {σ ad : Nat → Nat} (v : Option Value) (S : List Value) : (vpush σ v S).map (gv ad) = (v.map (gv (fun k => ad (σ k)))).toList ++ S.map (gv ad) := by
  cases v with
  | none => rfl
  | some v => simp only [vpush, List.map_cons, ren_v, Option.map_some, Option.toList_some, List.singleton_append]
theorem g_call {p : Program} {l : Launch} {e : Env} {R : Room} {s : State} {m : MethodId} {args : Array Value} {below : List Frame} {meth : Method} {c : Code} {H : Heap} {locs : List Loc} {k n : Nat} {Q : State → Prop} {pc : Nat} {ls : Array Slot} {rest st0 : List Value} {a : Array Value} {A0 A1 ag : Nat → Prop} {H0 : Heap} {mc ms : Nat} {D : va_G} {cA : Nat → ClassId} {adc : Nat → Nat} {K : gK}
    (hr : va_Run p l e R s m args below meth c H locs k n mc ms (F0 m pc ls st0) rest (gQ D cA adc ag A1 K a) A1) (hS : va_S A0 H0 H locs) (hF : ∀ q, A1 q → A0 q)
    (kk : ∀ (v : Option Value) (es' : List gE) (ad' : Nat → Nat) (H1 : Heap) (locs1 : List Loc), K v es' → (∀ i, ag i → ad' i = adc i) → va_P D vwCl (gw cA ad' es') H1 → va_D A1 (gw cA ad' es') → H.size ≤ H1.size → (∀ q : Nat, q < H.size → ¬ A1 q → H1[q]? = H[q]?) → va_S A0 H0 H1 locs1 →
      W p l e R s m args below meth c H1 locs1 (k + mc) (n + ms) Q (F0 m (pc + 3) ls ((v.map (gv ad')).toList ++ rest))) : W p l e R s m args below meth c H locs k n Q (F0 m pc ls st0) := by
  intro T hT X
  obtain ⟨v, st₀, t, T', L, h0, X', hL, e1, e2, ⟨⟨v', es', ad', hv, hK, hag, hP, hD⟩, hz, hk⟩, st⟩ := hr T hT X
  cases hv
  rw [h0] at hz hk
  obtain ⟨t2, a1, b1⟩ := kk v' es' ad' T'.heap (locs ++ L) hK hag (by rw [e1]; exact hP) hD (by rw [e1]; exact hz) (fun q h1 h2 => by rw [e1]; exact hk q h1 h2)
    ⟨Nat.le_trans hS.1 (by rw [e1]; exact hz), fun q h1 h2 => by rw [e1, hk q (Nat.lt_of_lt_of_le h1 hS.1) (fun z => h2 (hF q z))]; exact hS.2.1 q h1 h2, fun q hq => by
      rcases List.mem_append.mp hq with h | h
      · exact hS.2.2 q h
      · exact hF _ (hL q h)⟩ T' rfl X'
  exact ⟨t2, st t2 a1, b1⟩
-- forcing: the lists of a state as written lists
def gforce : List gE → (List gE → Prop) → Prop
  | [], F => F []
  | e :: es, F => gforce es (fun es' => F (e :: es'))
def lforce : List (Nat × Value) → (List (Nat × Value) → Prop) → Prop
  | [], F => F []
  | (i, v) :: L, F => lforce L (fun L' => F ((i, v) :: L'))
theorem gforce_eq : ∀ (es : List gE) (F : List gE → Prop), gforce es F = F es
  | [], _ => rfl
  | e :: es, F => by rw [gforce, gforce_eq es]
theorem lforce_eq : ∀ (L : List (Nat × Value)) (F : List (Nat × Value) → Prop), lforce L F = F L
  | [], _ => rfl
  | (i, v) :: L, F => by rw [lforce, lforce_eq L]
def oF (o : gO) : gO := fun J N L S es k n => gforce es (fun es' => lforce L (fun L' => o J N L' S es' k n))
theorem ok_F {X : gX} {pc nx : Nat} {o : gO} (h : okO X pc nx o) : okO X pc nx (oF o) := by
  intro J N hJ hN L S es k n ho
  unfold oF at ho
  rw [gforce_eq, lforce_eq] at ho
  exact h J N hJ hN L S es k n ho
def gputF : List gE → List Nat → List gE → (List gE → Prop) → Prop
  | es, i :: is, f :: fs, F => gforce (es.set i f) (fun es' => gputF es' is fs F)
  | es, _, _, F => F es
theorem gputF_eq : ∀ (ids : List Nat) (es fs : List gE) (F : List gE → Prop), gputF es ids fs F = F (gput es ids fs)
  | [], es, [], F => rfl
  | [], es, _ :: _, F => rfl
  | _ :: _, es, [], F => rfl
  | i :: is, es, f :: fs, F => by rw [gputF, gforce_eq, gputF_eq is, gput]
def gspec (ids : List Nat) (sp : gS) (av : List Value) (N : gP) (L : List (Nat × Value)) (S' : List Value) (es : List gE) (k n : Nat) : Prop := match gpick es ids with
  | some esc => gif (Nat.ble ids.length 1000) (sp (av.map (canV ids)) (esc.map (canE ids)) (fun v es' => gif (Nat.beq es'.length ids.length) (gputF es ids (es'.map (renE (gid ids))) (fun es2 => N L (vpush (gid ids) v S') es2 k n))))
  | none => False
theorem gspec_ok {ids : List Nat} {sp : gS} {av : List Value} {N : gP} {L : List (Nat × Value)} {S' : List Value} {es : List gE} {k n : Nat} (h : gspec ids sp av N L S' es k n) : ∃ esc, gpick es ids = some esc ∧ ids.length ≤ 1000 ∧ sp (av.map (canV ids)) (esc.map (canE ids)) (fun v es' => gif (Nat.beq es'.length ids.length) (gputF es ids (es'.map (renE (gid ids))) (fun es2 => N L (vpush (gid ids) v S') es2 k n))) := by
  unfold gspec at h
  cases hp : gpick es ids with
  | none => rw [hp] at h; exact h.elim
  | some esc =>
    rw [hp] at h
    obtain ⟨h1, h2⟩ := bif_t (b := Nat.ble ids.length 1000) h
    exact ⟨esc, rfl, Nat.le_of_ble_eq_true h1, h2⟩
def oCallV (rc rs ci np : Nat) (ids : List Nat) (sp : gS) : gO := fun _ N L S es k n => match gtake np [] S with
  | some (as, .ref b :: S') => eObj es b ci (fun _ => gif (Nat.ble (scat S') 8 && (Nat.ble k rc && Nat.ble n rs)) (gspec ids sp (.ref b :: as) N L S' es k n))
  | _ => False
def oCallS (rc rs np : Nat) (ids : List Nat) (sp : gS) : gO := fun _ N L S es k n => match gtake np [] S with
  | some (as, S') => gif (Nat.ble (scat S') 8 && (Nat.ble k rc && Nat.ble n rs)) (gspec ids sp as N L S' es k n)
  | _ => False
def oCallVD (rc rs ci np : Nat) (sp : gS) : gO := fun _ N L S es k n => match gtake np [] S with
  | some (as, .ref b :: S') => eObj es b ci (fun _ => ∃ ids : List Nat, va_nd ids = true ∧ gif (Nat.ble (scat S') 8 && (Nat.ble k rc && Nat.ble n rs)) (gspec ids sp (.ref b :: as) N L S' es k n))
  | _ => False
variable {X : gX} {l0 : Launch} {cc : ByteArray} {own : String} {Ts : List Cond} {R0 : Room} {pc : Nat}
theorem ok_callV (hM : gM X l0 cc own Ts R0) {y : MethodName} {ws ws' : List Cond} {rm : Room} {bytes : ByteArray} {maxL index ci np : Nat} {ret : Option FieldType} {sp : gS} {Cn : String} {Tn : u_T} {Nn : Nat} (ids : List Nat) (hC : Ct l0 y ws rm 0 0 false sp) (hn : va_nd ids = true) (hci : vwCl[ci]? = some (Cn, Tn, Nn)) (hG : GoodIn Ts (wsV own index Cn y ws)) (hw : ws = Cond.code y bytes maxL ret :: ws') (hrc : rm.cells = 0) (hrs : rm.slots = 0)
    (hdy : y.cls = Cn ∧ y.cls ≠ "java/lang/invoke/MethodHandle" ∧ y.cls ≠ "java/lang/invoke/VarHandle" ∧ (parseMethodDescriptor y.desc).map (fun d => d.parameters.length) = some np) (hRm : rm.frames + 1 ≤ R0.frames ∧ 8 + (maxL + 11) + rm.locals ≤ R0.locals) (hd : decode cc pc = .ok (.invokevirtual index, 3)) :
    okO X pc (pc + 3) (oCallV R0.cells R0.slots ci np ids sp) := by
  obtain ⟨p, l, e, R, s, m, args, below, meth, c, D, cA, A, ag, ad0, Q, nL⟩ := X
  obtain ⟨hx, hb, hown, hts, hml, hlk, hY, hA, hR, hL0⟩ := hM
  have hK := hY.1
  subst hR
  subst hL0
  intro J N hJ hN L S es k n h ad H locs ls hag hP hD hS hl
  unfold oCallV at h
  split at h
  · rename_i as b S' htk
    obtain ⟨pre, h1, h2, h3⟩ := gtake_ok htk
    simp only [List.append_nil] at h1
    subst h1
    subst h2
    obtain ⟨fs, hes, h⟩ := eObj_ok h
    obtain ⟨hc1, h⟩ := bif_t (b := Nat.ble (scat S') 8 && (Nat.ble k R.cells && Nat.ble n R.slots)) h
    obtain ⟨hc1, hc2⟩ := and_t hc1
    obtain ⟨hc2, hc3⟩ := and_t hc2
    obtain ⟨esc, hp, hok, h⟩ := gspec_ok h
    have hF := gsub_F hp hok hD hS hA
    have hMet := hC D cA (fun k => ad (gid ids k)) H.size _ _ _ h
    refine g_call (va_runV (As := as.map (gv ad)) (rest := S'.map (gv ad)) (b := ad b) ⟨hx, hb, hml, hown, hts⟩ hMet (cwV np hts hG hw hrc hrs hdy hRm) ⟨gPc_blind, va_recv hK hP hci (q0 := b) (gw_get hes), fun U hU hW => ?_⟩ rfl (by simp [h3]) hl.1 (by simp [gv]) (lv_room (by rw [scat_eq]; exact Nat.le_of_ble_eq_true hc1)) hd ⟨Nat.le_of_ble_eq_true hc2, Nat.le_of_ble_eq_true hc3⟩) hS hF (fun v es' ad' H1 locs1 hKv hag' hP1 hD1 hz hk hS1 => ?_)
    · exact g_pre (av := .ref b :: as) hp hok hn hY hP hD hS hA U hU hW
    · have had : ad' = fun k => ad (gid ids k) := funext fun i => hag' i trivial
      subst had
      obtain ⟨hlen, hKv⟩ := bif_t (b := Nat.beq es'.length ids.length) hKv
      rw [gputF_eq] at hKv
      obtain ⟨hPn, hDn⟩ := g_join hp hok hn hP hD (Nat.eq_of_beq_eq_true hlen) hk hP1
      rw [← vpush_map]
      exact hN _ _ _ _ _ hKv ad H1 locs1 ls hag hPn hDn hS1 hl
  · exact h.elim
theorem ok_callVD (hM : gM X l0 cc own Ts R0) {y : MethodName} {ws ws' : List Cond} {rm : Room} {bytes : ByteArray} {maxL index ci np : Nat} {ret : Option FieldType} {sp : gS} {Cn : String} {Tn : u_T} {Nn : Nat} (hC : Ct l0 y ws rm 0 0 false sp) (hci : vwCl[ci]? = some (Cn, Tn, Nn)) (hG : GoodIn Ts (wsV own index Cn y ws)) (hw : ws = Cond.code y bytes maxL ret :: ws') (hrc : rm.cells = 0) (hrs : rm.slots = 0)
    (hdy : y.cls = Cn ∧ y.cls ≠ "java/lang/invoke/MethodHandle" ∧ y.cls ≠ "java/lang/invoke/VarHandle" ∧ (parseMethodDescriptor y.desc).map (fun d => d.parameters.length) = some np) (hRm : rm.frames + 1 ≤ R0.frames ∧ 8 + (maxL + 11) + rm.locals ≤ R0.locals) (hd : decode cc pc = .ok (.invokevirtual index, 3)) :
    okO X pc (pc + 3) (oCallVD R0.cells R0.slots ci np sp) := by
  obtain ⟨p, l, e, R, s, m, args, below, meth, c, D, cA, A, ag, ad0, Q, nL⟩ := X
  obtain ⟨hx, hb, hown, hts, hml, hlk, hY, hA, hR, hL0⟩ := hM
  have hK := hY.1
  subst hR
  subst hL0
  intro J N hJ hN L S es k n h ad H locs ls hag hP hD hS hl
  unfold oCallVD at h
  split at h
  · rename_i as b S' htk
    obtain ⟨pre, h1, h2, h3⟩ := gtake_ok htk
    simp only [List.append_nil] at h1
    subst h1
    subst h2
    obtain ⟨fs, hes, h⟩ := eObj_ok h
    obtain ⟨ids, hn, h⟩ := h
    obtain ⟨hc1, h⟩ := bif_t (b := Nat.ble (scat S') 8 && (Nat.ble k R.cells && Nat.ble n R.slots)) h
    obtain ⟨hc1, hc2⟩ := and_t hc1
    obtain ⟨hc2, hc3⟩ := and_t hc2
    obtain ⟨esc, hp, hok, h⟩ := gspec_ok h
    have hF := gsub_F hp hok hD hS hA
    have hMet := hC D cA (fun k => ad (gid ids k)) H.size _ _ _ h
    refine g_call (va_runV (As := as.map (gv ad)) (rest := S'.map (gv ad)) (b := ad b) ⟨hx, hb, hml, hown, hts⟩ hMet (cwV np hts hG hw hrc hrs hdy hRm) ⟨gPc_blind, va_recv hK hP hci (q0 := b) (gw_get hes), fun U hU hW => ?_⟩ rfl (by simp [h3]) hl.1 (by simp [gv]) (lv_room (by rw [scat_eq]; exact Nat.le_of_ble_eq_true hc1)) hd ⟨Nat.le_of_ble_eq_true hc2, Nat.le_of_ble_eq_true hc3⟩) hS hF (fun v es' ad' H1 locs1 hKv hag' hP1 hD1 hz hk hS1 => ?_)
    · exact g_pre (av := .ref b :: as) hp hok hn hY hP hD hS hA U hU hW
    · have had : ad' = fun k => ad (gid ids k) := funext fun i => hag' i trivial
      subst had
      obtain ⟨hlen, hKv⟩ := bif_t (b := Nat.beq es'.length ids.length) hKv
      rw [gputF_eq] at hKv
      obtain ⟨hPn, hDn⟩ := g_join hp hok hn hP hD (Nat.eq_of_beq_eq_true hlen) hk hP1
      rw [← vpush_map]
      exact hN _ _ _ _ _ hKv ad H1 locs1 ls hag hPn hDn hS1 hl
  · exact h.elim
theorem ok_callS (hM : gM X l0 cc own Ts R0) {y : MethodName} {ws ws' : List Cond} {rm : Room} {bytes : ByteArray} {maxL index np : Nat} {ret : Option FieldType} {sp : gS} (ids : List Nat) (hC : Ct l0 y ws rm 0 0 false sp) (hn : va_nd ids = true) (hG : GoodIn Ts (va_wsS own index y ws)) (hw : ws = Cond.code y bytes maxL ret :: ws') (hrc : rm.cells = 0) (hrs : rm.slots = 0)
    (hdy : y.cls ≠ "java/lang/invoke/MethodHandle" ∧ y.cls ≠ "java/lang/invoke/VarHandle" ∧ (parseMethodDescriptor y.desc).map (fun d => d.parameters.length) = some np) (hRm : rm.frames + 1 ≤ R0.frames ∧ 8 + (maxL + 11) + rm.locals ≤ R0.locals) (hd : decode cc pc = .ok (.invokestatic index, 3)) :
    okO X pc (pc + 3) (oCallS R0.cells R0.slots np ids sp) := by
  obtain ⟨p, l, e, R, s, m, args, below, meth, c, D, cA, A, ag, ad0, Q, nL⟩ := X
  obtain ⟨hx, hb, hown, hts, hml, hlk, hY, hA, hR, hL0⟩ := hM
  subst hR
  subst hL0
  intro J N hJ hN L S es k n h ad H locs ls hag hP hD hS hl
  unfold oCallS at h
  split at h
  · rename_i as S' htk
    obtain ⟨pre, h1, h2, h3⟩ := gtake_ok htk
    simp only [List.append_nil] at h1
    subst h1
    subst h2
    obtain ⟨hc1, h⟩ := bif_t (b := Nat.ble (scat S') 8 && (Nat.ble k R.cells && Nat.ble n R.slots)) h
    obtain ⟨hc1, hc2⟩ := and_t hc1
    obtain ⟨hc2, hc3⟩ := and_t hc2
    obtain ⟨esc, hp, hok, h⟩ := gspec_ok h
    have hF := gsub_F hp hok hD hS hA
    have hMet := hC D cA (fun k => ad (gid ids k)) H.size _ _ _ h
    have okw : ∀ w ∈ va_wsS own index y ws, w.before args s = true := fun w h => hts w (hG w h).1
    have hcb := callB_of (R := R) (own := own) (index := index) (maxL := maxL) np hts (fun w h => hG w (by unfold va_wsS; exact List.mem_append_right _ h)) hw hrc hrs (okw _ (by simp [va_wsS])) (okw _ (by simp [va_wsS])) hdy hRm
    refine g_call (va_runS (As := as.map (gv ad)) (rest := S'.map (gv ad)) ⟨hx, hb, hml, hown, hts⟩ hMet ⟨hcb, okw _ (by simp [va_wsS])⟩ ⟨gPc_blind, fun U hU hW => ?_⟩ rfl (by simp [h3]) hl.1 (by simp) (lv_room (by rw [scat_eq]; exact Nat.le_of_ble_eq_true hc1)) hd ⟨Nat.le_of_ble_eq_true hc2, Nat.le_of_ble_eq_true hc3⟩) hS hF (fun v es' ad' H1 locs1 hKv hag' hP1 hD1 hz hk hS1 => ?_)
    · exact g_pre (av := as) hp hok hn hY hP hD hS hA U hU hW
    · have had : ad' = fun k => ad (gid ids k) := funext fun i => hag' i trivial
      subst had
      obtain ⟨hlen, hKv⟩ := bif_t (b := Nat.beq es'.length ids.length) hKv
      rw [gputF_eq] at hKv
      obtain ⟨hPn, hDn⟩ := g_join hp hok hn hP hD (Nat.eq_of_beq_eq_true hlen) hk hP1
      rw [← vpush_map]
      exact hN _ _ _ _ _ hKv ad H1 locs1 ls hag hPn hDn hS1 hl
  · exact h.elim
theorem ok_callSN (hM : gM X l0 cc own Ts R0) {y : MethodName} {ws ws' : List Cond} {rm : Room} {bytes : ByteArray} {maxL index np : Nat} {ret : Option FieldType} {sp : gS} (ids : List Nat) (hC : Ct l0 y ws rm 0 0 false sp) (hn : va_nd ids = true) (hG : GoodIn Ts ws) (hw : ws = Cond.code y bytes maxL ret :: ws') (hrc : rm.cells = 0) (hrs : rm.slots = 0) (hnest : (own, index, y) ∈ gNest) (hst : Cond.static y ∈ Ts) (hini : Cond.initialized y.cls ∈ Ts)
    (hdy : y.cls ≠ "java/lang/invoke/MethodHandle" ∧ y.cls ≠ "java/lang/invoke/VarHandle" ∧ (parseMethodDescriptor y.desc).map (fun d => d.parameters.length) = some np) (hRm : rm.frames + 1 ≤ R0.frames ∧ 8 + (maxL + 11) + rm.locals ≤ R0.locals) (hd : decode cc pc = .ok (.invokestatic index, 3)) :
    okO X pc (pc + 3) (oCallS R0.cells R0.slots np ids sp) := by
  obtain ⟨p, l, e, R, s, m, args, below, meth, c, D, cA, A, ag, ad0, Q, nL⟩ := X
  obtain ⟨hx, hb, hown, hts, hml, hlk, hY, hA, hR, hL0⟩ := hM
  subst hR
  subst hL0
  intro J N hJ hN L S es k n h ad H locs ls hag hP hD hS hl
  unfold oCallS at h
  split at h
  · rename_i as S' htk
    obtain ⟨pre, h1, h2, h3⟩ := gtake_ok htk
    simp only [List.append_nil] at h1
    subst h1
    subst h2
    obtain ⟨hc1, h⟩ := bif_t (b := Nat.ble (scat S') 8 && (Nat.ble k R.cells && Nat.ble n R.slots)) h
    obtain ⟨hc1, hc2⟩ := and_t hc1
    obtain ⟨hc2, hc3⟩ := and_t hc2
    obtain ⟨esc, hp, hok, h⟩ := gspec_ok h
    have hF := gsub_F hp hok hD hS hA
    have hMet := hC D cA (fun k => ad (gid ids k)) H.size _ _ _ h
    have hcb := va_cnB (R := R) (own := own) (index := index) (host := RX6) (maxL := maxL) np hts hG hw hrc hrs (hY.2.1.1 _ hnest) (hts _ hini) hdy hRm
    refine g_call (va_runSN (As := as.map (gv ad)) (rest := S'.map (gv ad)) ⟨hx, hb, hml, hown, hts⟩ hMet ⟨hcb, hts _ hst, trivial⟩ ⟨gPc_blind, fun U hU hW => ?_⟩ rfl (by simp [h3]) hl.1 (by simp) (lv_room (by rw [scat_eq]; exact Nat.le_of_ble_eq_true hc1)) hd ⟨Nat.le_of_ble_eq_true hc2, Nat.le_of_ble_eq_true hc3⟩) hS hF (fun v es' ad' H1 locs1 hKv hag' hP1 hD1 hz hk hS1 => ?_)
    · exact g_pre (av := as) hp hok hn hY hP hD hS hA U hU hW
    · have had : ad' = fun k => ad (gid ids k) := funext fun i => hag' i trivial
      subst had
      obtain ⟨hlen, hKv⟩ := bif_t (b := Nat.beq es'.length ids.length) hKv
      rw [gputF_eq] at hKv
      obtain ⟨hPn, hDn⟩ := g_join hp hok hn hP hD (Nat.eq_of_beq_eq_true hlen) hk hP1
      rw [← vpush_map]
      exact hN _ _ _ _ _ hKv ad H1 locs1 ls hag hPn hDn hS1 hl
  · exact h.elim
/-- a contract out of a walk -/
theorem ct_of {l : Launch} {y : MethodName} {ws ws' : List Cond} {rm : Room} {mc ms : Nat} {al : Bool} {sp : gS} {cc : ByteArray} {maxL : Nat} {ret : Option FieldType} {own : String} (hy : plainName y.cls = true) (hown : y.cls = own) (hw : ws = Cond.code y cc maxL ret :: ws') (hav : ∀ av es K, sp av es K → (lg_sl av).length ≤ maxL)
    (body : ∀ (X : gX) (av : List Value) (es : List gE) (K : gK), gM X l cc own ws rm → gR X K mc ms ret → (∀ i, es.length ≤ i → al = true → ¬ X.2.2.2.2.2.2.2.2.2.2.2.2.2.1 i) → (y.name = "<init>" → gInit X) → X.2.2.2.2.2.2.2.2.2.2.2.2.2.2.2.2 = maxL → sp av es K → G X 0 (lv_args 0 av) [] es 0 0) : Ct l y ws rm mc ms al sp := by
  intro D cA ad sz av es K hsp
  refine Met.ofW (cc := cc) (maxL := maxL) (ret := ret) hy hw ?_
  intro p e s m args below meth c s₁ B hml hv
  obtain ⟨rfl, hsz, hP, hY, hD0⟩ := hv
  subst hsz
  have hts := atoms_spec (ws := ws) B.pre
  have hfc : s.vm.findClass own = some m.cls := by rw [← hown]; exact findClass_of_methodNamed B.named
  have hD := hD0.self (sz := s.heap.size)
  have hb := body (p, l, e, (headSpec ws rm).room, s, m, (av.map (gv ad)).toArray, below, meth, c, D, cA, va_A (gw cA ad es) s.heap.size, agr al es.length, ad, MQ below (gQ D cA ad (agr al es.length) (va_A (gw cA ad es) s.heap.size) K) (av.map (gv ad)).toArray s mc ms (va_A (gw cA ad es) s.heap.size), maxL) av es K
    ⟨B.exec, B.bytes, hfc, hts, hml, B.notSynchronized, hY, fun q h => Or.inr h, rfl, rfl⟩ ⟨B.returns, fun _ _ _ h => h⟩ (fun i hi ha h => by
      subst ha
      exact absurd h (Nat.not_lt.mpr hi)) (fun hi => (name_of_methodNamed B.named B.method).1.trans hi) rfl hsp
  have hl := lv_entry (av.map (gv ad)) (n := maxL) (by rw [lg_sl_len]; exact hav av es K hsp)
  rw [lv_args_map] at hl
  rw [lg_entry_eq]
  exact hb ad s.heap [] _ (fun _ _ => rfl) hP hD va_S.rf hl
-- the same cells, named by other functions that agree inside the rows
def eqE : gE → gE → Prop
  | .inl (t, n, .inl f), .inl (t', n', .inl g) => t = t' ∧ n = n' ∧ ∀ j, j < n → f j = g j
  | a, b => a = b
def eqL : List gE → List gE → Prop
  | [], [] => True
  | a :: as, b :: bs => eqE a b ∧ eqL as bs
  | _, _ => False
theorem eqE_rfl (a : gE) : eqE a a := by
  rcases a with ⟨t, n, f | f | f | r⟩ | ⟨c, fs⟩
  · exact ⟨rfl, rfl, fun _ _ => rfl⟩
  · rfl
  · rfl
  · rfl
  · rfl
theorem eqL_rfl : ∀ es : List gE, eqL es es
  | [] => trivial
  | a :: as => ⟨eqE_rfl a, eqL_rfl as⟩
theorem eqL_app : ∀ {a b a' b' : List gE}, eqL a a' → eqL b b' → eqL (a ++ b) (a' ++ b')
  | [], _, [], _, _, h => h
  | [], _, _ :: _, _, h, _ => h.elim
  | _ :: _, _, [], _, h, _ => h.elim
  | _ :: _, _, _ :: _, _, h, h' => ⟨h.1, eqL_app h.2 h'⟩
theorem arr_cong {c : ClassId} {n : Nat} {f g : Nat → Int32} (h : ∀ j, j < n → f j = g j) : vp_cell c (n, .inl f) = vp_cell c (n, .inl g) := by
  have e : (fun j : Fin n => Value.int (f j.val)) = fun j : Fin n => Value.int (g j.val) := funext fun j => by rw [h j.val j.isLt]
  show ({ cls := c, slots := Array.ofFn (fun j : Fin n => Value.int (f j.val)), vm := .none } : Cell) = { cls := c, slots := Array.ofFn (fun j : Fin n => Value.int (g j.val)), vm := .none }
  rw [e]
theorem eqE_ge {D : va_G} {cA : Nat → ClassId} {ad : Nat → Nat} {a b : gE} {q : Nat} {H : Heap} (h : eqE a b) (hv : va_at D vwCl (q, ge cA ad a) H) : va_at D vwCl (q, ge cA ad b) H := by
  by_cases hab : a = b
  · rw [← hab]; exact hv
  · rcases a with ⟨t, n, f | f | f | r⟩ | ⟨c, fs⟩
    · rcases b with ⟨t', n', g | g | g | r'⟩ | ⟨c', fs'⟩
      · obtain ⟨rfl, rfl, h⟩ := h
        show H[q]? = some (vp_cell (cA t) (n, .inl g))
        rw [← arr_cong h]
        exact hv
      · exact absurd h hab
      · exact absurd h hab
      · exact absurd h hab
      · exact absurd h hab
    · exact absurd h hab
    · exact absurd h hab
    · exact absurd h hab
    · exact absurd h hab
theorem eqL_at : ∀ {es es' : List gE}, eqL es es' → es.length = es'.length ∧ ∀ (i : Nat) (b : gE), es'[i]? = some b → ∃ a : gE, es[i]? = some a ∧ eqE a b
  | [], [], _ => ⟨rfl, fun i b h => by simp at h⟩
  | [], _ :: _, h => h.elim
  | _ :: _, [], h => h.elim
  | a :: as, b :: bs, h => by
    obtain ⟨h1, h2⟩ := eqL_at h.2
    refine ⟨by simp [h1], fun i c hc => ?_⟩
    cases i with
    | zero =>
      simp at hc
      subst hc
      exact ⟨a, rfl, h.1⟩
    | succ i =>
      obtain ⟨a', h3, h4⟩ := h2 i c (by simpa using hc)
      exact ⟨a', by simpa using h3, h4⟩
theorem eqL_P {D : va_G} {cA : Nat → ClassId} {ad : Nat → Nat} {es es' : List gE} {H : Heap} (h : eqL es es') (hP : va_P D vwCl (gw cA ad es) H) : va_P D vwCl (gw cA ad es') H := by
  intro i q hq
  rw [gw_at] at hq
  cases hb : es'[i]? with
  | none => rw [hb] at hq; cases hq
  | some b =>
    rw [hb] at hq
    cases hq
    obtain ⟨a, h1, h2⟩ := (eqL_at h).2 i b hb
    exact eqE_ge h2 (hP i _ (gw_get h1))
theorem eqL_D {cA : Nat → ClassId} {ad : Nat → Nat} {es es' : List gE} {A : Nat → Prop} (h : eqL es es') (hD : va_D A (gw cA ad es)) : va_D A (gw cA ad es') := by
  have key : ∀ (i : Nat) (q : Nat × va_E), (gw cA ad es')[i]? = some q → ∃ a, es[i]? = some a ∧ q.1 = ad i := by
    intro i q hq
    rw [gw_at] at hq
    cases hb : es'[i]? with
    | none => rw [hb] at hq; cases hq
    | some b =>
      rw [hb] at hq
      cases hq
      obtain ⟨a, h1, h2⟩ := (eqL_at h).2 i b hb
      exact ⟨a, h1, rfl⟩
  refine ⟨fun i j p q hp hq he => ?_, fun i q hq => ?_⟩
  · obtain ⟨a, h1, h2⟩ := key i p hp
    obtain ⟨b, h3, h4⟩ := key j q hq
    exact hD.1 i j _ _ (gw_get h1) (gw_get h3) (h2.symm.trans (he.trans h4))
  · obtain ⟨a, h1, h2⟩ := key i q hq
    rw [h2]
    exact hD.2 i (ad i, ge cA ad a) (gw_get h1)
def gEq (K : gK) : gK := fun v es => ∃ es2, eqL es es2 ∧ K v es2
theorem G_eqv {X : gX} {pc : Nat} {L : List (Nat × Value)} {S : List Value} {es es' : List gE} {k n : Nat} (he : eqL es es') (h : G X pc L S es' k n) : G X pc L S es k n := by
  obtain ⟨p, l, e, R, s, m, args, below, meth, c, D, cA, A, ag, ad0, Q, nL⟩ := X
  intro ad H locs ls ha hP hD hS hl
  exact h ad H locs ls ha (eqL_P he hP) (eqL_D he hD) hS hl
theorem gQ_eqv {D : va_G} {cA : Nat → ClassId} {ad0 : Nat → Nat} {ag A : Nat → Prop} {K : gK} {a : Array Value} {st t : State} {oc : Outcome} (h : gQ D cA ad0 ag A (gEq K) a st oc t) : gQ D cA ad0 ag A K a st oc t := by
  obtain ⟨⟨v, es, ad, h1, ⟨es2, he, hK⟩, h3, h4, h5⟩, h6⟩ := h
  exact ⟨⟨v, es2, ad, h1, hK, h3, eqL_P he h4, eqL_D he h5⟩, h6⟩
theorem gR_eqv {X : gX} {K : gK} {mc ms : Nat} {ret : Option FieldType} (h : gR X K mc ms ret) : gR X (gEq K) mc ms ret := by
  obtain ⟨p, l, e, R, s, m, args, below, meth, c, D, cA, A, ag, ad0, Q, nL⟩ := X
  refine ⟨h.1, fun H locs g hw => h.2 H locs g ?_⟩
  intro T hT X
  obtain ⟨t, st, o, h1, h2, h3, h4⟩ := hw T hT X
  exact ⟨t, st, o, h1, h2, gQ_eqv h3, h4⟩
end GC
end
section
/-! Methods that may throw: contracts, throws, calls. -/
section GXC
abbrev gKX : Type := String → List gE → Prop
abbrev gSX : Type := List Value → List gE → gK → gKX → Prop
def gXC (D : va_G) (cA : Nat → ClassId) (ad0 : Nat → Nat) (A : Nat → Prop) (KX : gKX) : String → State → State → Prop := fun E st t => ∃ es : List gE, KX E es ∧ va_P D vwCl (gw cA ad0 es) t.heap ∧ va_D A (gw cA ad0 es) ∧ va_F A st t
def CtX (l : Launch) (y : MethodName) (ws : List Cond) (rm : Room) (mc ms : Nat) (sp : gSX) : Prop := ∀ (D : va_G) (cA : Nat → ClassId) (ad : Nat → Nat) (sz : Nat) (av : List Value) (es : List gE) (K : gK) (KX : gKX), sp av es K KX → vx_Met l y ws rm (gPc D cA ad sz av es) (gQ D cA ad (agr false es.length) (va_A (gw cA ad es) sz) K) (gXC D cA ad (va_A (gw cA ad es) sz) KX) mc ms (va_A (gw cA ad es) sz)
/-- the end of the walk is the end of a method that may throw -/
def gRX (X : gX) (KX : gKX) (mc ms : Nat) : Prop := match X with
  | (p, l, e, R, s, m, args, below, meth, c, D, cA, A, ag, ad0, Q, _) => (∀ i, ag i) ∧ (∀ x ∈ c.exceptionTable.toList, False) ∧ ∃ Qc, (∀ (H : Heap) (locs : List Loc) (k n : Nat) (g : JFrame), W p l e R s m args below meth c H locs k n (vx_MQ below Qc (gXC D cA ad0 A KX) args s mc ms A) g → W p l e R s m args below meth c H locs k n Q g) ∧ ∀ (H : Heap) (locs : List Loc) (k n : Nat) (g : JFrame) (q : Addr), vx_W p l e R s m args below meth c H locs k n (vx_MQ below Qc (gXC D cA ad0 A KX) args s mc ms A) g q → vx_W p l e R s m args below meth c H locs k n Q g q
def oThrow (KX : gKX) (E : String) (mc ms : Nat) : gO := fun _ _ _ S es k n => match S with
  | [] => gif (Nat.ble (k + 1) mc && Nat.ble (n + 6) ms) (KX E es)
  | _ => False
variable {X : gX} {l0 : Launch} {cc : ByteArray} {own : String} {Ts : List Cond} {R0 : Room} {pc : Nat}
theorem ok_throw (hM : gM X l0 cc own Ts R0) {KX : gKX} {mc ms : Nat} (hE : gRX X KX mc ms) (hl0 : l0.stackTraces = false) {ik is ic nx : Nat} {text : String} (cls : String) (names : List String) (hcls : Bundle.fit cls = true) (hnames : ∀ n ∈ names, Bundle.fit n = true) (hown6 : own = RX6) (hk : Cond.classLink own ik cls ∈ Ts) (hini : Cond.initialized cls ∈ Ts) (hstr : (is, text) ∈ gStr) (hat1 : ∀ w ∈ (vx_atS own ic cls names).filter goodWord, w ∈ Ts) (hat2 : ∀ w ∈ (vx_atS own ic cls names).filter (fun w => !goodWord w), w ∈ gBad) (hgood : ∀ w ∈ Cond.classLink own ik cls :: Cond.initialized cls :: vx_atS own ic cls names, vx_ot w = true)
    (hfr : names.length + 3 < R0.frames) (hlo : 13 * (names.length + 1) + 43 ≤ R0.locals) (hrc : mc ≤ R0.cells ∧ ms ≤ R0.slots)
    (d0 : decode cc pc = .ok (.new ik, 3)) (d3 : decode cc (pc + 3) = .ok (.dup, 1)) (d4 : decode cc (pc + 4) = .ok (.ldc is, 2)) (d6 : decode cc (pc + 6) = .ok (.invokespecial ic, 3)) (d9 : decode cc (pc + 9) = .ok (.athrow, 1)) : okO X pc nx (oThrow KX cls mc ms) := by
  obtain ⟨p, l, e, R, s, m, args, below, meth, c, D, cA, A, ag, ad0, Q, nL⟩ := X
  obtain ⟨hx, hb, hown, hts, hml, hlk, hY, hA, hR, hL0⟩ := hM
  obtain ⟨hag0, htab, Qc, hQ1, hQ2⟩ := hE
  subst hR
  subst hL0
  intro J N hJ hN L S es k n h ad H locs ls hag hP hD hS hl
  unfold oThrow at h
  split at h
  · obtain ⟨hc1, h⟩ := bif_t h
    obtain ⟨hc1, hc2⟩ := and_t hc1
    have hc1 := Nat.le_of_ble_eq_true hc1
    have hc2 := Nat.le_of_ble_eq_true hc2
    have had : ad = ad0 := funext fun i => hag i (hag0 i)
    obtain ⟨sa, hsa⟩ := hY.2.1.2.1 _ hstr
    subst hown6
    refine hQ1 _ _ _ _ _ ?_
    refine vx_throwS (A := A) (text := text) (names := names) (sa := sa) hx hb hl0 hown hcls hnames (hts _ hk) (hts _ hini) hsa (vx_hat (fun w hw => hts w (hat1 w hw)) hat2 (fun w hw => va_Nw.use (gBad_ot w hw) (hY.2.1.2.2.1 w hw))) hgood hY.2.2.1 hY.2.2.2 hS (hl.1.trans hml.symm) d0 d3 d4 d6 d9 (fun x hx9 => (htab x hx9).elim) hfr (by simpa using hlo) (by omega) (by omega) hlk (fun t hvm hz hk9 => ?_) hS.2.2 hc1 hc2
    refine ⟨es, h, ?_, ?_, ?_⟩
    · rw [← had]
      exact hP.kept (fun i q hq => hk9 q.1 (hP i q hq).lt)
    · rw [← had]
      exact hD
    · exact ⟨Nat.le_trans hS.1 hz, fun q h1 h2 => by rw [hk9 q (Nat.lt_of_lt_of_le h1 hS.1)]; exact hS.2.1 q h1 h2⟩
  · exact h.elim
/-- a call that may throw: behind it, either way -/
theorem g_callX {p : Program} {l : Launch} {e : Env} {R : Room} {s : State} {m : MethodId} {args : Array Value} {below : List Frame} {meth : Method} {c : Code} {H : Heap} {locs : List Loc} {k n : Nat} {Q : State → Prop} {pc : Nat} {ls : Array Slot} {rest st0 : List Value} {a : Array Value} {A0 A1 ag : Nat → Prop} {H0 : Heap} {mc ms : Nat} {D : va_G} {cA : Nat → ClassId} {adc : Nat → Nat} {K : gK} {KX : gKX}
    (hr : vx_Run p l e R s m args below meth c H locs k n mc ms (F0 m pc ls st0) rest (gQ D cA adc ag A1 K a) (gXC D cA adc A1 KX) A1) (hS : va_S A0 H0 H locs) (hF : ∀ q, A1 q → A0 q)
    (kx : ∀ (E : String) (ce : Cell) (q9 : Addr) (es' : List gE) (H1 : Heap) (locs1 : List Loc), KX E es' → va_P D vwCl (gw cA adc es') H1 → va_D A1 (gw cA adc es') → H.size ≤ H1.size → (∀ q : Nat, q < H.size → ¬ A1 q → H1[q]? = H[q]?) → va_S A0 H0 H1 locs1 → H1[q9]? = some ce → ce.vm = .none → s.vm.findClass E = some ce.cls → vx_W p l e R s m args below meth c H1 locs1 (k + mc) (n + ms) Q (F0 m pc ls rest) q9)
    (kk : ∀ (v : Option Value) (es' : List gE) (ad' : Nat → Nat) (H1 : Heap) (locs1 : List Loc), K v es' → (∀ i, ag i → ad' i = adc i) → va_P D vwCl (gw cA ad' es') H1 → va_D A1 (gw cA ad' es') → H.size ≤ H1.size → (∀ q : Nat, q < H.size → ¬ A1 q → H1[q]? = H[q]?) → va_S A0 H0 H1 locs1 →
      W p l e R s m args below meth c H1 locs1 (k + mc) (n + ms) Q (F0 m (pc + 3) ls ((v.map (gv ad')).toList ++ rest))) : W p l e R s m args below meth c H locs k n Q (F0 m pc ls st0) := by
  intro T hT X
  rcases hr T hT X with ⟨v, st₀, t, T', L, h0, X', hL, e1, e2, ⟨⟨v', es', ad', hv, hK, hag, hP, hD⟩, hF1⟩, st⟩ | ⟨q, st₀, t, T', L, E, ce, h0, X', hL, e1, e2, ⟨es', hKX, hP, hD, hF1⟩, hce, hcv, hcl, st⟩
  · cases hv
    obtain ⟨k1, k2, k3⟩ := vx_keep h0 e1 hS (fun q _ h => hF q h) hF hL hF1
    obtain ⟨t2, a1, b1⟩ := kk v' es' ad' T'.heap (locs ++ L) hK hag (by rw [e1]; exact hP) hD k1 k2 k3 T' rfl X'
    exact ⟨t2, st t2 a1, b1⟩
  · obtain ⟨k1, k2, k3⟩ := vx_keep h0 e1 hS (fun q _ h => hF q h) hF hL hF1
    obtain ⟨t2, a1, b1⟩ := kx E ce q es' T'.heap (locs ++ L) hKX (by rw [e1]; exact hP) hD k1 k2 k3 (by rw [e1]; exact hce) hcv hcl T' rfl X'
    exact ⟨t2, st.trans a1, b1⟩
def gspecX (ids : List Nat) (sp : gSX) (av : List Value) (F : Option Value → List gE → Prop) (FX : gKX) (es : List gE) : Prop := match gpick es ids with
  | some esc => gif (Nat.ble ids.length 1000) (sp (av.map (canV ids)) (esc.map (canE ids)) (fun v es' => gif (Nat.beq es'.length ids.length) (gputF es ids (es'.map (renE (gid ids))) (fun es2 => F v es2))) (fun E es' => gif (Nat.beq es'.length ids.length) (gputF es ids (es'.map (renE (gid ids))) (fun es2 => FX E es2))))
  | none => False
theorem gspecX_ok {ids : List Nat} {sp : gSX} {av : List Value} {F : Option Value → List gE → Prop} {FX : gKX} {es : List gE} (h : gspecX ids sp av F FX es) : ∃ esc, gpick es ids = some esc ∧ ids.length ≤ 1000 ∧ sp (av.map (canV ids)) (esc.map (canE ids)) (fun v es' => gif (Nat.beq es'.length ids.length) (gputF es ids (es'.map (renE (gid ids))) (fun es2 => F v es2))) (fun E es' => gif (Nat.beq es'.length ids.length) (gputF es ids (es'.map (renE (gid ids))) (fun es2 => FX E es2))) := by
  unfold gspecX at h
  cases hp : gpick es ids with
  | none => rw [hp] at h; exact h.elim
  | some esc =>
    rw [hp] at h
    obtain ⟨h1, h2⟩ := bif_t (b := Nat.ble ids.length 1000) h
    exact ⟨esc, rfl, Nat.le_of_ble_eq_true h1, h2⟩
/-- a static call that may throw, not caught here -/
def oCallSX (rc rs mc ms cmc cms np : Nat) (ids : List Nat) (sp : gSX) (KX : gKX) : gO := fun _ N L S es k n => match gtake np [] S with
  | some (as, S') => gif (Nat.ble (scat S') 8 && (Nat.ble (k + cmc) rc && (Nat.ble (n + cms) rs && (Nat.ble (k + cmc) mc && Nat.ble (n + cms) ms)))) (gspecX ids sp as (fun v es2 => N L (vpush (gid ids) v S') es2 (k + cmc) (n + cms)) KX es)
  | _ => False
theorem ok_callSX (hM : gM X l0 cc own Ts R0) {KX : gKX} {mc ms : Nat} (hE : gRX X KX mc ms) {y : MethodName} {ws ws' : List Cond} {rm : Room} {bytes : ByteArray} {maxL index np cmc cms : Nat} {ret : Option FieldType} {sp : gSX} (ids : List Nat) (hC : CtX l0 y ws rm cmc cms sp) (hn : va_nd ids = true) (hG : GoodIn Ts (va_wsS own index y ws)) (hw : ws = Cond.code y bytes maxL ret :: ws') (hrc : rm.cells = cmc) (hrs : rm.slots = cms)
    (hdy : y.cls ≠ "java/lang/invoke/MethodHandle" ∧ y.cls ≠ "java/lang/invoke/VarHandle" ∧ (parseMethodDescriptor y.desc).map (fun d => d.parameters.length) = some np) (hRm : rm.frames + 1 ≤ R0.frames ∧ 8 + (maxL + 11) + rm.locals ≤ R0.locals) (hd : decode cc pc = .ok (.invokestatic index, 3)) :
    okO X pc (pc + 3) (oCallSX R0.cells R0.slots mc ms cmc cms np ids sp KX) := by
  obtain ⟨p, l, e, R, s, m, args, below, meth, c, D, cA, A, ag, ad0, Q, nL⟩ := X
  obtain ⟨hx, hb, hown, hts, hml, hlk, hY, hA, hR, hL0⟩ := hM
  obtain ⟨hag0, htab, Qc, hQ1, hQ2⟩ := hE
  subst hR
  subst hL0
  intro J N hJ hN L S es k n h ad H locs ls hag hP hD hS hl
  unfold oCallSX at h
  split at h
  · rename_i as S' htk
    obtain ⟨pre, h1, h2, h3⟩ := gtake_ok htk
    simp only [List.append_nil] at h1
    subst h1
    subst h2
    obtain ⟨hc1, h⟩ := bif_t (b := Nat.ble (scat S') 8 && (Nat.ble (k + cmc) R.cells && (Nat.ble (n + cms) R.slots && (Nat.ble (k + cmc) mc && Nat.ble (n + cms) ms)))) h
    obtain ⟨hc1, hc2⟩ := and_t hc1
    obtain ⟨hc2, hc3⟩ := and_t hc2
    obtain ⟨hc3, hc4⟩ := and_t hc3
    obtain ⟨hc4, hc5⟩ := and_t hc4
    obtain ⟨esc, hp, hok, h⟩ := gspecX_ok h
    have hF := gsub_F hp hok hD hS hA
    have hMet := hC D cA (fun k => ad (gid ids k)) H.size _ _ _ _ h
    have okw : ∀ w ∈ va_wsS own index y ws, w.before args s = true := fun w h => hts w (hG w h).1
    have hcb := callB_of (R := R) (own := own) (index := index) (maxL := maxL) np hts (fun w h => hG w (by unfold va_wsS; exact List.mem_append_right _ h)) hw hrc hrs (okw _ (by simp [va_wsS])) (okw _ (by simp [va_wsS])) hdy hRm
    have had : ad = ad0 := funext fun i => hag i (hag0 i)
    refine g_callX (vx_runS (As := as.map (gv ad)) (rest := S'.map (gv ad)) ⟨hx, hb, hml, hown, hts⟩ hMet ⟨hcb, okw _ (by simp [va_wsS])⟩ ⟨gPc_blind, fun U hU hW => ?_⟩ rfl (by simp [h3]) hl.1 (by simp) (lv_room (by rw [scat_eq]; exact Nat.le_of_ble_eq_true hc1)) hd ⟨Nat.le_of_ble_eq_true hc2, Nat.le_of_ble_eq_true hc3⟩) hS hF (fun E ce q9 es' H1 locs1 hKX hP1 hD1 hz hk hS1 hce hcv hcl => ?_) (fun v es' ad' H1 locs1 hKv hag' hP1 hD1 hz hk hS1 => ?_)
    · exact g_pre (av := as) hp hok hn hY hP hD hS hA U hU hW
    · obtain ⟨hlen, hKX⟩ := bif_t (b := Nat.beq es'.length ids.length) hKX
      rw [gputF_eq] at hKX
      obtain ⟨hPn, hDn⟩ := g_join hp hok hn hP hD (Nat.eq_of_beq_eq_true hlen) hk hP1
      refine hQ2 _ _ _ _ _ _ (vx_out (fun x hx9 => (htab x hx9).elim) hlk hce hcv hcl (fun t ht hvm => ⟨_, hKX, ?_, ?_, hS1.F ht⟩) hS1.2.2 (Nat.le_of_ble_eq_true hc4) (Nat.le_of_ble_eq_true hc5))
      · rw [ht, ← had]
        exact hPn
      · rw [← had]
        exact hDn
    · have had2 : ad' = fun k => ad (gid ids k) := funext fun i => hag' i trivial
      subst had2
      obtain ⟨hlen, hKv⟩ := bif_t (b := Nat.beq es'.length ids.length) hKv
      rw [gputF_eq] at hKv
      obtain ⟨hPn, hDn⟩ := g_join hp hok hn hP hD (Nat.eq_of_beq_eq_true hlen) hk hP1
      rw [← vpush_map]
      exact hN _ _ _ _ _ hKv ad H1 locs1 ls hag hPn hDn hS1 hl
  · exact h.elim
/-- a contract of a method that may throw, out of a walk -/
theorem ctX_of {l : Launch} {y : MethodName} {ws ws' : List Cond} {rm : Room} {mc ms : Nat} {sp : gSX} {cc : ByteArray} {maxL : Nat} {ret : Option FieldType} {own : String} (hy : plainName y.cls = true) (hown : y.cls = own) (hw : ws = Cond.code y cc maxL ret :: ws') (hav : ∀ av es K KX, sp av es K KX → (lg_sl av).length ≤ maxL)
    (body : ∀ (X : gX) (av : List Value) (es : List gE) (K : gK) (KX : gKX), gM X l cc own ws rm → gR X K mc ms ret → gRX X KX mc ms → X.2.2.2.2.2.2.2.2.2.2.2.2.2.2.2.2 = maxL → sp av es K KX → G X 0 (lv_args 0 av) [] es 0 0) : CtX l y ws rm mc ms sp := by
  intro D cA ad sz av es K KX hsp
  refine vx_ofW (cc := cc) (maxL := maxL) (ret := ret) hy hw ?_
  intro p e s m args below meth c s₁ B hml htab hv
  obtain ⟨rfl, hsz, hP, hY, hD0⟩ := hv
  subst hsz
  have hts := atoms_spec (ws := ws) B.pre
  have hfc : s.vm.findClass own = some m.cls := by rw [← hown]; exact findClass_of_methodNamed B.named
  have hD := hD0.self (sz := s.heap.size)
  have hb := body (p, l, e, (headSpec ws rm).room, s, m, (av.map (gv ad)).toArray, below, meth, c, D, cA, va_A (gw cA ad es) s.heap.size, agr false es.length, ad, vx_MQ below (gQ D cA ad (agr false es.length) (va_A (gw cA ad es) s.heap.size) K) (gXC D cA ad (va_A (gw cA ad es) s.heap.size) KX) (av.map (gv ad)).toArray s mc ms (va_A (gw cA ad es) s.heap.size), maxL) av es K KX
    ⟨B.exec, B.bytes, hfc, hts, hml, B.notSynchronized, hY, fun q h => Or.inr h, rfl, rfl⟩ ⟨B.returns, fun _ _ _ h => vx_ret h⟩ ⟨fun _ => trivial, htab, _, fun _ _ _ _ _ h => h, fun _ _ _ _ _ _ h => h⟩ rfl hsp
  have hl := lv_entry (av.map (gv ad)) (n := maxL) (by rw [lg_sl_len]; exact hav av es K KX hsp)
  rw [lv_args_map] at hl
  rw [lg_entry_eq]
  exact hb ad s.heap [] _ (fun _ _ => rfl) hP hD va_S.rf hl
theorem gBad_1 : ∀ w ∈ (vx_atS RX6 175 "java/lang/IndexOutOfBoundsException" ["java/lang/RuntimeException", "java/lang/Exception"]).filter (fun w => !goodWord w), w ∈ gBad := by decide +kernel
theorem gBad_2 : ∀ w ∈ (vx_atS RX6 208 "java/lang/IllegalArgumentException" ["java/lang/RuntimeException", "java/lang/Exception"]).filter (fun w => !goodWord w), w ∈ gBad := by decide +kernel
theorem gBad_3 : ∀ w ∈ (vx_atS RX6 109 "java/lang/IllegalStateException" ["java/lang/RuntimeException", "java/lang/Exception"]).filter (fun w => !goodWord w), w ∈ gBad := by decide +kernel
end GXC
end
section
/-! Steps that make cells. -/
section GA
def wfv (b : Nat) : Value → Bool
  | .ref k => Nat.ble (k + 1) b
  | _ => true
def wfq (b : Nat) : Option Nat → Bool
  | some k => Nat.ble (k + 1) b
  | none => true
def wfE (b : Nat) : gE → Bool
  | .inr (_, fs) => fs.all (wfv b)
  | .inl (_, _, .inr (.inr (.inr r))) => r.all (wfq b)
  | .inl _ => true
def wfS (b : Nat) (L : List (Nat × Value)) (S : List Value) (es : List gE) : Bool := es.all (wfE b) && (S.all (wfv b) && L.all (fun q => wfv b q.2))
theorem wf_v {b : Nat} {v : Value} {ad ad' : Nat → Nat} (h : wfv b v = true) (ha : ∀ i, i < b → ad' i = ad i) : gv ad' v = gv ad v := by
  cases v with
  | ref k => simp only [gv]; rw [ha k (Nat.le_of_ble_eq_true h)]
  | _ => rfl
theorem wf_vs {b : Nat} {ad ad' : Nat → Nat} (ha : ∀ i, i < b → ad' i = ad i) : ∀ {vs : List Value}, vs.all (wfv b) = true → vs.map (gv ad') = vs.map (gv ad)
  | [], _ => rfl
  | v :: vs, h => by
    obtain ⟨h1, h2⟩ := and_t h
    simp only [List.map_cons, wf_v h1 ha]
    rw [wf_vs ha h2]
theorem wf_e {b : Nat} {ad ad' : Nat → Nat} {cA : Nat → ClassId} (ha : ∀ i, i < b → ad' i = ad i) {e : gE} (h : wfE b e = true) : ge cA ad' e = ge cA ad e := by
  rcases e with ⟨t, n, f | f | f | r⟩ | ⟨c, fs⟩
  · rfl
  · rfl
  · rfl
  · simp only [ge]
    have : (fun j => (r.getD j none).map ad') = fun j => (r.getD j none).map ad := by
      funext j
      rw [List.getD_eq_getElem?_getD]
      cases hj : r[j]? with
      | none => rfl
      | some q =>
        cases q with
        | none => rfl
        | some k =>
          have : wfq b (some k) = true := List.all_eq_true.mp h _ (List.mem_of_getElem? hj)
          show some (ad' k) = some (ad k)
          rw [ha k (Nat.le_of_ble_eq_true this)]
    rw [this]
  · simp only [ge]
    rw [wf_vs ha h]
theorem wf_w {ad ad' : Nat → Nat} {cA : Nat → ClassId} {es : List gE} (ha : ∀ i, i < es.length → ad' i = ad i) (h : es.all (wfE es.length) = true) : gw cA ad' es = gw cA ad es := by
  apply List.ext_getElem?
  intro i
  rw [gw_at, gw_at]
  cases he : es[i]? with
  | none => rfl
  | some e =>
    have hi : i < es.length := (List.getElem?_eq_some_iff.mp he).1
    have hw : wfE es.length e = true := List.all_eq_true.mp h _ (List.mem_of_getElem? he)
    simp only [Option.map_some]
    rw [ha i hi, wf_e ha hw]
theorem wf_l {b : Nat} {ad ad' : Nat → Nat} (ha : ∀ i, i < b → ad' i = ad i) : ∀ {L : List (Nat × Value)}, L.all (fun q => wfv b q.2) = true → lmap ad' L = lmap ad L
  | [], _ => rfl
  | q :: L, h => by
    obtain ⟨h1, h2⟩ := and_t h
    have := wf_l ha h2
    simp only [lmap, List.map_cons] at this ⊢
    rw [wf_v h1 ha, this]
def gN0 (X : gX) (n0 : Nat) : Prop := match X with
  | (_, _, _, _, _, _, _, _, _, _, _, _, _, ag, _, _, _) => ∀ i, ag i → i < n0
theorem gN0_of {X : gX} {n0 : Nat} (h : ∀ i, n0 ≤ i → true = true → ¬ X.2.2.2.2.2.2.2.2.2.2.2.2.2.1 i) : gN0 X n0 := by
  obtain ⟨p, l, e, R, s, m, args, below, meth, c, D, cA, A, ag, ad0, Q, nL⟩ := X
  intro i hi
  rcases Nat.lt_or_ge i n0 with q | q
  · exact q
  · exact absurd hi (h i q rfl)
variable {X : gX} {l0 : Launch} {cc : ByteArray} {own : String} {Ts : List Cond} {R0 : Room} {pc : Nat}
/-- the call of Object's constructor -/
def oObj (rl : Nat) : gO := fun _ N L S es k n => match S with
  | .ref _ :: S' => gif (Nat.ble (scat S' + 12) rl) (N L S' es k n)
  | _ => False
theorem ok_obj (hM : gM X l0 cc own Ts R0) {index : Nat} (hlink : Cond.methodLink own index objectInit ∈ Ts) (hinst : Cond.instanceMethod objectInit ∈ Ts) (hcode : Cond.code objectInit ⟨#[0xb1]⟩ 1 none ∈ Ts) (hfr : 1 ≤ R0.frames) (hd : decode cc pc = .ok (.invokespecial index, 3)) : okO X pc (pc + 3) (oObj R0.locals) := by
  obtain ⟨p, l, e, R, s, m, args, below, meth, c, D, cA, A, ag, ad0, Q, nL⟩ := X
  obtain ⟨hx, hb, hown, hts, hml, hlk, hY, hA, hR, hL0⟩ := hM
  subst hR
  intro J N hJ hN L S es k n h ad H locs ls hag hP hD hS hl
  unfold oObj at h
  split at h
  · rename_i b S'
    obtain ⟨hc, h⟩ := bif_t h
    have hc := Nat.le_of_ble_eq_true hc
    refine W.objInit (rest := S'.map (gv ad)) hx hb hown (hts _ hlink) (hts _ hinst) (hts _ hcode) rfl (hl.1.trans hml.symm) rfl hd hfr ?_ ?_
    · show 2 * 0 + _ + 12 ≤ _
      rw [scat_eq]
      omega
    · exact W.eq (g2 := F0 m (pc + 3) ls (S'.map (gv ad))) rfl (hN _ _ _ _ _ h ad H locs ls hag hP hD hS hl)
  · exact h.elim
/-- a new cell at the end of the world -/
theorem g_grow {D : va_G} {cA : Nat → ClassId} {ad : Nat → Nat} {es : List gE} {e : gE} {a : Nat} {H : Heap} {A : Nat → Prop} {x : va_E} (hwf : es.all (wfE es.length) = true) (hx : ∀ ad' : Nat → Nat, ge cA ad' e = x) (hP : va_P D vwCl (gw cA ad es ++ [(a, x)]) H) (hD : va_D A (gw cA ad es ++ [(a, x)])) :
    ∃ ad' : Nat → Nat, (∀ i, i < es.length → ad' i = ad i) ∧ ad' es.length = a ∧ va_P D vwCl (gw cA ad' (es ++ [e])) H ∧ va_D A (gw cA ad' (es ++ [e])) := by
  refine ⟨fun i => if i = es.length then a else ad i, fun i hi => if_neg (by omega), if_pos rfl, ?_⟩
  have h1 : gw cA (fun i => if i = es.length then a else ad i) (es ++ [e]) = gw cA ad es ++ [(a, x)] := by
    rw [← gw_push, wf_w (ad := ad) (fun i hi => if_neg (by omega)) hwf, hx]
    simp
  rw [h1]
  exact ⟨hP, hD⟩
def oNew (rc rs n0 ci Nf : Nat) (fs : List Value) : gO := fun _ N L S es k n => ∃ len : Nat, es.length = len ∧ gif (wfS len L S es && (Nat.ble n0 len && (fs.all (wfv 0) && (Nat.ble (k + 1) rc && Nat.ble (n + Nf) rs)))) (N L (.ref len :: S) (es ++ [.inr (ci, fs)]) (k + 1) (n + Nf))
theorem nov {fs : List Value} (h : fs.all (wfv 0) = true) (ad : Nat → Nat) : fs.map (gv ad) = fs := by
  induction fs with
  | nil => rfl
  | cons v fs ih =>
    obtain ⟨h1, h2⟩ := and_t h
    rw [List.map_cons, ih h2]
    cases v with
    | ref k => exact absurd (Nat.le_of_ble_eq_true h1) (by omega)
    | _ => rfl
theorem ok_new (hM : gM X l0 cc own Ts R0) {n0 : Nat} (hA0 : gN0 X n0) {C : String} {T : u_T} {Nf ci index : Nat} (hin : ∀ w ∈ u_ws C T Nf, w ∈ Ts) (ty0 : Nat → FieldType) (hty : ∀ k, k < Nf → parseFieldDescriptor (T k).2.2.1 = some (ty0 k)) (hcl : Cond.classLink own index C ∈ Ts) (hinst : Cond.instantiable C Nf ∈ Ts) (hini : Cond.initialized C ∈ Ts) (hc : vwCl[ci]? = some (C, T, Nf)) {fs : List Value} (hfs : ∀ j, j < Nf → defaultValue (ty0 j) = vp_V fs j) (hd : decode cc pc = .ok (.new index, 3)) : okO X pc (pc + 3) (oNew R0.cells R0.slots n0 ci Nf fs) := by
  obtain ⟨p, l, e, R, s, m, args, below, meth, c, D, cA, A, ag, ad0, Q, nL⟩ := X
  obtain ⟨hx, hb, hown, hts, hml, hlk, hY, hA, hR, hL0⟩ := hM
  have hK := hY.1
  subst hR
  intro J N hJ hN L S es k n h ad H locs ls hag hP hD hS hl
  obtain ⟨len, rfl, h⟩ := h
  obtain ⟨h1, h⟩ := bif_t (b := wfS es.length L S es && (Nat.ble n0 es.length && (fs.all (wfv 0) && (Nat.ble (k + 1) R.cells && Nat.ble (n + Nf) R.slots)))) h
  obtain ⟨h1, h2⟩ := and_t h1
  obtain ⟨hw1, h1⟩ := and_t h1
  obtain ⟨hw2, hw3⟩ := and_t h1
  obtain ⟨hn0, h2⟩ := and_t h2
  obtain ⟨hnv, h2⟩ := and_t h2
  obtain ⟨hk1, hk2⟩ := and_t h2
  have hn0 := Nat.le_of_ble_eq_true hn0
  refine va_new (fs := fs) hx hb hts hin ty0 hty hown (hts _ hcl) (hts _ hinst) (hts _ hini) hK hP hD hS hA hc hfs (Nat.le_of_ble_eq_true hk1) (Nat.le_of_ble_eq_true hk2) hd (fun q H1 hP1 hD1 hS1 => ?_)
  obtain ⟨ad', ha, hq, hP2, hD2⟩ := g_grow (e := .inr (ci, fs)) hw1 (fun ad' => by simp only [ge]; rw [nov hnv]) hP1 hD1
  have h3 := hN _ _ _ _ _ h ad' H1 locs ls (fun i hi => by rw [ha i (Nat.lt_of_lt_of_le (hA0 i hi) hn0)]; exact hag i hi) hP2 hD2 hS1 (by rw [wf_l ha hw3]; exact hl)
  rw [List.map_cons, wf_vs ha hw2] at h3
  have h4 : gv ad' (.ref es.length) = .ref q := by simp only [gv]; rw [hq]
  rw [h4] at h3
  exact h3
def arr0 (tag sz : Nat) : gE := match tag with
  | 3 => .inl (3, sz, .inr (.inl (fun _ => 0)))
  | 4 => .inl (4, sz, .inr (.inr (.inl (fun _ => 0))))
  | t => .inl (t, sz, .inl (fun _ => 0))
def oNewA (rc rs n0 tag : Nat) : gO := fun _ N L S es k n => match S with
  | .int x :: S' => ∃ len sz : Nat, es.length = len ∧ x = nI sz ∧ gif (wfS len L S' es && (Nat.ble n0 len && (Nat.ble sz 100000 && (Nat.ble (k + 1) rc && Nat.ble (n + sz) rs)))) (N L (.ref len :: S') (es ++ [arr0 tag sz]) (k + 1) (n + sz))
  | _ => False
theorem cA_eq {D : va_G} {cA : Nat → ClassId} {s : State} {c : ClassId} {ty : FieldType} {t : Nat} (ht : (gT cA)[t]? = some (cA t, ty)) (hK : va_K D vwCl (gT cA) s) (hK1 : va_K D vwCl (gT cA ++ [(c, ty)]) s) : c = cA t := by
  have h1 := (hK.2 t _ ht).2
  have h2 := (hK1.2 6 (c, ty) rfl).2
  cases ty with
  | object C =>
    obtain ⟨_, _, _, _, _, h1⟩ := h1
    obtain ⟨_, _, _, _, _, h2⟩ := h2
    exact Option.some.inj (h2.symm.trans h1)
  | _ => exact Option.some.inj ((show s.vm.findClass _ = some c from h2).symm.trans h1)
theorem ok_newa0 (hM : gM X l0 cc own Ts R0) {n0 : Nat} (hA0 : gN0 X n0) (harr : Cond.arrayClass .int ∈ Ts) (hd : decode cc pc = .ok (.newarray .int, 2)) : okO X pc (pc + 2) (oNewA R0.cells R0.slots n0 0) := by
  obtain ⟨p, l, e, R, s, m, args, below, meth, c, D, cA, A, ag, ad0, Q, nL⟩ := X
  obtain ⟨hx, hb, hown, hts, hml, hlk, hY, hA, hR, hL0⟩ := hM
  have hK := hY.1
  subst hR
  intro J N hJ hN L S es k n h ad H locs ls hag hP hD hS hl
  unfold oNewA at h
  split at h
  · rename_i x S'
    obtain ⟨len, sz, rfl, rfl, h⟩ := h
    obtain ⟨h1, h⟩ := bif_t (b := wfS es.length L S' es && (Nat.ble n0 es.length && (Nat.ble sz 100000 && (Nat.ble (k + 1) R.cells && Nat.ble (n + sz) R.slots)))) h
    obtain ⟨h1, h2⟩ := and_t h1
    obtain ⟨hw1, h1⟩ := and_t h1
    obtain ⟨hw2, hw3⟩ := and_t h1
    obtain ⟨hn0, h2⟩ := and_t h2
    obtain ⟨hsz, h2⟩ := and_t h2
    obtain ⟨hk1, hk2⟩ := and_t h2
    have hn0 := Nat.le_of_ble_eq_true hn0
    have hszl := sz_lt hsz
    have hsz8 := Nat.le_of_ble_eq_true hsz
    refine va_newa (atype := .int) (ty := .int) (a0 := (sz, .inl (fun _ => 0))) hx hb (hts _ harr) rfl hK hP hD hS hA (fun cA => rfl) (nI_pos hszl) (nI_clamp hszl) (show sz * 4 ≤ 536870912 by omega) (Nat.le_of_ble_eq_true hk1) (Nat.le_of_ble_eq_true hk2) hd (fun q cA' H1 hK1 hP1 hD1 hS1 => ?_)
    have hcA := cA_eq (t := 0) rfl hK hK1
    subst hcA
    obtain ⟨ad', ha, hq, hP2, hD2⟩ := g_grow (e := arr0 0 sz) hw1 (fun ad' => rfl) hP1 hD1
    have h3 := hN _ _ _ _ _ h ad' H1 locs ls (fun i hi => by rw [ha i (Nat.lt_of_lt_of_le (hA0 i hi) hn0)]; exact hag i hi) hP2 hD2 hS1 (by rw [wf_l ha hw3]; exact hl)
    rw [List.map_cons, wf_vs ha hw2] at h3
    have h4 : gv ad' (.ref es.length) = .ref q := by simp only [gv]; rw [hq]
    rw [h4] at h3
    exact h3
  · exact h.elim
theorem ok_newa1 (hM : gM X l0 cc own Ts R0) {n0 : Nat} (hA0 : gN0 X n0) (harr : Cond.arrayClass .char ∈ Ts) (hd : decode cc pc = .ok (.newarray .char, 2)) : okO X pc (pc + 2) (oNewA R0.cells R0.slots n0 1) := by
  obtain ⟨p, l, e, R, s, m, args, below, meth, c, D, cA, A, ag, ad0, Q, nL⟩ := X
  obtain ⟨hx, hb, hown, hts, hml, hlk, hY, hA, hR, hL0⟩ := hM
  have hK := hY.1
  subst hR
  intro J N hJ hN L S es k n h ad H locs ls hag hP hD hS hl
  unfold oNewA at h
  split at h
  · rename_i x S'
    obtain ⟨len, sz, rfl, rfl, h⟩ := h
    obtain ⟨h1, h⟩ := bif_t (b := wfS es.length L S' es && (Nat.ble n0 es.length && (Nat.ble sz 100000 && (Nat.ble (k + 1) R.cells && Nat.ble (n + sz) R.slots)))) h
    obtain ⟨h1, h2⟩ := and_t h1
    obtain ⟨hw1, h1⟩ := and_t h1
    obtain ⟨hw2, hw3⟩ := and_t h1
    obtain ⟨hn0, h2⟩ := and_t h2
    obtain ⟨hsz, h2⟩ := and_t h2
    obtain ⟨hk1, hk2⟩ := and_t h2
    have hn0 := Nat.le_of_ble_eq_true hn0
    have hszl := sz_lt hsz
    have hsz8 := Nat.le_of_ble_eq_true hsz
    refine va_newa (atype := .char) (ty := .char) (a0 := (sz, .inl (fun _ => 0))) hx hb (hts _ harr) rfl hK hP hD hS hA (fun cA => rfl) (nI_pos hszl) (nI_clamp hszl) (show sz * 2 ≤ 536870912 by omega) (Nat.le_of_ble_eq_true hk1) (Nat.le_of_ble_eq_true hk2) hd (fun q cA' H1 hK1 hP1 hD1 hS1 => ?_)
    have hcA := cA_eq (t := 1) rfl hK hK1
    subst hcA
    obtain ⟨ad', ha, hq, hP2, hD2⟩ := g_grow (e := arr0 1 sz) hw1 (fun ad' => rfl) hP1 hD1
    have h3 := hN _ _ _ _ _ h ad' H1 locs ls (fun i hi => by rw [ha i (Nat.lt_of_lt_of_le (hA0 i hi) hn0)]; exact hag i hi) hP2 hD2 hS1 (by rw [wf_l ha hw3]; exact hl)
    rw [List.map_cons, wf_vs ha hw2] at h3
    have h4 : gv ad' (.ref es.length) = .ref q := by simp only [gv]; rw [hq]
    rw [h4] at h3
    exact h3
  · exact h.elim
theorem ok_newa2 (hM : gM X l0 cc own Ts R0) {n0 : Nat} (hA0 : gN0 X n0) (harr : Cond.arrayClass .boolean ∈ Ts) (hd : decode cc pc = .ok (.newarray .boolean, 2)) : okO X pc (pc + 2) (oNewA R0.cells R0.slots n0 2) := by
  obtain ⟨p, l, e, R, s, m, args, below, meth, c, D, cA, A, ag, ad0, Q, nL⟩ := X
  obtain ⟨hx, hb, hown, hts, hml, hlk, hY, hA, hR, hL0⟩ := hM
  have hK := hY.1
  subst hR
  intro J N hJ hN L S es k n h ad H locs ls hag hP hD hS hl
  unfold oNewA at h
  split at h
  · rename_i x S'
    obtain ⟨len, sz, rfl, rfl, h⟩ := h
    obtain ⟨h1, h⟩ := bif_t (b := wfS es.length L S' es && (Nat.ble n0 es.length && (Nat.ble sz 100000 && (Nat.ble (k + 1) R.cells && Nat.ble (n + sz) R.slots)))) h
    obtain ⟨h1, h2⟩ := and_t h1
    obtain ⟨hw1, h1⟩ := and_t h1
    obtain ⟨hw2, hw3⟩ := and_t h1
    obtain ⟨hn0, h2⟩ := and_t h2
    obtain ⟨hsz, h2⟩ := and_t h2
    obtain ⟨hk1, hk2⟩ := and_t h2
    have hn0 := Nat.le_of_ble_eq_true hn0
    have hszl := sz_lt hsz
    have hsz8 := Nat.le_of_ble_eq_true hsz
    refine va_newa (atype := .boolean) (ty := .boolean) (a0 := (sz, .inl (fun _ => 0))) hx hb (hts _ harr) rfl hK hP hD hS hA (fun cA => rfl) (nI_pos hszl) (nI_clamp hszl) (show sz * 1 ≤ 536870912 by omega) (Nat.le_of_ble_eq_true hk1) (Nat.le_of_ble_eq_true hk2) hd (fun q cA' H1 hK1 hP1 hD1 hS1 => ?_)
    have hcA := cA_eq (t := 2) rfl hK hK1
    subst hcA
    obtain ⟨ad', ha, hq, hP2, hD2⟩ := g_grow (e := arr0 2 sz) hw1 (fun ad' => rfl) hP1 hD1
    have h3 := hN _ _ _ _ _ h ad' H1 locs ls (fun i hi => by rw [ha i (Nat.lt_of_lt_of_le (hA0 i hi) hn0)]; exact hag i hi) hP2 hD2 hS1 (by rw [wf_l ha hw3]; exact hl)
    rw [List.map_cons, wf_vs ha hw2] at h3
    have h4 : gv ad' (.ref es.length) = .ref q := by simp only [gv]; rw [hq]
    rw [h4] at h3
    exact h3
  · exact h.elim
theorem ok_newa3 (hM : gM X l0 cc own Ts R0) {n0 : Nat} (hA0 : gN0 X n0) (harr : Cond.arrayClass .long ∈ Ts) (hd : decode cc pc = .ok (.newarray .long, 2)) : okO X pc (pc + 2) (oNewA R0.cells R0.slots n0 3) := by
  obtain ⟨p, l, e, R, s, m, args, below, meth, c, D, cA, A, ag, ad0, Q, nL⟩ := X
  obtain ⟨hx, hb, hown, hts, hml, hlk, hY, hA, hR, hL0⟩ := hM
  have hK := hY.1
  subst hR
  intro J N hJ hN L S es k n h ad H locs ls hag hP hD hS hl
  unfold oNewA at h
  split at h
  · rename_i x S'
    obtain ⟨len, sz, rfl, rfl, h⟩ := h
    obtain ⟨h1, h⟩ := bif_t (b := wfS es.length L S' es && (Nat.ble n0 es.length && (Nat.ble sz 100000 && (Nat.ble (k + 1) R.cells && Nat.ble (n + sz) R.slots)))) h
    obtain ⟨h1, h2⟩ := and_t h1
    obtain ⟨hw1, h1⟩ := and_t h1
    obtain ⟨hw2, hw3⟩ := and_t h1
    obtain ⟨hn0, h2⟩ := and_t h2
    obtain ⟨hsz, h2⟩ := and_t h2
    obtain ⟨hk1, hk2⟩ := and_t h2
    have hn0 := Nat.le_of_ble_eq_true hn0
    have hszl := sz_lt hsz
    have hsz8 := Nat.le_of_ble_eq_true hsz
    refine va_newa (atype := .long) (ty := .long) (a0 := (sz, .inr (.inl (fun _ => 0)))) hx hb (hts _ harr) rfl hK hP hD hS hA (fun cA => rfl) (nI_pos hszl) (nI_clamp hszl) (show sz * 8 ≤ 536870912 by omega) (Nat.le_of_ble_eq_true hk1) (Nat.le_of_ble_eq_true hk2) hd (fun q cA' H1 hK1 hP1 hD1 hS1 => ?_)
    have hcA := cA_eq (t := 3) rfl hK hK1
    subst hcA
    obtain ⟨ad', ha, hq, hP2, hD2⟩ := g_grow (e := arr0 3 sz) hw1 (fun ad' => rfl) hP1 hD1
    have h3 := hN _ _ _ _ _ h ad' H1 locs ls (fun i hi => by rw [ha i (Nat.lt_of_lt_of_le (hA0 i hi) hn0)]; exact hag i hi) hP2 hD2 hS1 (by rw [wf_l ha hw3]; exact hl)
    rw [List.map_cons, wf_vs ha hw2] at h3
    have h4 : gv ad' (.ref es.length) = .ref q := by simp only [gv]; rw [hq]
    rw [h4] at h3
    exact h3
  · exact h.elim
theorem ok_newa4 (hM : gM X l0 cc own Ts R0) {n0 : Nat} (hA0 : gN0 X n0) (harr : Cond.arrayClass .double ∈ Ts) (hd : decode cc pc = .ok (.newarray .double, 2)) : okO X pc (pc + 2) (oNewA R0.cells R0.slots n0 4) := by
  obtain ⟨p, l, e, R, s, m, args, below, meth, c, D, cA, A, ag, ad0, Q, nL⟩ := X
  obtain ⟨hx, hb, hown, hts, hml, hlk, hY, hA, hR, hL0⟩ := hM
  have hK := hY.1
  subst hR
  intro J N hJ hN L S es k n h ad H locs ls hag hP hD hS hl
  unfold oNewA at h
  split at h
  · rename_i x S'
    obtain ⟨len, sz, rfl, rfl, h⟩ := h
    obtain ⟨h1, h⟩ := bif_t (b := wfS es.length L S' es && (Nat.ble n0 es.length && (Nat.ble sz 100000 && (Nat.ble (k + 1) R.cells && Nat.ble (n + sz) R.slots)))) h
    obtain ⟨h1, h2⟩ := and_t h1
    obtain ⟨hw1, h1⟩ := and_t h1
    obtain ⟨hw2, hw3⟩ := and_t h1
    obtain ⟨hn0, h2⟩ := and_t h2
    obtain ⟨hsz, h2⟩ := and_t h2
    obtain ⟨hk1, hk2⟩ := and_t h2
    have hn0 := Nat.le_of_ble_eq_true hn0
    have hszl := sz_lt hsz
    have hsz8 := Nat.le_of_ble_eq_true hsz
    refine va_newa (atype := .double) (ty := .double) (a0 := (sz, .inr (.inr (.inr (.inl (fun _ => 0)))))) hx hb (hts _ harr) rfl hK hP hD hS hA (fun cA => rfl) (nI_pos hszl) (nI_clamp hszl) (show sz * 8 ≤ 536870912 by omega) (Nat.le_of_ble_eq_true hk1) (Nat.le_of_ble_eq_true hk2) hd (fun q cA' H1 hK1 hP1 hD1 hS1 => ?_)
    have hcA := cA_eq (t := 4) rfl hK hK1
    subst hcA
    obtain ⟨ad', ha, hq, hP2, hD2⟩ := g_grow (e := arr0 4 sz) hw1 (fun ad' => rfl) hP1 hD1
    have h3 := hN _ _ _ _ _ h ad' H1 locs ls (fun i hi => by rw [ha i (Nat.lt_of_lt_of_le (hA0 i hi) hn0)]; exact hag i hi) hP2 hD2 hS1 (by rw [wf_l ha hw3]; exact hl)
    rw [List.map_cons, wf_vs ha hw2] at h3
    have h4 : gv ad' (.ref es.length) = .ref q := by simp only [gv]; rw [hq]
    rw [h4] at h3
    exact h3
  · exact h.elim
def oNewQ (rc rs n0 : Nat) : gO := fun _ N L S es k n => match S with
  | .int x :: S' => ∃ len sz : Nat, es.length = len ∧ x = nI sz ∧ gif (wfS len L S' es && (Nat.ble n0 len && (Nat.ble sz 100000 && (Nat.ble (k + 1) rc && Nat.ble (n + sz) rs)))) (N L (.ref len :: S') (es ++ [.inl (5, sz, .inr (.inr (.inr (List.replicate sz none))))]) (k + 1) (n + sz))
  | _ => False
theorem rep_none (ad : Nat → Nat) (sz : Nat) : (fun j => ((List.replicate sz (none : Option Nat)).getD j none).map ad) = fun _ => none := by
  funext j
  rw [List.getD_eq_getElem?_getD]
  cases h : (List.replicate sz (none : Option Nat))[j]? with
  | none => rfl
  | some q =>
    have := List.mem_of_getElem? h
    rw [(List.mem_replicate.mp this).2]
    rfl
theorem ok_newq (hM : gM X l0 cc own Ts R0) {n0 : Nat} (hA0 : gN0 X n0) {index : Nat} (hcl : Cond.classLink own index RX4 ∈ Ts) (hd : decode cc pc = .ok (.anewarray index, 3)) : okO X pc (pc + 3) (oNewQ R0.cells R0.slots n0) := by
  obtain ⟨p, l, e, R, s, m, args, below, meth, c, D, cA, A, ag, ad0, Q, nL⟩ := X
  obtain ⟨hx, hb, hown, hts, hml, hlk, hY, hA, hR, hL0⟩ := hM
  have hK := hY.1
  subst hR
  intro J N hJ hN L S es k n h ad H locs ls hag hP hD hS hl
  unfold oNewQ at h
  split at h
  · rename_i x S'
    obtain ⟨len, sz, rfl, rfl, h⟩ := h
    obtain ⟨h1, h⟩ := bif_t (b := wfS es.length L S' es && (Nat.ble n0 es.length && (Nat.ble sz 100000 && (Nat.ble (k + 1) R.cells && Nat.ble (n + sz) R.slots)))) h
    obtain ⟨h1, h2⟩ := and_t h1
    obtain ⟨hw1, h1⟩ := and_t h1
    obtain ⟨hw2, hw3⟩ := and_t h1
    obtain ⟨hn0, h2⟩ := and_t h2
    obtain ⟨hsz, h2⟩ := and_t h2
    obtain ⟨hk1, hk2⟩ := and_t h2
    have hn0 := Nat.le_of_ble_eq_true hn0
    have hszl := sz_lt hsz
    have hsz8 := Nat.le_of_ble_eq_true hsz
    refine va_newq (C := RX4) hx hb hown (hts _ hcl) hY.2.1.2.2.2 hK hP hD hS hA (nI_pos hszl) (nI_clamp hszl) (by omega) (Nat.le_of_ble_eq_true hk1) (Nat.le_of_ble_eq_true hk2) hd (fun q cA' H1 hK1 hP1 hD1 hS1 => ?_)
    have hcA := cA_eq (t := 5) rfl hK hK1
    subst hcA
    obtain ⟨ad', ha, hq, hP2, hD2⟩ := g_grow (e := .inl (5, sz, .inr (.inr (.inr (List.replicate sz none))))) hw1 (fun ad' => by simp only [ge]; rw [rep_none]) hP1 hD1
    have h3 := hN _ _ _ _ _ h ad' H1 locs ls (fun i hi => by rw [ha i (Nat.lt_of_lt_of_le (hA0 i hi) hn0)]; exact hag i hi) hP2 hD2 hS1 (by rw [wf_l ha hw3]; exact hl)
    rw [List.map_cons, wf_vs ha hw2] at h3
    have h4 : gv ad' (.ref es.length) = .ref q := by simp only [gv]; rw [hq]
    rw [h4] at h3
    exact h3
  · exact h.elim
def oAASt : gO := fun _ N L S es k n => match S with
  | .ref v :: .int i :: .ref a :: S' => eRef es a 5 (fun sz r => eObj es v 4 (fun _ => ∃ j : Nat, i = nI j ∧ j < sz ∧ gif (Nat.beq r.length sz) (N L S' (es.set a (.inl (5, sz, .inr (.inr (.inr (r.set j (some v))))))) k n)))
  | _ => False
theorem set_q (ad : Nat → Nat) (r : List (Option Nat)) {j v : Nat} (hj : j < r.length) : va_up (fun j => (r.getD j none).map ad) j (some (ad v)) = fun i => ((r.set j (some v)).getD i none).map ad := by
  funext i
  show (if i = j then some (ad v) else (r.getD i none).map ad) = _
  rw [List.getD_eq_getElem?_getD, List.getD_eq_getElem?_getD, List.getElem?_set]
  by_cases h : i = j
  · subst h
    rw [if_pos rfl, if_pos rfl, if_pos hj]
    rfl
  · rw [if_neg h, if_neg (fun q => h q.symm)]
theorem ok_aast (hM : gM X l0 cc own Ts R0) (hd : decode cc pc = .ok (.aastore, 1)) : okO X pc (pc + 1) oAASt := by
  obtain ⟨p, l, e, R, s, m, args, below, meth, c, D, cA, A, ag, ad0, Q, nL⟩ := X
  obtain ⟨hx, hb, hown, hts, hml, hlk, hY, hA, hR, hL0⟩ := hM
  have hK := hY.1
  intro J N hJ hN L S es k n h ad H locs ls hag hP hD hS hl
  unfold oAASt at h
  split at h
  · rename_i v i a S'
    obtain ⟨sz, r, hes, hsz, h⟩ := eRef_ok h
    obtain ⟨fs, hev, j, rfl, hj, h⟩ := eObj_ok h
    obtain ⟨hlen, h⟩ := bif_t (b := Nat.beq r.length sz) h
    have hlen := Nat.eq_of_beq_eq_true hlen
    have hc9 : (nI j).toNatClampNeg = j := nI_clamp (Nat.lt_trans hj hsz)
    have hsq := set_q ad r (j := j) (v := v) (by omega)
    refine va_astq (r := (RX4, TX4, 6)) hx hb hK hP hD hS a 5 v 4 (gw_get hes) rfl (gw_get hev) rfl (vp_in_nI hj hsz) hd (fun H1 locs1 hP1 hD1 hS1 => hN _ _ _ _ _ h ad H1 locs1 ls hag ?_ ?_ hS1 hl)
    · rw [hc9, hsq] at hP1
      rw [← gw_set]
      exact hP1
    · rw [hc9, hsq] at hD1
      rw [← gw_set]
      exact hD1
  · exact h.elim
-- a constructor's call: its own cell, and what it makes
def gren (b len : Nat) : Nat → Nat
  | 0 => b
  | j + 1 => len + j
def oCallI (rc rs cmc cms n0 : Nat) (sp : gS) : gO := fun _ N L S es k n => match S with
  | .ref b :: S' => (match gnth es b with
    | some (.inr (ci, fs)) => ∃ len : Nat, es.length = len ∧ gif (wfS len L S' es && (fs.all (wfv 0) && (Nat.ble n0 len && (Nat.ble (scat S') 8 && (Nat.ble (k + cmc) rc && Nat.ble (n + cms) rs))))) (sp [.ref 0] [.inr (ci, fs)] (fun v es' => match v with
      | none => (match es' with
        | e0 :: new => gforce (es.set b (renE (gren b len) e0) ++ new.map (renE (gren b len))) (fun es2 => N L S' es2 (k + cmc) (n + cms))
        | [] => False)
      | some _ => False))
    | _ => False)
  | _ => False
/-- behind a constructor -/
theorem g_joinI {D : va_G} {cA : Nat → ClassId} {ad adc : Nat → Nat} {es new : List gE} {e0 : gE} {b ci : Nat} {fs : List Value} {A : Nat → Prop} {H0 H H1 : Heap} {locs : List Loc} (hb : es[b]? = some (.inr (ci, fs))) (hwf : es.all (wfE es.length) = true) (hP : va_P D vwCl (gw cA ad es) H) (hD : va_D A (gw cA ad es)) (hS : va_S A H0 H locs) (hA : ∀ q, H0.size ≤ q → A q) (h0 : adc 0 = ad b)
    (hk : ∀ q : Nat, q < H.size → ¬ va_A (gw cA (fun _ => ad b) [.inr (ci, fs)]) H.size q → H1[q]? = H[q]?) (hP1 : va_P D vwCl (gw cA adc (e0 :: new)) H1) (hD1 : va_D (va_A (gw cA (fun _ => ad b) [.inr (ci, fs)]) H.size) (gw cA adc (e0 :: new))) :
    ∃ ad' : Nat → Nat, (∀ i, i < es.length → ad' i = ad i) ∧ va_P D vwCl (gw cA ad' (es.set b (renE (gren b es.length) e0) ++ new.map (renE (gren b es.length)))) H1 ∧ va_D A (gw cA ad' (es.set b (renE (gren b es.length) e0) ++ new.map (renE (gren b es.length)))) := by
  have hbl : b < es.length := (List.getElem?_eq_some_iff.mp hb).1
  obtain ⟨ad', had'⟩ : ∃ ad' : Nat → Nat, ad' = fun i => if i < es.length then ad i else adc (1 + (i - es.length)) := ⟨_, rfl⟩
  have ho : ∀ i, i < es.length → ad' i = ad i := fun i hi => by rw [had']; exact if_pos hi
  have hn : ∀ j, ad' (es.length + j) = adc (j + 1) := fun j => by
    rw [had']
    show (if es.length + j < es.length then _ else _) = _
    rw [if_neg (by omega), Nat.add_sub_cancel_left, Nat.add_comm]
  have hren : (fun k => ad' (gren b es.length k)) = adc := by
    funext k
    cases k with
    | zero => show ad' b = adc 0; rw [ho b hbl, h0]
    | succ j => exact hn j
  have hA1 : ∀ q, va_A (gw cA (fun _ => ad b) [.inr (ci, fs)]) H.size q → q = ad b ∨ H.size ≤ q := by
    intro q h
    rcases h with ⟨k, e, h⟩ | h
    · rw [gw_at] at h
      cases k with
      | zero =>
        simp only [List.getElem?_cons_zero, Option.map_some] at h
        exact Or.inl (congrArg Prod.fst (Option.some.inj h)).symm
      | succ k => simp at h
    · exact Or.inr h
  -- the cells of the new world, by their numbers
  have cell : ∀ (i : Nat) (q : Nat × va_E), (gw cA ad' (es.set b (renE (gren b es.length) e0) ++ new.map (renE (gren b es.length))))[i]? = some q → (i < es.length ∧ i ≠ b ∧ (gw cA ad es)[i]? = some q) ∨ (i = b ∧ q = (ad b, ge cA adc e0)) ∨ ∃ j e, i = es.length + j ∧ new[j]? = some e ∧ q = (adc (j + 1), ge cA adc e) := by
    intro i q h
    rw [gw_at] at h
    by_cases hi : i < es.length
    · rw [List.getElem?_append_left (by simpa using hi), List.getElem?_set] at h
      by_cases hib : b = i
      · subst hib
        rw [if_pos rfl, if_pos hbl] at h
        refine Or.inr (Or.inl ⟨rfl, ?_⟩)
        have := Option.some.inj h
        rw [← this]
        show (ad' b, ge cA ad' (renE (gren b es.length) e0)) = _
        rw [ren_e, hren, ho b hbl]
      · rw [if_neg hib] at h
        refine Or.inl ⟨hi, fun z => hib z.symm, ?_⟩
        rw [gw_at, ← h]
        cases he : es[i]? with
        | none => rfl
        | some e =>
          have hw : wfE es.length e = true := List.all_eq_true.mp hwf _ (List.mem_of_getElem? he)
          simp only [Option.map_some]
          rw [ho i hi, wf_e ho hw]
    · rw [List.getElem?_append_right (by simpa using hi)] at h
      simp only [List.length_set, List.getElem?_map] at h
      cases he : new[i - es.length]? with
      | none => rw [he] at h; cases h
      | some e =>
        rw [he] at h
        refine Or.inr (Or.inr ⟨i - es.length, e, by omega, he, ?_⟩)
        have := Option.some.inj h
        rw [← this]
        show (ad' i, ge cA ad' (renE (gren b es.length) e)) = _
        rw [ren_e, hren]
        rw [show i = es.length + (i - es.length) by omega, hn]
        simp
  have at0 : (gw cA adc (e0 :: new))[0]? = some (adc 0, ge cA adc e0) := gw_get rfl
  have atn : ∀ (j : Nat) (e : gE), new[j]? = some e → (gw cA adc (e0 :: new))[j + 1]? = some (adc (j + 1), ge cA adc e) := fun j e h => gw_get (by simpa using h)
  have oldlt : ∀ (i : Nat) (q : Nat × va_E), (gw cA ad es)[i]? = some q → q.1 < H.size := fun i q h => (hP i q h).lt
  have oldne : ∀ (i : Nat) (q : Nat × va_E), i ≠ b → (gw cA ad es)[i]? = some q → q.1 ≠ ad b := fun i q hi h z => hi (hD.1 i b q _ h (gw_get hb) z)
  have newge : ∀ (j : Nat) (e : gE), new[j]? = some e → H.size ≤ adc (j + 1) := fun j e h => by
    rcases hA1 _ (hD1.2 (j + 1) _ (atn j e h)) with z | z
    · exfalso
      have := hD1.1 (j + 1) 0 _ _ (atn j e h) at0 (z.trans h0.symm)
      omega
    · exact z
  refine ⟨ad', ho, fun i q h => ?_, fun i j p q hp hq hpq => ?_, fun i q h => ?_⟩
  · rcases cell i q h with ⟨h1, h2, h3⟩ | ⟨h1, h2⟩ | ⟨j, e, h1, h2, h3⟩
    · refine (hP i q h3).kept (hk q.1 (oldlt i q h3) (fun z => ?_))
      rcases hA1 _ z with z | z
      · exact oldne i q h2 h3 z
      · have := oldlt i q h3
        omega
    · rw [h2, ← h0]
      exact hP1 0 _ at0
    · rw [h3]
      exact hP1 (j + 1) _ (atn j e h2)
  · rcases cell i p hp with ⟨h1, h2, h3⟩ | ⟨h1, h2⟩ | ⟨x, e, h1, h2, h3⟩ <;> rcases cell j q hq with ⟨g1, g2, g3⟩ | ⟨g1, g2⟩ | ⟨y, f, g1, g2, g3⟩
    · exact hD.1 i j p q h3 g3 hpq
    · exact absurd (hpq.trans (by rw [g2])) (oldne i p h2 h3)
    · have a1 := oldlt i p h3
      have a2 := newge y f g2
      rw [g3] at hpq
      simp only at hpq
      omega
    · exact absurd (hpq.symm.trans (by rw [h2])) (oldne j q g2 g3)
    · omega
    · have a2 := newge y f g2
      have a1 := oldlt b _ (gw_get hb)
      rw [h2, g3] at hpq
      simp only at hpq a1
      omega
    · have a1 := oldlt j q g3
      have a2 := newge x e h2
      rw [h3] at hpq
      simp only at hpq
      omega
    · have a2 := newge x e h2
      have a1 := oldlt b _ (gw_get hb)
      rw [h3, g2] at hpq
      simp only at hpq a1
      omega
    · rw [h3, g3] at hpq
      have := hD1.1 (x + 1) (y + 1) _ _ (atn x e h2) (atn y f g2) hpq
      omega
  · rcases cell i q h with ⟨h1, h2, h3⟩ | ⟨h1, h2⟩ | ⟨j, e, h1, h2, h3⟩
    · exact hD.2 i q h3
    · rw [h2]
      show A (ad b)
      exact hD.2 b (ad b, ge cA ad (.inr (ci, fs))) (gw_get hb)
    · rw [h3]
      exact hA _ (Nat.le_trans hS.1 (newge j e h2))
theorem ok_callI (hM : gM X l0 cc own Ts R0) {n0 : Nat} (hA0 : gN0 X n0) {y : MethodName} {ws ws' : List Cond} {rm : Room} {bytes : ByteArray} {maxL index cmc cms : Nat} {sp : gS} (hC : Ct l0 y ws rm cmc cms true sp) (hG : GoodIn Ts ws) (hw : ws = Cond.code y bytes maxL none :: ws') (hrc : rm.cells = cmc) (hrs : rm.slots = cms) (hlink : Cond.methodLink own index y ∈ Ts) (hini : Cond.initialized y.cls ∈ Ts) (hin : Cond.instanceMethod y ∈ Ts) (hy1 : y.name = "<init>")
    (hdy : y.cls ≠ "java/lang/invoke/MethodHandle" ∧ y.cls ≠ "java/lang/invoke/VarHandle" ∧ (parseMethodDescriptor y.desc).map (fun d => d.parameters.length) = some 0) (hRm : rm.frames + 1 ≤ R0.frames ∧ 8 + (maxL + 11) + rm.locals ≤ R0.locals) (hd : decode cc pc = .ok (.invokespecial index, 3)) :
    okO X pc (pc + 3) (oCallI R0.cells R0.slots cmc cms n0 sp) := by
  obtain ⟨p, l, e, R, s, m, args, below, meth, c, D, cA, A, ag, ad0, Q, nL⟩ := X
  obtain ⟨hx, hb, hown, hts, hml, hlk, hY, hA, hR, hL0⟩ := hM
  subst hR
  subst hL0
  intro J N hJ hN L S es k n h ad H locs ls hag hP hD hS hl
  unfold oCallI at h
  split at h
  · rename_i b S'
    split at h
    · rename_i ci fs hes
      rw [gnth_eq] at hes
      obtain ⟨len, rfl, h⟩ := h
      obtain ⟨h1, h⟩ := bif_t (b := wfS es.length L S' es && (fs.all (wfv 0) && (Nat.ble n0 es.length && (Nat.ble (scat S') 8 && (Nat.ble (k + cmc) R.cells && Nat.ble (n + cms) R.slots))))) h
      obtain ⟨h1, h2⟩ := and_t h1
      obtain ⟨hw1, h1⟩ := and_t h1
      obtain ⟨hw2, hw3⟩ := and_t h1
      obtain ⟨hnv, h2⟩ := and_t h2
      obtain ⟨hn0, h2⟩ := and_t h2
      obtain ⟨hsc, h2⟩ := and_t h2
      obtain ⟨hk1, hk2⟩ := and_t h2
      have hn0 := Nat.le_of_ble_eq_true hn0
      have hMet := hC D cA (fun _ => ad b) H.size _ _ _ h
      have hge : ∀ ad9 : Nat → Nat, ge cA ad9 (.inr (ci, fs)) = .inr (ci, fs) := fun ad9 => by simp only [ge]; rw [nov hnv]
      have hsub : ∀ (j : Nat) (q : Nat × va_E), (gw cA (fun _ => ad b) [.inr (ci, fs)])[j]? = some q → j = 0 ∧ q = (ad b, .inr (ci, fs)) := fun j q hj => by
        rw [gw_at] at hj
        cases j with
        | zero =>
          simp only [List.getElem?_cons_zero, Option.map_some, hge] at hj
          exact ⟨rfl, (Option.some.inj hj).symm⟩
        | succ j => simp at hj
      have hbw : (gw cA ad es)[b]? = some (ad b, .inr (ci, fs)) := by rw [gw_get hes, hge]
      have hF : ∀ q, va_A (gw cA (fun _ => ad b) [.inr (ci, fs)]) H.size q → A q := by
        intro q hq
        rcases hq with ⟨j, e9, hq⟩ | hq
        · have := (hsub j _ hq).2
          rw [show q = ad b from congrArg Prod.fst this]
          exact hD.2 b _ hbw
        · exact hA q (Nat.le_trans hS.1 hq)
      have hcb := cwI (R := R) (own := own) (index := index) (maxL := maxL) 0 hts hG hw hrc hrs (hts _ hini) (hts _ hlink) (hts _ hin) hy1 hdy hRm
      refine g_call (va_runI (As := []) (rest := S'.map (gv ad)) (b := ad b) ⟨hx, hb, hml, hown, hts⟩ hMet hcb ⟨gPc_blind, fun U hU hW => ?_⟩ rfl rfl hl.1 rfl (lv_room (by rw [scat_eq]; exact Nat.le_of_ble_eq_true hsc)) hd ⟨Nat.le_of_ble_eq_true hk1, Nat.le_of_ble_eq_true hk2⟩) hS hF (fun v es' ad' H1 locs1 hKv hag' hP1 hD1 hz hk hS1 => ?_)
      · refine ⟨rfl, by rw [hU], ?_, gY.call hY hS hF hW hU, ⟨fun i j x y hi hj _ => ?_, fun _ _ _ => trivial⟩⟩
        · rw [hU]
          intro j q hj
          rw [(hsub j q hj).2]
          exact hP b _ hbw
        · rw [(hsub i x hi).1, (hsub j y hj).1]
      · cases v with
        | some v => exact hKv.elim
        | none =>
          cases es' with
          | nil => exact hKv.elim
          | cons e0 new =>
            have hKv : gforce (es.set b (renE (gren b es.length) e0) ++ new.map (renE (gren b es.length))) (fun es2 => N L S' es2 (k + cmc) (n + cms)) := hKv
            rw [gforce_eq] at hKv
            obtain ⟨ad2, ho, hP2, hD2⟩ := g_joinI hes hw1 hP hD hS hA (hag' 0 (Nat.zero_lt_one)) hk hP1 hD1
            have h3 := hN _ _ _ _ _ hKv ad2 H1 locs1 ls (fun i hi => by rw [ho i (Nat.lt_of_lt_of_le (hA0 i hi) hn0)]; exact hag i hi) hP2 hD2 hS1 (by rw [wf_l ho hw3]; exact hl)
            rw [wf_vs ho hw2] at h3
            exact h3
    · exact h.elim
  · exact h.elim
theorem ok_callIN (hM : gM X l0 cc own Ts R0) {n0 : Nat} (hA0 : gN0 X n0) {y : MethodName} {ws ws' : List Cond} {rm : Room} {bytes : ByteArray} {maxL index cmc cms : Nat} {sp : gS} (hC : Ct l0 y ws rm cmc cms true sp) (hG : GoodIn Ts ws) (hw : ws = Cond.code y bytes maxL none :: ws') (hrc : rm.cells = cmc) (hrs : rm.slots = cms) (hnest : (own, index, y) ∈ gNest) (hini : Cond.initialized y.cls ∈ Ts) (hin : Cond.instanceMethod y ∈ Ts) (hy1 : y.name = "<init>")
    (hdy : y.cls ≠ "java/lang/invoke/MethodHandle" ∧ y.cls ≠ "java/lang/invoke/VarHandle" ∧ (parseMethodDescriptor y.desc).map (fun d => d.parameters.length) = some 0) (hRm : rm.frames + 1 ≤ R0.frames ∧ 8 + (maxL + 11) + rm.locals ≤ R0.locals) (hd : decode cc pc = .ok (.invokespecial index, 3)) :
    okO X pc (pc + 3) (oCallI R0.cells R0.slots cmc cms n0 sp) := by
  obtain ⟨p, l, e, R, s, m, args, below, meth, c, D, cA, A, ag, ad0, Q, nL⟩ := X
  obtain ⟨hx, hb, hown, hts, hml, hlk, hY, hA, hR, hL0⟩ := hM
  subst hR
  subst hL0
  intro J N hJ hN L S es k n h ad H locs ls hag hP hD hS hl
  unfold oCallI at h
  split at h
  · rename_i b S'
    split at h
    · rename_i ci fs hes
      rw [gnth_eq] at hes
      obtain ⟨len, rfl, h⟩ := h
      obtain ⟨h1, h⟩ := bif_t (b := wfS es.length L S' es && (fs.all (wfv 0) && (Nat.ble n0 es.length && (Nat.ble (scat S') 8 && (Nat.ble (k + cmc) R.cells && Nat.ble (n + cms) R.slots))))) h
      obtain ⟨h1, h2⟩ := and_t h1
      obtain ⟨hw1, h1⟩ := and_t h1
      obtain ⟨hw2, hw3⟩ := and_t h1
      obtain ⟨hnv, h2⟩ := and_t h2
      obtain ⟨hn0, h2⟩ := and_t h2
      obtain ⟨hsc, h2⟩ := and_t h2
      obtain ⟨hk1, hk2⟩ := and_t h2
      have hn0 := Nat.le_of_ble_eq_true hn0
      have hMet := hC D cA (fun _ => ad b) H.size _ _ _ h
      have hge : ∀ ad9 : Nat → Nat, ge cA ad9 (.inr (ci, fs)) = .inr (ci, fs) := fun ad9 => by simp only [ge]; rw [nov hnv]
      have hsub : ∀ (j : Nat) (q : Nat × va_E), (gw cA (fun _ => ad b) [.inr (ci, fs)])[j]? = some q → j = 0 ∧ q = (ad b, .inr (ci, fs)) := fun j q hj => by
        rw [gw_at] at hj
        cases j with
        | zero =>
          simp only [List.getElem?_cons_zero, Option.map_some, hge] at hj
          exact ⟨rfl, (Option.some.inj hj).symm⟩
        | succ j => simp at hj
      have hbw : (gw cA ad es)[b]? = some (ad b, .inr (ci, fs)) := by rw [gw_get hes, hge]
      have hF : ∀ q, va_A (gw cA (fun _ => ad b) [.inr (ci, fs)]) H.size q → A q := by
        intro q hq
        rcases hq with ⟨j, e9, hq⟩ | hq
        · have := (hsub j _ hq).2
          rw [show q = ad b from congrArg Prod.fst this]
          exact hD.2 b _ hbw
        · exact hA q (Nat.le_trans hS.1 hq)
      have hcb := va_cnB (R := R) (own := own) (index := index) (host := RX6) (maxL := maxL) 0 hts hG hw hrc hrs (hY.2.1.1 _ hnest) (hts _ hini) hdy hRm
      refine g_call (va_runIN (As := []) (rest := S'.map (gv ad)) (b := ad b) ⟨hx, hb, hml, hown, hts⟩ hMet ⟨hcb, hy1, hts _ hin⟩ ⟨gPc_blind, fun U hU hW => ?_⟩ rfl rfl hl.1 rfl (lv_room (by rw [scat_eq]; exact Nat.le_of_ble_eq_true hsc)) hd ⟨Nat.le_of_ble_eq_true hk1, Nat.le_of_ble_eq_true hk2⟩) hS hF (fun v es' ad' H1 locs1 hKv hag' hP1 hD1 hz hk hS1 => ?_)
      · refine ⟨rfl, by rw [hU], ?_, gY.call hY hS hF hW hU, ⟨fun i j x y hi hj _ => ?_, fun _ _ _ => trivial⟩⟩
        · rw [hU]
          intro j q hj
          rw [(hsub j q hj).2]
          exact hP b _ hbw
        · rw [(hsub i x hi).1, (hsub j y hj).1]
      · cases v with
        | some v => exact hKv.elim
        | none =>
          cases es' with
          | nil => exact hKv.elim
          | cons e0 new =>
            have hKv : gforce (es.set b (renE (gren b es.length) e0) ++ new.map (renE (gren b es.length))) (fun es2 => N L S' es2 (k + cmc) (n + cms)) := hKv
            rw [gforce_eq] at hKv
            obtain ⟨ad2, ho, hP2, hD2⟩ := g_joinI hes hw1 hP hD hS hA (hag' 0 (Nat.zero_lt_one)) hk hP1 hD1
            have h3 := hN _ _ _ _ _ hKv ad2 H1 locs1 ls (fun i hi => by rw [ho i (Nat.lt_of_lt_of_le (hA0 i hi) hn0)]; exact hag i hi) hP2 hD2 hS1 (by rw [wf_l ho hw3]; exact hl)
            rw [wf_vs ho hw2] at h3
            exact h3
    · exact h.elim
  · exact h.elim
end GA
end
