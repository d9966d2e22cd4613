section
-- ===== PART A: goes FIRST, ahead of the names: the tables' words, and 'selects' of the private methods out of them =====
/-- a private method of a class that the tables say can be made, by its rows of tables_1 -/
def lw_okq (q : MethodName × Nat) : Prop := (q.1.cls ≠ "java/lang/invoke/MethodHandle" ∧ q.1.cls ≠ "java/lang/invoke/VarHandle") ∧ Cond.instantiable q.1.cls q.2 ∈ tables_1 ∧ Cond.privateMethod q.1 ∈ tables_1 ∧ Cond.instanceMethod q.1 ∈ tables_1
theorem lw_p0 : lw_okq (⟨"PartitionedCache", "moveOneWay", "()I"⟩, 6) := ⟨⟨by decide +kernel, by decide +kernel⟩, List.mem_of_getElem? (i := 18) (by decide +kernel), List.mem_of_getElem? (i := 186) (by decide +kernel), List.mem_of_getElem? (i := 187) (by decide +kernel)⟩
theorem lw_p1 : lw_okq (⟨"PartitionedCache$Targets", "growOne", "(LPartitionedCache$Monitors;I)I"⟩, 1) := ⟨⟨by decide +kernel, by decide +kernel⟩, List.mem_of_getElem? (i := 95) (by decide +kernel), List.mem_of_getElem? (i := 194) (by decide +kernel), List.mem_of_getElem? (i := 195) (by decide +kernel)⟩
theorem lw_p2 : lw_okq (⟨"PartitionedCache$Targets", "lowest", "()I"⟩, 1) := ⟨⟨by decide +kernel, by decide +kernel⟩, List.mem_of_getElem? (i := 95) (by decide +kernel), List.mem_of_getElem? (i := 198) (by decide +kernel), List.mem_of_getElem? (i := 199) (by decide +kernel)⟩
theorem lw_p3 : lw_okq (⟨"PartitionedCache", "deficitOf", "(I)I"⟩, 6) := ⟨⟨by decide +kernel, by decide +kernel⟩, List.mem_of_getElem? (i := 18) (by decide +kernel), List.mem_of_getElem? (i := 202) (by decide +kernel), List.mem_of_getElem? (i := 203) (by decide +kernel)⟩
theorem lw_p4 : lw_okq (⟨"java/lang/Throwable", "fillInStackTrace", "(I)Ljava/lang/Throwable;"⟩, 6) := ⟨⟨by decide +kernel, by decide +kernel⟩, List.mem_of_getElem? (i := 345) (by decide +kernel), List.mem_of_getElem? (i := 343) (by decide +kernel), List.mem_of_getElem? (i := 344) (by decide +kernel)⟩
theorem lw_p5 : lw_okq (⟨"PartitionedCache", "makeAccess", "(II)I"⟩, 6) := ⟨⟨by decide +kernel, by decide +kernel⟩, List.mem_of_getElem? (i := 18) (by decide +kernel), List.mem_of_getElem? (i := 394) (by decide +kernel), List.mem_of_getElem? (i := 395) (by decide +kernel)⟩
theorem lw_p6 : lw_okq (⟨"PartitionedCache", "bringIn", "(II)V"⟩, 6) := ⟨⟨by decide +kernel, by decide +kernel⟩, List.mem_of_getElem? (i := 18) (by decide +kernel), List.mem_of_getElem? (i := 421) (by decide +kernel), List.mem_of_getElem? (i := 422) (by decide +kernel)⟩
theorem lw_p7 : lw_okq (⟨"PartitionedCache", "runCommand", "(I)I"⟩, 6) := ⟨⟨by decide +kernel, by decide +kernel⟩, List.mem_of_getElem? (i := 18) (by decide +kernel), List.mem_of_getElem? (i := 509) (by decide +kernel), List.mem_of_getElem? (i := 510) (by decide +kernel)⟩
theorem lw_p8 : lw_okq (⟨"PartitionedCacheModel", "fails", "(I)I"⟩, 11) := ⟨⟨by decide +kernel, by decide +kernel⟩, List.mem_of_getElem? (i := 646) (by decide +kernel), List.mem_of_getElem? (i := 697) (by decide +kernel), List.mem_of_getElem? (i := 698) (by decide +kernel)⟩
theorem lw_p9 : lw_okq (⟨"PartitionedCacheModel", "record", "()V"⟩, 11) := ⟨⟨by decide +kernel, by decide +kernel⟩, List.mem_of_getElem? (i := 646) (by decide +kernel), List.mem_of_getElem? (i := 701) (by decide +kernel), List.mem_of_getElem? (i := 702) (by decide +kernel)⟩
theorem lw_p10 : lw_okq (⟨"PartitionedCacheModel", "visits", "(II)I"⟩, 11) := ⟨⟨by decide +kernel, by decide +kernel⟩, List.mem_of_getElem? (i := 646) (by decide +kernel), List.mem_of_getElem? (i := 705) (by decide +kernel), List.mem_of_getElem? (i := 706) (by decide +kernel)⟩
theorem lw_p11 : lw_okq (⟨"PartitionedCacheModel", "watch", "(II)V"⟩, 11) := ⟨⟨by decide +kernel, by decide +kernel⟩, List.mem_of_getElem? (i := 646) (by decide +kernel), List.mem_of_getElem? (i := 709) (by decide +kernel), List.mem_of_getElem? (i := 710) (by decide +kernel)⟩
theorem lw_p12 : lw_okq (⟨"PartitionedCacheModel", "wouldBe", "(II)I"⟩, 11) := ⟨⟨by decide +kernel, by decide +kernel⟩, List.mem_of_getElem? (i := 646) (by decide +kernel), List.mem_of_getElem? (i := 713) (by decide +kernel), List.mem_of_getElem? (i := 714) (by decide +kernel)⟩
theorem lw_p13 : lw_okq (⟨"PartitionedCacheModel", "find", "(II)I"⟩, 11) := ⟨⟨by decide +kernel, by decide +kernel⟩, List.mem_of_getElem? (i := 646) (by decide +kernel), List.mem_of_getElem? (i := 717) (by decide +kernel), List.mem_of_getElem? (i := 718) (by decide +kernel)⟩
theorem lw_p14 : lw_okq (⟨"PartitionedCacheModel", "owned", "(I)I"⟩, 11) := ⟨⟨by decide +kernel, by decide +kernel⟩, List.mem_of_getElem? (i := 646) (by decide +kernel), List.mem_of_getElem? (i := 721) (by decide +kernel), List.mem_of_getElem? (i := 722) (by decide +kernel)⟩
theorem lw_p15 : lw_okq (⟨"PartitionedCacheModel", "put", "(II)V"⟩, 11) := ⟨⟨by decide +kernel, by decide +kernel⟩, List.mem_of_getElem? (i := 646) (by decide +kernel), List.mem_of_getElem? (i := 725) (by decide +kernel), List.mem_of_getElem? (i := 726) (by decide +kernel)⟩
def lw_privs_1 : List (MethodName × Nat) := [(⟨"PartitionedCache", "moveOneWay", "()I"⟩, 6), (⟨"PartitionedCache$Targets", "growOne", "(LPartitionedCache$Monitors;I)I"⟩, 1), (⟨"PartitionedCache$Targets", "lowest", "()I"⟩, 1), (⟨"PartitionedCache", "deficitOf", "(I)I"⟩, 6), (⟨"java/lang/Throwable", "fillInStackTrace", "(I)Ljava/lang/Throwable;"⟩, 6), (⟨"PartitionedCache", "makeAccess", "(II)I"⟩, 6), (⟨"PartitionedCache", "bringIn", "(II)V"⟩, 6), (⟨"PartitionedCache", "runCommand", "(I)I"⟩, 6), (⟨"PartitionedCacheModel", "fails", "(I)I"⟩, 11), (⟨"PartitionedCacheModel", "record", "()V"⟩, 11), (⟨"PartitionedCacheModel", "visits", "(II)I"⟩, 11), (⟨"PartitionedCacheModel", "watch", "(II)V"⟩, 11), (⟨"PartitionedCacheModel", "wouldBe", "(II)I"⟩, 11), (⟨"PartitionedCacheModel", "find", "(II)I"⟩, 11), (⟨"PartitionedCacheModel", "owned", "(I)I"⟩, 11), (⟨"PartitionedCacheModel", "put", "(II)V"⟩, 11)]
theorem lw_r1 : ∀ q ∈ lw_privs_1, lw_okq q := List.forall_mem_cons.mpr ⟨lw_p0, List.forall_mem_cons.mpr ⟨lw_p1, List.forall_mem_cons.mpr ⟨lw_p2, List.forall_mem_cons.mpr ⟨lw_p3, List.forall_mem_cons.mpr ⟨lw_p4, List.forall_mem_cons.mpr ⟨lw_p5, List.forall_mem_cons.mpr ⟨lw_p6, List.forall_mem_cons.mpr ⟨lw_p7, List.forall_mem_cons.mpr ⟨lw_p8, List.forall_mem_cons.mpr ⟨lw_p9, List.forall_mem_cons.mpr ⟨lw_p10, List.forall_mem_cons.mpr ⟨lw_p11, List.forall_mem_cons.mpr ⟨lw_p12, List.forall_mem_cons.mpr ⟨lw_p13, List.forall_mem_cons.mpr ⟨lw_p14, List.forall_mem_cons.mpr ⟨lw_p15, fun _ h => absurd h List.not_mem_nil⟩⟩⟩⟩⟩⟩⟩⟩⟩⟩⟩⟩⟩⟩⟩⟩
theorem lw_p16 : lw_okq (⟨"PartitionedCacheModel", "placeFor", "(II)I"⟩, 11) := ⟨⟨by decide +kernel, by decide +kernel⟩, List.mem_of_getElem? (i := 646) (by decide +kernel), List.mem_of_getElem? (i := 729) (by decide +kernel), List.mem_of_getElem? (i := 730) (by decide +kernel)⟩
theorem lw_p17 : lw_okq (⟨"PartitionedCacheModel", "move", "()I"⟩, 11) := ⟨⟨by decide +kernel, by decide +kernel⟩, List.mem_of_getElem? (i := 646) (by decide +kernel), List.mem_of_getElem? (i := 733) (by decide +kernel), List.mem_of_getElem? (i := 734) (by decide +kernel)⟩
theorem lw_p18 : lw_okq (⟨"PartitionedCacheModel", "findTargets", "()V"⟩, 11) := ⟨⟨by decide +kernel, by decide +kernel⟩, List.mem_of_getElem? (i := 646) (by decide +kernel), List.mem_of_getElem? (i := 737) (by decide +kernel), List.mem_of_getElem? (i := 738) (by decide +kernel)⟩
theorem lw_p19 : lw_okq (⟨"PartitionedCacheModel", "giveSome", "(I)I"⟩, 11) := ⟨⟨by decide +kernel, by decide +kernel⟩, List.mem_of_getElem? (i := 646) (by decide +kernel), List.mem_of_getElem? (i := 741) (by decide +kernel), List.mem_of_getElem? (i := 742) (by decide +kernel)⟩
theorem lw_p20 : lw_okq (⟨"PartitionedCacheModel", "gained", "(II)I"⟩, 11) := ⟨⟨by decide +kernel, by decide +kernel⟩, List.mem_of_getElem? (i := 646) (by decide +kernel), List.mem_of_getElem? (i := 745) (by decide +kernel), List.mem_of_getElem? (i := 746) (by decide +kernel)⟩
theorem lw_p21 : lw_okq (⟨"PartitionedCacheModel", "lowestTarget", "()I"⟩, 11) := ⟨⟨by decide +kernel, by decide +kernel⟩, List.mem_of_getElem? (i := 646) (by decide +kernel), List.mem_of_getElem? (i := 749) (by decide +kernel), List.mem_of_getElem? (i := 750) (by decide +kernel)⟩
theorem lw_p22 : lw_okq (⟨"PartitionedCacheModel", "deficit", "(I)I"⟩, 11) := ⟨⟨by decide +kernel, by decide +kernel⟩, List.mem_of_getElem? (i := 646) (by decide +kernel), List.mem_of_getElem? (i := 753) (by decide +kernel), List.mem_of_getElem? (i := 754) (by decide +kernel)⟩
theorem lw_p23 : lw_okq (⟨"PartitionedCacheModel", "linesIn", "(II)I"⟩, 11) := ⟨⟨by decide +kernel, by decide +kernel⟩, List.mem_of_getElem? (i := 646) (by decide +kernel), List.mem_of_getElem? (i := 757) (by decide +kernel), List.mem_of_getElem? (i := 758) (by decide +kernel)⟩
theorem lw_p24 : lw_okq (⟨"PartitionedCacheModel", "halve", "()I"⟩, 11) := ⟨⟨by decide +kernel, by decide +kernel⟩, List.mem_of_getElem? (i := 646) (by decide +kernel), List.mem_of_getElem? (i := 761) (by decide +kernel), List.mem_of_getElem? (i := 762) (by decide +kernel)⟩
theorem lw_p25 : lw_okq (⟨"PartitionedCacheModel", "flushes", "(I)I"⟩, 11) := ⟨⟨by decide +kernel, by decide +kernel⟩, List.mem_of_getElem? (i := 646) (by decide +kernel), List.mem_of_getElem? (i := 773) (by decide +kernel), List.mem_of_getElem? (i := 774) (by decide +kernel)⟩
theorem lw_p26 : lw_okq (⟨"PartitionedCacheModel", "isValid", "()Z"⟩, 11) := ⟨⟨by decide +kernel, by decide +kernel⟩, List.mem_of_getElem? (i := 646) (by decide +kernel), List.mem_of_getElem? (i := 809) (by decide +kernel), List.mem_of_getElem? (i := 810) (by decide +kernel)⟩
theorem lw_p27 : lw_okq (⟨"PartitionedCacheModel", "command", "()I"⟩, 11) := ⟨⟨by decide +kernel, by decide +kernel⟩, List.mem_of_getElem? (i := 646) (by decide +kernel), List.mem_of_getElem? (i := 813) (by decide +kernel), List.mem_of_getElem? (i := 814) (by decide +kernel)⟩
theorem lw_p28 : lw_okq (⟨"PartitionedCacheModel", "takes", "(I)Z"⟩, 11) := ⟨⟨by decide +kernel, by decide +kernel⟩, List.mem_of_getElem? (i := 646) (by decide +kernel), List.mem_of_getElem? (i := 817) (by decide +kernel), List.mem_of_getElem? (i := 818) (by decide +kernel)⟩
theorem lw_p29 : lw_okq (⟨"PartitionedCacheModel", "sees", "(II)Z"⟩, 11) := ⟨⟨by decide +kernel, by decide +kernel⟩, List.mem_of_getElem? (i := 646) (by decide +kernel), List.mem_of_getElem? (i := 821) (by decide +kernel), List.mem_of_getElem? (i := 822) (by decide +kernel)⟩
theorem lw_p30 : lw_okq (⟨"PartitionedCacheModel", "reads", "()Z"⟩, 11) := ⟨⟨by decide +kernel, by decide +kernel⟩, List.mem_of_getElem? (i := 646) (by decide +kernel), List.mem_of_getElem? (i := 825) (by decide +kernel), List.mem_of_getElem? (i := 826) (by decide +kernel)⟩
theorem lw_p31 : lw_okq (⟨"PartitionedCacheModel", "does", "(I)I"⟩, 11) := ⟨⟨by decide +kernel, by decide +kernel⟩, List.mem_of_getElem? (i := 646) (by decide +kernel), List.mem_of_getElem? (i := 833) (by decide +kernel), List.mem_of_getElem? (i := 834) (by decide +kernel)⟩
def lw_privs_2 : List (MethodName × Nat) := [(⟨"PartitionedCacheModel", "placeFor", "(II)I"⟩, 11), (⟨"PartitionedCacheModel", "move", "()I"⟩, 11), (⟨"PartitionedCacheModel", "findTargets", "()V"⟩, 11), (⟨"PartitionedCacheModel", "giveSome", "(I)I"⟩, 11), (⟨"PartitionedCacheModel", "gained", "(II)I"⟩, 11), (⟨"PartitionedCacheModel", "lowestTarget", "()I"⟩, 11), (⟨"PartitionedCacheModel", "deficit", "(I)I"⟩, 11), (⟨"PartitionedCacheModel", "linesIn", "(II)I"⟩, 11), (⟨"PartitionedCacheModel", "halve", "()I"⟩, 11), (⟨"PartitionedCacheModel", "flushes", "(I)I"⟩, 11), (⟨"PartitionedCacheModel", "isValid", "()Z"⟩, 11), (⟨"PartitionedCacheModel", "command", "()I"⟩, 11), (⟨"PartitionedCacheModel", "takes", "(I)Z"⟩, 11), (⟨"PartitionedCacheModel", "sees", "(II)Z"⟩, 11), (⟨"PartitionedCacheModel", "reads", "()Z"⟩, 11), (⟨"PartitionedCacheModel", "does", "(I)I"⟩, 11)]
theorem lw_r2 : ∀ q ∈ lw_privs_2, lw_okq q := List.forall_mem_cons.mpr ⟨lw_p16, List.forall_mem_cons.mpr ⟨lw_p17, List.forall_mem_cons.mpr ⟨lw_p18, List.forall_mem_cons.mpr ⟨lw_p19, List.forall_mem_cons.mpr ⟨lw_p20, List.forall_mem_cons.mpr ⟨lw_p21, List.forall_mem_cons.mpr ⟨lw_p22, List.forall_mem_cons.mpr ⟨lw_p23, List.forall_mem_cons.mpr ⟨lw_p24, List.forall_mem_cons.mpr ⟨lw_p25, List.forall_mem_cons.mpr ⟨lw_p26, List.forall_mem_cons.mpr ⟨lw_p27, List.forall_mem_cons.mpr ⟨lw_p28, List.forall_mem_cons.mpr ⟨lw_p29, List.forall_mem_cons.mpr ⟨lw_p30, List.forall_mem_cons.mpr ⟨lw_p31, fun _ h => absurd h List.not_mem_nil⟩⟩⟩⟩⟩⟩⟩⟩⟩⟩⟩⟩⟩⟩⟩⟩
theorem lw_p32 : lw_okq (⟨"PartitionedCacheModel", "allLines", "()I"⟩, 11) := ⟨⟨by decide +kernel, by decide +kernel⟩, List.mem_of_getElem? (i := 646) (by decide +kernel), List.mem_of_getElem? (i := 845) (by decide +kernel), List.mem_of_getElem? (i := 846) (by decide +kernel)⟩
theorem lw_p33 : lw_okq (⟨"PartitionedCacheModel", "linesOf", "(IZ)I"⟩, 11) := ⟨⟨by decide +kernel, by decide +kernel⟩, List.mem_of_getElem? (i := 646) (by decide +kernel), List.mem_of_getElem? (i := 849) (by decide +kernel), List.mem_of_getElem? (i := 850) (by decide +kernel)⟩
def lw_privs_3 : List (MethodName × Nat) := [(⟨"PartitionedCacheModel", "allLines", "()I"⟩, 11), (⟨"PartitionedCacheModel", "linesOf", "(IZ)I"⟩, 11)]
theorem lw_r3 : ∀ q ∈ lw_privs_3, lw_okq q := List.forall_mem_cons.mpr ⟨lw_p32, List.forall_mem_cons.mpr ⟨lw_p33, fun _ h => absurd h List.not_mem_nil⟩⟩
def lw_privs : List (MethodName × Nat) := lw_privs_1 ++ (lw_privs_2 ++ (lw_privs_3))
def lw_tbl : List Cond := k2_sels lw_privs ++ tables_1
theorem lw_privs_ok : ∀ q ∈ lw_privs, lw_okq q := by
  show ∀ q ∈ lw_privs_1 ++ (lw_privs_2 ++ (lw_privs_3)), lw_okq q
  exact List.forall_mem_append.mpr ⟨lw_r1, List.forall_mem_append.mpr ⟨lw_r2, lw_r3⟩⟩
/-- the streams that the claim lets the run draw from -/
abbrev lw_cs : List Choice := [Jvm.Choice.named "NaN.bits"]
theorem lw_bits : nanBits ∈ lw_cs := by first | decide | exact List.mem_cons_self | simp [lw_cs, nanBits]
-- ===== end of PART A; then your names; then what follows =====
end
section
/-! ===== BEGIN words of one list among another's, by their places ===== -/
theorem goodIn_r {big : List Cond} (ws : List Cond) (ps : List Nat) (hp : ws = ps.filterMap (fun i => big[i]?)) (h : ws.all goodWord = true) : GoodIn big ws := by
  intro w hw
  have h1 := List.all_eq_true.mp h w hw
  rw [hp] at hw
  obtain ⟨i, -, hi⟩ := List.mem_filterMap.mp hw
  have hm : w ∈ big := by first | exact List.mem_of_getElem? hi | exact List.getElem?_mem hi
  exact ⟨hm, good_of_word h1⟩
theorem goodIn_app {big a b : List Cond} (ha : GoodIn big a) (hb : GoodIn big b) : GoodIn big (a ++ b) := fun w h => (List.mem_append.mp h).elim (ha w) (hb w)
theorem goodIn_ca {big a b : List Cond} {c : Cond} (ha : GoodIn big (c :: a)) (hb : GoodIn big b) : GoodIn big (c :: (a ++ b)) := fun w h => (List.mem_cons.mp h).elim (fun e => ha w (List.mem_cons.mpr (Or.inl e))) (fun h => (List.mem_append.mp h).elim (fun h => ha w (List.mem_cons.mpr (Or.inr h))) (hb w))
theorem goodIn_sub {big ws : List Cond} (hm : ∀ w ∈ ws, w ∈ big) (h : ws.all goodWord = true) : GoodIn big ws := fun w hw => ⟨hm w hw, good_of_word (List.all_eq_true.mp h w hw)⟩
/-! ===== END ===== -/

/-! ===== BEGIN exceptions that leave a method, and their catching by the caller (launches without stack traces) ===== -/
section VXA
/-! The laws vx_back, vx_callV, vx_callS, vx_callSW, vx_throw0, vx_throwS follow proofs of the library, with one case more: JvmDerived/Free/Laws.lean (Back.of_free), Shelf42/LK1.lean (callV, callS), Shelf/KitTraced.lean (throwNew0V, throwNewS). -/
/-- where a method has thrown q: the class by its name, the cell, what was written, the world -/
def vx_T (XC : String → State → State → Prop) (st : State) (q : Addr) (t : State) (mc ms : Nat) (free : Addr → Prop) : Prop :=
  ∃ (E : String) (ce : Cell) (L : List Loc), XC E st t ∧ t.heap[q]? = some ce ∧ ce.vm = .none ∧ st.vm.findClass E = some ce.cls ∧ st.WarmedH t.vm ∧ st.sameButNew ({ t with vm := st.vm } : State) L mc ms ∧ ∀ z ∈ L, free z.base
def vx_Q (Qc : Array Value → State → Outcome → State → Prop) (XC : String → State → State → Prop) (mc ms : Nat) (free : Addr → Prop) : Array Value → State → Outcome → State → Prop := fun a st o t =>
  (Qc a st o t ∧ ∃ L, FrameEnd st o t L mc ms ∧ ∀ q ∈ L, free q.base) ∨ ∃ q, o = .threw q ∧ vx_T XC st q t mc ms free
/-- a callee that returns or throws -/
def vx_Met (l : Launch) (y : MethodName) (ws : List Cond) (rm : Room) (Pc : Array Value → State → Prop) (Qc : Array Value → State → Outcome → State → Prop) (XC : String → State → State → Prop) (mc ms : Nat) (free : Addr → Prop) : Prop :=
  MetFree l y (headSpec ws rm) Pc (fun _ _ _ _ _ => True) (vx_Q Qc XC mc ms free)
def vx_Post (XC : String → State → State → Prop) (mc ms : Nat) (free : Addr → Prop) : Pt → Array Value → Addr → Pt → Prop := fun A a q B =>
  ∃ (g : JFrame) (mk : MethodId) (t : State) (L : List Loc) (E : String) (ce : Cell), B.U.heap = t.heap ∧ B.U.vm = t.vm ∧ XC E (A.U.calling g mk a) t ∧ t.heap[q]? = some ce ∧ ce.vm = .none ∧ A.U.vm.findClass E = some ce.cls ∧ B.locs = A.locs ++ L ∧ (∀ z ∈ L, free z.base) ∧ B.cells = A.cells + mc ∧ B.slots = A.slots + ms
def vx_Back (l : Launch) (R : Room) (p : Program) (e : Env) (below : List Frame) (s : State) (sargs : Array Value) (y : MethodName) (len W9 : Nat)
    (Pre : Pt → Array Value → Prop) (Post : Pt → Array Value → Option Value → Pt → Prop) (PostX : Pt → Array Value → Addr → Pt → Prop) : Prop :=
  ∀ (m : MethodId) (meth : Method) (c : Code) (A : Pt) (g : JFrame) (ig : Instr) (mk : MethodId) (a : Array Value),
    Stand p l e R s m sargs below meth c A.U A.locs A.cells A.slots → g.method = m → g.locals.size = c.maxLocals → decode c.code g.pc = .ok (ig, len) →
    2 * g.monitorRoom + (g.stack.map fun v => v.category).sum ≤ W9 → A.U.methodNamed? y = some mk → Pre A a →
    (∃ (v : Option Value) (B : Pt), Stand p l e R s m sargs below meth c B.U B.locs B.cells B.slots ∧ Post A a v B ∧
      Steps p.tables e below (doInvoke e (A.U.setTop g) [] mk a).1 (B.U.setTop { g with pc := g.pc + len, stack := v.toList ++ g.stack })) ∨
    (∃ (q : Addr) (B : Pt), Stand p l e R s m sargs below meth c B.U B.locs B.cells B.slots ∧ PostX A a q B ∧
      Steps p.tables e below (doInvoke e (A.U.setTop g) [] mk a).1 ((B.U.setTop g).pushFrame (.throwing q)))
section Payer
variable {l : Launch} {R : Room} {p : Program} {e : Env} {below : List Frame} {s : State} {sargs : Array Value} {y : MethodName} {len W9 : Nat}
theorem vx_back {ws : List Cond} {rm : Room} {Pc : Array Value → State → Prop} {Qc : Array Value → State → Outcome → State → Prop} {XC : String → State → State → Prop} {mc ms : Nat} {free : Addr → Prop} {bytes : ByteArray} {maxL : Nat} {ret : Option FieldType}
    (hM : vx_Met l y ws rm Pc Qc XC mc ms free) (hblind : FrameBlind Pc) (hrc : rm.cells = mc) (hrs : rm.slots = ms)
    (hframes : rm.frames + 1 ≤ R.frames) (hlocals : W9 + (maxL + 11) + rm.locals ≤ R.locals)
    (hws : ∀ w ∈ ws, ∀ a' U, s.WarmedH U.vm → w.before a' U = true) (hcode : Cond.code y bytes maxL ret ∈ ws) (hinit : ∀ a' U, s.WarmedH U.vm → (Cond.initialized y.cls).before a' U = true) :
    vx_Back l R p e below s sargs y len W9 (PreOf R mc ms Pc) (PostOf Qc mc ms free) (vx_Post XC mc ms free) := by
  intro m meth c A g ig mk a X hg hsize hdg hW hn hp
  have h1 : (headSpec ws rm).pre.before a A.U = true := atoms_intro fun w hw => hws w hw _ _ X.warmed
  have h2 : (Cond.code y bytes maxL ret).before a A.U = true := hws _ hcode _ _ X.warmed
  have h3 : (Cond.initialized y.cls).before a A.U = true := hinit _ _ X.warmed
  have h4 : A.cells + (headSpec ws rm).room.cells ≤ R.cells := by rw [show (headSpec ws rm).room.cells = mc from hrc]; exact hp.1
  have h5 : A.slots + (headSpec ws rm).room.slots ≤ R.slots := by rw [show (headSpec ws rm).room.slots = ms from hrs]; exact hp.2.1
  have hPc : Pc a (A.U.calling g mk a) := hblind _ _ _ _ hp.2.2
  obtain ⟨U, Ls, c0, s0⟩ := A
  dsimp only [Pt.U, Pt.locs, Pt.cells, Pt.slots] at h1 h2 h3 h4 h5 X hn hPc ⊢
  obtain ⟨methY, cY, hmY, hcY, -, hlY, -, -, -, -⟩ := Cond.code_spec hn h2
  obtain ⟨kY, hkY, -⟩ := className_of_methodNamed hn
  have hinitY : kY.init = .initialized := Cond.initialized_spec (findClass_of_methodNamed hn) hkY h3
  have h : At U g.method c below := by rw [hg]; exact X.here
  have hlocals9 : W9 + (maxL + 11) + (headSpec ws rm).room.locals ≤ R.locals := hlocals
  have happ : (headSpec ws rm).appliesLoose y e.platform (U.calling g mk a) = true :=
    Spec.appliesLoose_calling (g := g) h hdg hn hkY hinitY
      (X.room_calling (g := g) (R' := (headSpec ws rm).room) hsize hmY hcY hframes (by rw [hlY]; omega) h4 h5) h1
  obtain ⟨mid, hmid⟩ := h.above
  have hfr : (U.setTop g).frames = (.java g :: mid) ++ below := by rw [State.frames_setTop' g h.top, hmid]; rfl
  obtain ⟨o, s₂, hsteps, -, hend, hq⟩ := Steps.callFree hM p X.admits X.cas X.clock (acts := []) hfr happ hPc trivial
  have hq' : vx_Q Qc XC mc ms free a (U.calling g mk a) o s₂ := hq
  rw [State.frames_setTop' g h.top] at hend
  obtain ⟨g₀, hg0⟩ := Option.isSome_iff_exists.mp h.top
  obtain ⟨r, hr⟩ := State.topJava?_eq_some.mp hg0
  have hr' : (({ U with heap := s₂.heap, slotsUsed := s₂.slotsUsed } : State).setVm s₂.vm).frames = .java g₀ :: r := hr
  rcases hq' with ⟨hqc, L, hfe, hL⟩ | ⟨q, rfl, E, ce, L, hx, hce, hcv, hcl, hW₂, hsm, hL⟩
  · obtain ⟨⟨v, rfl⟩, hW₂, e2, q2, q3, q4, q5, q6⟩ := id hfe
    have e3 : s₂ = ({ (U.calling g mk a).setFrames s₂.frames with heap := s₂.heap, slotsUsed := s₂.slotsUsed } : State).setVm s₂.vm := by
      have : s₂ = ({ s₂ with vm := (U.calling g mk a).vm } : State).setVm s₂.vm := rfl
      rw [e2] at this
      exact this
    obtain ⟨c₂, i₂, len₂, hc₂, hd₂, hf₂⟩ := hend
    have hW' : U.WarmedH s₂.vm := hW₂
    have hcc : c₂ = c := by
      have h1 : s₂.code? g.method = U.code? g.method := by
        rw [State.code?_eq, State.code?_eq, hW'.alike.method?]
      exact Option.some.inj (hc₂.symm.trans (h1.trans h.code))
    subst hcc
    have hlen : len₂ = len := by rw [hdg] at hd₂; cases hd₂; rfl
    subst hlen
    have hs₂ : s₂ = (({ U with heap := s₂.heap, slotsUsed := s₂.slotsUsed } : State).setVm s₂.vm).setTop { g with pc := g.pc + len₂, stack := v.toList ++ g.stack } := by
      refine e3.trans ?_
      rw [hf₂, State.calling_eq h.top, State.setFrames_setFrames, State.setTop_of_frames _ hr', hr]
      rfl
    have hsame : U.sameButNew ({ U with heap := s₂.heap, slotsUsed := s₂.slotsUsed } : State) L mc ms := by
      refine ⟨?_, q2, q3, q4, q5, q6⟩
      obtain ⟨t, ht, -⟩ := State.frames_cons hr
      show ({ U with heap := s₂.heap, slotsUsed := s₂.slotsUsed } : State) = { U.setFrames U.frames with heap := s₂.heap, slotsUsed := s₂.slotsUsed }
      rw [State.setFrames_self ht]
    subst hg
    refine Or.inl ⟨v, ⟨(({ U with heap := s₂.heap, slotsUsed := s₂.slotsUsed } : State).setVm s₂.vm), Ls ++ L, c0 + mc, s0 + ms⟩,
      ⟨X.admits, X.cas, X.clock, X.frames, X.room, X.hears, X.method, X.code, (X.here.setHeapUsed s₂.heap s₂.slotsUsed).setVm hW'.alike, X.tail, State.WarmedH.trans X.warmed hW', X.limits, X.bytes, X.same.trans (hsame.setVm s.vm)⟩,
      ⟨g, mk, s₂, L, rfl, rfl, hqc, rfl, hL, rfl, rfl⟩, ?_⟩
    show Steps p.tables e below _ ((({ U with heap := s₂.heap, slotsUsed := s₂.slotsUsed } : State).setVm s₂.vm).setTop { g with pc := g.pc + len₂, stack := v.toList ++ g.stack })
    rw [← hs₂]
    exact hsteps
  · obtain ⟨e2, q2, q3, q4, q5, q6⟩ := id hsm
    have e3 : s₂ = ({ (U.calling g mk a).setFrames s₂.frames with heap := s₂.heap, slotsUsed := s₂.slotsUsed } : State).setVm s₂.vm := by
      have : s₂ = ({ s₂ with vm := (U.calling g mk a).vm } : State).setVm s₂.vm := rfl
      rw [e2] at this
      exact this
    have hf₂ : s₂.frames = .throwing q :: .java g :: U.frames.tail := hend
    have hW' : U.WarmedH s₂.vm := hW₂
    have hs₂ : s₂ = ((({ U with heap := s₂.heap, slotsUsed := s₂.slotsUsed } : State).setVm s₂.vm).setTop g).pushFrame (.throwing q) := by
      refine e3.trans ?_
      rw [hf₂, State.calling_eq h.top, State.setFrames_setFrames, State.pushFrame, State.frames_setTop _ hr', State.setTop_of_frames _ hr', State.setFrames_setFrames, hr]
      rfl
    have hsame : U.sameButNew ({ U with heap := s₂.heap, slotsUsed := s₂.slotsUsed } : State) L mc ms := by
      refine ⟨?_, q2, q3, q4, q5, q6⟩
      obtain ⟨t, ht, -⟩ := State.frames_cons hr
      show ({ U with heap := s₂.heap, slotsUsed := s₂.slotsUsed } : State) = { U.setFrames U.frames with heap := s₂.heap, slotsUsed := s₂.slotsUsed }
      rw [State.setFrames_self ht]
    subst hg
    refine Or.inr ⟨q, ⟨(({ U with heap := s₂.heap, slotsUsed := s₂.slotsUsed } : State).setVm s₂.vm), Ls ++ L, c0 + mc, s0 + ms⟩,
      ⟨X.admits, X.cas, X.clock, X.frames, X.room, X.hears, X.method, X.code, (X.here.setHeapUsed s₂.heap s₂.slotsUsed).setVm hW'.alike, X.tail, State.WarmedH.trans X.warmed hW', X.limits, X.bytes, X.same.trans (hsame.setVm s.vm)⟩,
      ⟨g, mk, s₂, L, E, ce, rfl, rfl, hx, hce, hcv, hcl, rfl, hL, rfl, rfl⟩, ?_⟩
    show Steps p.tables e below _ (((({ U with heap := s₂.heap, slotsUsed := s₂.slotsUsed } : State).setVm s₂.vm).setTop g).pushFrame (.throwing q))
    rw [← hs₂]
    exact hsteps
end Payer
section Calls
variable {p : Program} {l : Launch} {e : Env} {R : Room} {s : State} {m : MethodId} {args : Array Value} {below : List Frame} {meth : Method} {c : Code} {T : State} {locs : List Loc} {cells slots : Nat}
theorem vx_callV (X : Stand p l e R s m args below meth c T locs cells slots) (hexec : p.tables.exec = Jvm.exec) {own C : String} {index : Nat} {y : MethodName} {bytes : ByteArray} {maxL : Nat} {ret : Option FieldType}
    (hown : s.vm.findClass own = some m.cls) (hlink : (Cond.methodLink own index y).before args s = true) (hinst : (Cond.instanceMethod y).before args s = true) (hsel : (Cond.selects C y y).before args s = true)
    (hcode : (Cond.code y bytes maxL ret).before args s = true) (hy : y.cls ≠ "java/lang/invoke/MethodHandle" ∧ y.cls ≠ "java/lang/invoke/VarHandle")
    {W9 : Nat} {Pre : Pt → Array Value → Prop} {Post : Pt → Array Value → Option Value → Pt → Prop} {PostX : Pt → Array Value → Addr → Pt → Prop} (hK : vx_Back l R p e below s args y 3 W9 Pre Post PostX)
    {b : Addr} {cellB : Cell} (hcell : T.heap[b]? = some cellB) (hobj : cellB.vm.isStatics = false) (hcls : s.vm.findClass C = some cellB.cls)
    {g : JFrame} (hg : g.method = m) (hsize : g.locals.size = c.maxLocals) {argsL rest : List Value} (hlen : ∀ sig, parseMethodDescriptor y.desc = some sig → argsL.length = sig.parameters.length)
    (hstack : g.stack = argsL.reverse ++ .ref b :: rest) (hW : 2 * g.monitorRoom + (rest.map fun v => v.category).sum ≤ W9) (hdg : decode c.code g.pc = .ok (.invokevirtual index, 3))
    (hpre : ∀ vm₁, s.WarmedH vm₁ → Pre ⟨T.setVm vm₁, locs, cells, slots⟩ (Value.ref b :: argsL).toArray) :
    (∃ (v : Option Value) (vm₁ : Vm) (B : Pt), s.WarmedH vm₁ ∧ Stand p l e R s m args below meth c B.U B.locs B.cells B.slots ∧ Post ⟨T.setVm vm₁, locs, cells, slots⟩ (Value.ref b :: argsL).toArray v B ∧
      ∀ target, Steps p.tables e below (B.U.setTop { g with pc := g.pc + 3, stack := v.toList ++ rest }) target → Steps p.tables e below (T.setTop g) target) ∨
    (∃ (q : Addr) (vm₁ : Vm) (B : Pt), s.WarmedH vm₁ ∧ Stand p l e R s m args below meth c B.U B.locs B.cells B.slots ∧ PostX ⟨T.setVm vm₁, locs, cells, slots⟩ (Value.ref b :: argsL).toArray q B ∧
      Steps p.tables e below (T.setTop g) ((B.U.setTop { g with stack := rest }).pushFrame (.throwing q))) := by
  obtain ⟨mk, methM, hnamed, hmethM, hstM, habM⟩ := Cond.instanceMethod_spec hinst
  obtain ⟨methM', cM, hmethM', -, -, -, -, -, -, hsigM⟩ := Cond.code_spec hnamed hcode
  cases hmethM.symm.trans hmethM'
  obtain ⟨c2, r2, m2, q1, q2, q3, q4, kP, hkP, hkPi⟩ := Cond.selects_spec hsel
  cases hcls.symm.trans q1
  cases (State.methodFound?_of_named hnamed hy).symm.trans q2
  cases hnamed.symm.trans q3
  have hselP : selectMethod e.platform s.vm cellB.cls mk = .method mk := by rw [Launch.admits_selectMethod X.admits]; exact q4
  obtain ⟨vm₁, X₁, hstep₁⟩ := X.invokevirtual hexec hown hlink hnamed hmethM hstM hkP hkPi hy (a := b) (cell := cellB) hcell
    (fun z h => by rw [h] at hobj; cases hobj) hselP hmethM habM hkP hkPi (g := g) hg (argsL := argsL) (rest := rest) (hlen _ hsigM) hstack hdg
  rcases hK m meth c ⟨T.setVm vm₁, locs, cells, slots⟩ { g with stack := rest } (.invokevirtual index) mk (Value.ref b :: argsL).toArray X₁ hg hsize hdg hW (X₁.named hnamed) (hpre vm₁ X₁.warmed) with ⟨v, B, X', hpost, hsteps⟩ | ⟨q, B, X', hpost, hsteps⟩
  · exact Or.inl ⟨v, vm₁, B, X₁.warmed, X', hpost, fun target h => hstep₁ _ fun acts => by rw [doInvoke_state]; exact hsteps.trans h⟩
  · exact Or.inr ⟨q, vm₁, B, X₁.warmed, X', hpost, hstep₁ _ fun acts => by rw [doInvoke_state]; exact hsteps⟩
theorem vx_callS (X : Stand p l e R s m args below meth c T locs cells slots) (hexec : p.tables.exec = Jvm.exec) {own : String} {index : Nat} {y : MethodName} {bytes : ByteArray} {maxL : Nat} {ret : Option FieldType}
    (hown : s.vm.findClass own = some m.cls) (hlink : (Cond.methodLink own index y).before args s = true) (hstat : (Cond.static y).before args s = true) (hinit : (Cond.initialized y.cls).before args s = true)
    (hcode : (Cond.code y bytes maxL ret).before args s = true) (hy : y.cls ≠ "java/lang/invoke/MethodHandle" ∧ y.cls ≠ "java/lang/invoke/VarHandle")
    {W9 : Nat} {Pre : Pt → Array Value → Prop} {Post : Pt → Array Value → Option Value → Pt → Prop} {PostX : Pt → Array Value → Addr → Pt → Prop} (hK : vx_Back l R p e below s args y 3 W9 Pre Post PostX)
    {g : JFrame} (hg : g.method = m) (hsize : g.locals.size = c.maxLocals) {argsL rest : List Value} (hlen : ∀ sig, parseMethodDescriptor y.desc = some sig → argsL.length = sig.parameters.length)
    (hstack : g.stack = argsL.reverse ++ rest) (hW : 2 * g.monitorRoom + (rest.map fun v => v.category).sum ≤ W9) (hdg : decode c.code g.pc = .ok (.invokestatic index, 3))
    (hpre : ∀ vm₁, s.WarmedH vm₁ → Pre ⟨T.setVm vm₁, locs, cells, slots⟩ argsL.toArray) :
    (∃ (v : Option Value) (vm₁ : Vm) (B : Pt), s.WarmedH vm₁ ∧ Stand p l e R s m args below meth c B.U B.locs B.cells B.slots ∧ Post ⟨T.setVm vm₁, locs, cells, slots⟩ argsL.toArray v B ∧
      ∀ target, Steps p.tables e below (B.U.setTop { g with pc := g.pc + 3, stack := v.toList ++ rest }) target → Steps p.tables e below (T.setTop g) target) ∨
    (∃ (q : Addr) (vm₁ : Vm) (B : Pt), s.WarmedH vm₁ ∧ Stand p l e R s m args below meth c B.U B.locs B.cells B.slots ∧ PostX ⟨T.setVm vm₁, locs, cells, slots⟩ argsL.toArray q B ∧
      Steps p.tables e below (T.setTop g) ((B.U.setTop { g with stack := rest }).pushFrame (.throwing q))) := by
  obtain ⟨mk, hnamed⟩ := Cond.code_named hcode
  obtain ⟨methM, cM, hmethM, -, -, -, -, -, -, hsigM⟩ := Cond.code_spec hnamed hcode
  have hstatic : methM.isStatic = true := Cond.static_spec hnamed hmethM hstat
  obtain ⟨kP, hkP, -⟩ := className_of_methodNamed hnamed
  have hinitP : kP.init = .initialized := Cond.initialized_spec (findClass_of_methodNamed hnamed) hkP hinit
  obtain ⟨vm₁, X₁, hstep₁⟩ := X.invokestatic hexec hown hlink hnamed hmethM hstatic hkP hinitP hy (g := g) hg (argsL := argsL) (rest := rest) (hlen _ hsigM) hstack hdg
  rcases hK m meth c ⟨T.setVm vm₁, locs, cells, slots⟩ { g with stack := rest } (.invokestatic index) mk argsL.toArray X₁ hg hsize hdg hW (X₁.named hnamed) (hpre vm₁ X₁.warmed) with ⟨v, B, X', hpost, hsteps⟩ | ⟨q, B, X', hpost, hsteps⟩
  · exact Or.inl ⟨v, vm₁, B, X₁.warmed, X', hpost, fun target h => hstep₁ _ fun acts => by rw [doInvoke_state]; exact hsteps.trans h⟩
  · exact Or.inr ⟨q, vm₁, B, X₁.warmed, X', hpost, hstep₁ _ fun acts => by rw [doInvoke_state]; exact hsteps⟩
end Calls
theorem vx_cls {s : State} {T : State} {vm₁ : Vm} {E : String} {k : ClassId} (hW : s.WarmedH vm₁) (h : (T.setVm vm₁).vm.findClass E = some k) : s.vm.findClass E = some k := by
  have h1 : vm₁.findClass E = some k := h
  rw [hW.alike.findClass] at h1
  exact h1
/-- the method's frame g, with q thrown over it -/
def vx_W (p : Program) (l : Launch) (e : Env) (R : Room) (s : State) (m : MethodId) (args : Array Value) (below : List Frame) (meth : Method) (c : Code) (H : Heap) (locs : List Loc) (cells slots : Nat) (Q : State → Prop) (g : JFrame) (q : Addr) : Prop :=
  ∀ T : State, T.heap = H → Stand p l e R s m args below meth c T locs cells slots → ∃ t, Steps p.tables e below ((T.setTop g).pushFrame (.throwing q)) t ∧ Q t
def vx_Run (p : Program) (l : Launch) (e : Env) (R : Room) (s : State) (m : MethodId) (args : Array Value) (below : List Frame) (meth : Method) (c : Code) (H : Heap) (locs : List Loc) (cells slots mc ms : Nat) (g : JFrame) (rest : List Value) (Qa : State → Outcome → State → Prop) (XC : String → State → State → Prop) (free : Addr → Prop) : Prop :=
  ∀ T : State, T.heap = H → Stand p l e R s m args below meth c T locs cells slots →
    (∃ (v : Option Value) (st₀ t T' : State) (L : List Loc), st₀.heap = H ∧ Stand p l e R s m args below meth c T' (locs ++ L) (cells + mc) (slots + ms) ∧ (∀ q ∈ L, free q.base) ∧ T'.heap = t.heap ∧ T'.vm = t.vm ∧ Qa st₀ (.returned v) t ∧
      Goes p e below T g T' { g with pc := g.pc + 3, stack := v.toList ++ rest }) ∨
    (∃ (q : Addr) (st₀ t T' : State) (L : List Loc) (E : String) (ce : Cell), st₀.heap = H ∧ Stand p l e R s m args below meth c T' (locs ++ L) (cells + mc) (slots + ms) ∧ (∀ z ∈ L, free z.base) ∧ T'.heap = t.heap ∧ T'.vm = t.vm ∧ XC E st₀ t ∧ t.heap[q]? = some ce ∧ ce.vm = .none ∧ s.vm.findClass E = some ce.cls ∧
      Steps p.tables e below (T.setTop g) ((T'.setTop { g with stack := rest }).pushFrame (.throwing q)))
def vx_X {S : Type} (px : S → Prop) (B : String → S → State → Prop) (A : Nat → Prop) : String → State → State → Prop := fun E st t => ∃ u : S, px u ∧ B E u t ∧ va_F A st t
section Runs
variable {p : Program} {l : Launch} {e : Env} {R : Room} {s : State} {m : MethodId} {args : Array Value} {below : List Frame} {meth : Method} {c : Code} {H : Heap} {locs : List Loc} {cells slots : Nat}
variable {y : MethodName} {bytes cc : ByteArray} {maxL nL mc ms n index : Nat} {ret : Option FieldType} {ws : List Cond} {rm : Room} {Pc : Array Value → State → Prop} {Qc : Array Value → State → Outcome → State → Prop} {XC : String → State → State → Prop} {free : Addr → Prop} {Ts : List Cond} {own C : String} {b : Addr} {As rest : List Value} {g : JFrame}
theorem vx_callBack (cb : CallB R s args own index y bytes maxL ret ws rm mc ms n) (hM : vx_Met l y ws rm Pc Qc XC mc ms free) (hbl : FrameBlind Pc) : vx_Back l R p e below s args y 3 8 (PreOf R mc ms Pc) (PostOf Qc mc ms free) (vx_Post XC mc ms free) := by
  obtain ⟨hrc, hrs, hfr, hlo, hws, hcw, -, hini, -⟩ := cb
  exact vx_back (bytes := bytes) (maxL := maxL) (ret := ret) hM hbl hrc hrs hfr hlo hws hcw (fun a' U hW => word_at hW (Or.inl (by first | rfl | simp [Cond.onTables, Cond.keeps, Cond.steady])) hini)
theorem vx_runV (S : CallFix p m c cc nL s args Ts own) (hM : vx_Met l y ws rm Pc Qc XC mc ms free) (cw : CallW R s args own C index y bytes maxL ret ws rm mc ms n) (hp : PreV s H C b Pc As)
    (hg : g.method = m) (hn : As.length = n) (hsize : g.locals.size = nL) (hstack : g.stack = As.reverse ++ .ref b :: rest) (hW : 2 * g.monitorRoom + (rest.map fun v => v.category).sum ≤ 8) (hdg : decode cc g.pc = .ok (.invokevirtual index, 3)) (hf : cells + mc ≤ R.cells ∧ slots + ms ≤ R.slots) :
    vx_Run p l e R s m args below meth c H locs cells slots mc ms g rest (Qc (Value.ref b :: As).toArray) XC free := by
  have hK : vx_Back l R p e below s args y 3 8 (PreOf R mc ms Pc) (PostOf Qc mc ms free) (vx_Post XC mc ms free) := vx_callBack cw.1 hM hp.1
  obtain ⟨⟨-, -, -, -, -, -, hcode, -, hy, hlen, hl⟩, hin, hse⟩ := cw
  obtain ⟨hx, hb, hml, ho, -⟩ := S
  obtain ⟨-, ⟨cellB, hcB, hoB, hclB⟩, hPc⟩ := hp
  intro T hT X
  rcases vx_callV X hx (C := C) (bytes := bytes) (maxL := maxL) (ret := ret) ho hl hin hse hcode hy hK (by rw [hT]; exact hcB) hoB hclB hg (hsize.trans hml.symm) (argsL := As) (rest := rest) (fun sig h => hn.trans (hlen sig h)) hstack hW (by rw [hb]; exact hdg)
    (fun vm₁ hW₁ => ⟨hf.1, hf.2, hPc (T.setVm vm₁) hT hW₁⟩) with ⟨v, vm₁, ⟨U', l2, c2, s2⟩, hW₁, X', ⟨g', mk, t, L, e1, e2, hq, h1, hL, h2, h3⟩, st⟩ | ⟨q, vm₁, ⟨U', l2, c2, s2⟩, hW₁, X', ⟨g', mk, t, L, E, ce, e1, e2, hq, hce, hcv, hcl, h1, hL, h2, h3⟩, st⟩
  · dsimp only [Pt.U, Pt.locs, Pt.cells, Pt.slots] at X' e1 e2 h1 h2 h3 st
    subst h1; subst h2; subst h3
    exact Or.inl ⟨v, (T.setVm vm₁).calling g' mk (Value.ref b :: As).toArray, t, U', L, hT, X', hL, e1, e2, hq, st⟩
  · dsimp only [Pt.U, Pt.locs, Pt.cells, Pt.slots] at X' e1 e2 h1 h2 h3 st hcl
    subst h1; subst h2; subst h3
    exact Or.inr ⟨q, (T.setVm vm₁).calling g' mk (Value.ref b :: As).toArray, t, U', L, E, ce, hT, X', hL, e1, e2, hq, hce, hcv, vx_cls hW₁ hcl, st⟩
theorem vx_runS (S : CallFix p m c cc nL s args Ts own) (hM : vx_Met l y ws rm Pc Qc XC mc ms free) (cw : CallB R s args own index y bytes maxL ret ws rm mc ms n ∧ (Cond.static y).before args s = true) (hp : PreS s H Pc As)
    (hg : g.method = m) (hn : As.length = n) (hsize : g.locals.size = nL) (hstack : g.stack = As.reverse ++ rest) (hW : 2 * g.monitorRoom + (rest.map fun v => v.category).sum ≤ 8) (hdg : decode cc g.pc = .ok (.invokestatic index, 3)) (hf : cells + mc ≤ R.cells ∧ slots + ms ≤ R.slots) :
    vx_Run p l e R s m args below meth c H locs cells slots mc ms g rest (Qc As.toArray) XC free := by
  have hK : vx_Back l R p e below s args y 3 8 (PreOf R mc ms Pc) (PostOf Qc mc ms free) (vx_Post XC mc ms free) := vx_callBack cw.1 hM hp.1
  obtain ⟨⟨-, -, -, -, -, -, hcode, hini, hy, hlen, hl⟩, hstt⟩ := cw
  obtain ⟨hx, hb, hml, ho, -⟩ := S
  intro T hT X
  rcases vx_callS X hx (bytes := bytes) (maxL := maxL) (ret := ret) ho hl hstt hini hcode hy hK hg (hsize.trans hml.symm) (argsL := As) (rest := rest) (fun sig h => hn.trans (hlen sig h)) hstack hW (by rw [hb]; exact hdg)
    (fun vm₁ hW₁ => ⟨hf.1, hf.2, hp.2 (T.setVm vm₁) hT hW₁⟩) with ⟨v, vm₁, ⟨U', l2, c2, s2⟩, hW₁, X', ⟨g', mk, t, L, e1, e2, hq, h1, hL, h2, h3⟩, st⟩ | ⟨q, vm₁, ⟨U', l2, c2, s2⟩, hW₁, X', ⟨g', mk, t, L, E, ce, e1, e2, hq, hce, hcv, hcl, h1, hL, h2, h3⟩, st⟩
  · dsimp only [Pt.U, Pt.locs, Pt.cells, Pt.slots] at X' e1 e2 h1 h2 h3 st
    subst h1; subst h2; subst h3
    exact Or.inl ⟨v, (T.setVm vm₁).calling g' mk As.toArray, t, U', L, hT, X', hL, e1, e2, hq, st⟩
  · dsimp only [Pt.U, Pt.locs, Pt.cells, Pt.slots] at X' e1 e2 h1 h2 h3 st hcl
    subst h1; subst h2; subst h3
    exact Or.inr ⟨q, (T.setVm vm₁).calling g' mk As.toArray, t, U', L, E, ce, hT, X', hL, e1, e2, hq, hce, hcv, vx_cls hW₁ hcl, st⟩
end Runs
section Rows
variable {p : Program} {l : Launch} {e : Env} {R : Room} {s : State} {m : MethodId} {args : Array Value} {below : List Frame} {meth : Method} {c : Code} {H : Heap} {locs : List Loc} {cells slots : Nat} {Q : State → Prop}
variable {mc ms : Nat} {free : Addr → Prop} {A0 A1 : Nat → Prop} {H0 : Heap} {a : Array Value} {pc : Nat} {ls : Array Slot} {st0 rest : List Value}
theorem vx_keep {st₀ t T' : State} {L : List Loc} (h0 : st₀.heap = H) (e1 : T'.heap = t.heap) (hS : va_S A0 H0 H locs) (hA : ∀ q, q < H.size → A1 q → A0 q) (hf : ∀ q, free q → A0 q) (hL : ∀ q ∈ L, free q.base) (hF : va_F A1 st₀ t) :
    H.size ≤ T'.heap.size ∧ (∀ q : Nat, q < H.size → ¬ A1 q → T'.heap[q]? = H[q]?) ∧ va_S A0 H0 T'.heap (locs ++ L) := by
  obtain ⟨hz, hk⟩ := hF
  rw [h0] at hz hk
  exact ⟨by rw [e1]; exact hz, fun q h1 h2 => by rw [e1]; exact hk q h1 h2,
    ⟨Nat.le_trans hS.1 (by rw [e1]; exact hz), fun q h1 h2 => by rw [e1, hk q (Nat.lt_of_lt_of_le h1 hS.1) (fun z => h2 (hA q (Nat.lt_of_lt_of_le h1 hS.1) z))]; exact hS.2.1 q h1 h2, fun q hq => by
      rcases List.mem_append.mp hq with h | h
      · exact hS.2.2 q h
      · exact hf _ (hL q h)⟩⟩
theorem vx_calli {S SX : Type} {post : Int32 → S → Prop} {px : SX → Prop} {B : S → State → Prop} {BX : String → SX → State → Prop} {AX : Nat → Prop} (hr : vx_Run p l e R s m args below meth c H locs cells slots mc ms (F0 m pc ls st0) rest (va_Qi post B A1 a) (vx_X px BX AX) free) (hS : va_S A0 H0 H locs) (hA : ∀ q, q < H.size → A1 q → A0 q) (hf : ∀ q, free q → A0 q) (hAX : ∀ q, q < H.size → AX q → A0 q)
    (kx : ∀ (E : String) (ce : Cell) (q9 : Addr) (u : SX) (t : State) (H1 : Heap) (locs1 : List Loc), t.heap = H1 → s.vm.Alike t.vm → px u → BX E u t → H.size ≤ H1.size → (∀ q : Nat, q < H.size → ¬ AX q → H1[q]? = H[q]?) → va_S A0 H0 H1 locs1 → H1[q9]? = some ce → ce.vm = .none → s.vm.findClass E = some ce.cls → vx_W p l e R s m args below meth c H1 locs1 (cells + mc) (slots + ms) Q (F0 m pc ls rest) q9)
    (kk : ∀ (r : Int32) (u : S) (t : State) (H1 : Heap) (locs1 : List Loc), t.heap = H1 → s.vm.Alike t.vm → post r u → B u t → H.size ≤ H1.size → (∀ q : Nat, q < H.size → ¬ A1 q → H1[q]? = H[q]?) → va_S A0 H0 H1 locs1 → W p l e R s m args below meth c H1 locs1 (cells + mc) (slots + ms) Q (F0 m (pc + 3) ls (.int r :: rest))) : W p l e R s m args below meth c H locs cells slots Q (F0 m pc ls st0) := by
  intro T hT X
  rcases hr T hT X with ⟨v, st₀, t, T', L, h0, X', hL, e1, e2, ⟨⟨r, u, hv, hp, hb⟩, hF⟩, st⟩ | ⟨q, st₀, t, T', L, E, ce, h0, X', hL, e1, e2, ⟨u, hp, hb, hF⟩, hce, hcv, hcl, st⟩
  · cases hv
    obtain ⟨k1, k2, k3⟩ := vx_keep h0 e1 hS hA hf hL hF
    obtain ⟨t2, a1, b1⟩ := kk r u t T'.heap (locs ++ L) e1.symm (by rw [← e2]; exact X'.warmed.alike) hp hb k1 k2 k3 T' rfl X'
    exact ⟨t2, st t2 a1, b1⟩
  · obtain ⟨k1, k2, k3⟩ := vx_keep h0 e1 hS hAX hf hL hF
    obtain ⟨t2, a1, b1⟩ := kx E ce q u t T'.heap (locs ++ L) e1.symm (by rw [← e2]; exact X'.warmed.alike) hp hb k1 k2 k3 (by rw [e1]; exact hce) hcv hcl T' rfl X'
    exact ⟨t2, st.trans a1, b1⟩
theorem vx_calll {S SX : Type} {post : Int64 → S → Prop} {px : SX → Prop} {B : S → State → Prop} {BX : String → SX → State → Prop} {AX : Nat → Prop} (hr : vx_Run p l e R s m args below meth c H locs cells slots mc ms (F0 m pc ls st0) rest (va_Ql post B A1 a) (vx_X px BX AX) free) (hS : va_S A0 H0 H locs) (hA : ∀ q, q < H.size → A1 q → A0 q) (hf : ∀ q, free q → A0 q) (hAX : ∀ q, q < H.size → AX q → A0 q)
    (kx : ∀ (E : String) (ce : Cell) (q9 : Addr) (u : SX) (t : State) (H1 : Heap) (locs1 : List Loc), t.heap = H1 → s.vm.Alike t.vm → px u → BX E u t → H.size ≤ H1.size → (∀ q : Nat, q < H.size → ¬ AX q → H1[q]? = H[q]?) → va_S A0 H0 H1 locs1 → H1[q9]? = some ce → ce.vm = .none → s.vm.findClass E = some ce.cls → vx_W p l e R s m args below meth c H1 locs1 (cells + mc) (slots + ms) Q (F0 m pc ls rest) q9)
    (kk : ∀ (r : Int64) (u : S) (t : State) (H1 : Heap) (locs1 : List Loc), t.heap = H1 → s.vm.Alike t.vm → post r u → B u t → H.size ≤ H1.size → (∀ q : Nat, q < H.size → ¬ A1 q → H1[q]? = H[q]?) → va_S A0 H0 H1 locs1 → W p l e R s m args below meth c H1 locs1 (cells + mc) (slots + ms) Q (F0 m (pc + 3) ls (.long r :: rest))) : W p l e R s m args below meth c H locs cells slots Q (F0 m pc ls st0) := by
  intro T hT X
  rcases hr T hT X with ⟨v, st₀, t, T', L, h0, X', hL, e1, e2, ⟨⟨r, u, hv, hp, hb⟩, hF⟩, st⟩ | ⟨q, st₀, t, T', L, E, ce, h0, X', hL, e1, e2, ⟨u, hp, hb, hF⟩, hce, hcv, hcl, st⟩
  · cases hv
    obtain ⟨k1, k2, k3⟩ := vx_keep h0 e1 hS hA hf hL hF
    obtain ⟨t2, a1, b1⟩ := kk r u t T'.heap (locs ++ L) e1.symm (by rw [← e2]; exact X'.warmed.alike) hp hb k1 k2 k3 T' rfl X'
    exact ⟨t2, st t2 a1, b1⟩
  · obtain ⟨k1, k2, k3⟩ := vx_keep h0 e1 hS hAX hf hL hF
    obtain ⟨t2, a1, b1⟩ := kx E ce q u t T'.heap (locs ++ L) e1.symm (by rw [← e2]; exact X'.warmed.alike) hp hb k1 k2 k3 (by rw [e1]; exact hce) hcv hcl T' rfl X'
    exact ⟨t2, st.trans a1, b1⟩
theorem vx_callf {S SX : Type} {post : UInt32 → S → Prop} {px : SX → Prop} {B : S → State → Prop} {BX : String → SX → State → Prop} {AX : Nat → Prop} (hr : vx_Run p l e R s m args below meth c H locs cells slots mc ms (F0 m pc ls st0) rest (va_Qf post B A1 a) (vx_X px BX AX) free) (hS : va_S A0 H0 H locs) (hA : ∀ q, q < H.size → A1 q → A0 q) (hf : ∀ q, free q → A0 q) (hAX : ∀ q, q < H.size → AX q → A0 q)
    (kx : ∀ (E : String) (ce : Cell) (q9 : Addr) (u : SX) (t : State) (H1 : Heap) (locs1 : List Loc), t.heap = H1 → s.vm.Alike t.vm → px u → BX E u t → H.size ≤ H1.size → (∀ q : Nat, q < H.size → ¬ AX q → H1[q]? = H[q]?) → va_S A0 H0 H1 locs1 → H1[q9]? = some ce → ce.vm = .none → s.vm.findClass E = some ce.cls → vx_W p l e R s m args below meth c H1 locs1 (cells + mc) (slots + ms) Q (F0 m pc ls rest) q9)
    (kk : ∀ (r : UInt32) (u : S) (t : State) (H1 : Heap) (locs1 : List Loc), t.heap = H1 → s.vm.Alike t.vm → post r u → B u t → H.size ≤ H1.size → (∀ q : Nat, q < H.size → ¬ A1 q → H1[q]? = H[q]?) → va_S A0 H0 H1 locs1 → W p l e R s m args below meth c H1 locs1 (cells + mc) (slots + ms) Q (F0 m (pc + 3) ls (.float r :: rest))) : W p l e R s m args below meth c H locs cells slots Q (F0 m pc ls st0) := by
  intro T hT X
  rcases hr T hT X with ⟨v, st₀, t, T', L, h0, X', hL, e1, e2, ⟨⟨r, u, hv, hp, hb⟩, hF⟩, st⟩ | ⟨q, st₀, t, T', L, E, ce, h0, X', hL, e1, e2, ⟨u, hp, hb, hF⟩, hce, hcv, hcl, st⟩
  · cases hv
    obtain ⟨k1, k2, k3⟩ := vx_keep h0 e1 hS hA hf hL hF
    obtain ⟨t2, a1, b1⟩ := kk r u t T'.heap (locs ++ L) e1.symm (by rw [← e2]; exact X'.warmed.alike) hp hb k1 k2 k3 T' rfl X'
    exact ⟨t2, st t2 a1, b1⟩
  · obtain ⟨k1, k2, k3⟩ := vx_keep h0 e1 hS hAX hf hL hF
    obtain ⟨t2, a1, b1⟩ := kx E ce q u t T'.heap (locs ++ L) e1.symm (by rw [← e2]; exact X'.warmed.alike) hp hb k1 k2 k3 (by rw [e1]; exact hce) hcv hcl T' rfl X'
    exact ⟨t2, st.trans a1, b1⟩
theorem vx_calld {S SX : Type} {post : UInt64 → S → Prop} {px : SX → Prop} {B : S → State → Prop} {BX : String → SX → State → Prop} {AX : Nat → Prop} (hr : vx_Run p l e R s m args below meth c H locs cells slots mc ms (F0 m pc ls st0) rest (va_Qd post B A1 a) (vx_X px BX AX) free) (hS : va_S A0 H0 H locs) (hA : ∀ q, q < H.size → A1 q → A0 q) (hf : ∀ q, free q → A0 q) (hAX : ∀ q, q < H.size → AX q → A0 q)
    (kx : ∀ (E : String) (ce : Cell) (q9 : Addr) (u : SX) (t : State) (H1 : Heap) (locs1 : List Loc), t.heap = H1 → s.vm.Alike t.vm → px u → BX E u t → H.size ≤ H1.size → (∀ q : Nat, q < H.size → ¬ AX q → H1[q]? = H[q]?) → va_S A0 H0 H1 locs1 → H1[q9]? = some ce → ce.vm = .none → s.vm.findClass E = some ce.cls → vx_W p l e R s m args below meth c H1 locs1 (cells + mc) (slots + ms) Q (F0 m pc ls rest) q9)
    (kk : ∀ (r : UInt64) (u : S) (t : State) (H1 : Heap) (locs1 : List Loc), t.heap = H1 → s.vm.Alike t.vm → post r u → B u t → H.size ≤ H1.size → (∀ q : Nat, q < H.size → ¬ A1 q → H1[q]? = H[q]?) → va_S A0 H0 H1 locs1 → W p l e R s m args below meth c H1 locs1 (cells + mc) (slots + ms) Q (F0 m (pc + 3) ls (.double r :: rest))) : W p l e R s m args below meth c H locs cells slots Q (F0 m pc ls st0) := by
  intro T hT X
  rcases hr T hT X with ⟨v, st₀, t, T', L, h0, X', hL, e1, e2, ⟨⟨r, u, hv, hp, hb⟩, hF⟩, st⟩ | ⟨q, st₀, t, T', L, E, ce, h0, X', hL, e1, e2, ⟨u, hp, hb, hF⟩, hce, hcv, hcl, st⟩
  · cases hv
    obtain ⟨k1, k2, k3⟩ := vx_keep h0 e1 hS hA hf hL hF
    obtain ⟨t2, a1, b1⟩ := kk r u t T'.heap (locs ++ L) e1.symm (by rw [← e2]; exact X'.warmed.alike) hp hb k1 k2 k3 T' rfl X'
    exact ⟨t2, st t2 a1, b1⟩
  · obtain ⟨k1, k2, k3⟩ := vx_keep h0 e1 hS hAX hf hL hF
    obtain ⟨t2, a1, b1⟩ := kx E ce q u t T'.heap (locs ++ L) e1.symm (by rw [← e2]; exact X'.warmed.alike) hp hb k1 k2 k3 (by rw [e1]; exact hce) hcv hcl T' rfl X'
    exact ⟨t2, st.trans a1, b1⟩
theorem vx_callv {S SX : Type} {post : S → Prop} {px : SX → Prop} {B : S → State → Prop} {BX : String → SX → State → Prop} {AX : Nat → Prop} (hr : vx_Run p l e R s m args below meth c H locs cells slots mc ms (F0 m pc ls st0) rest (va_Qv post B A1 a) (vx_X px BX AX) free) (hS : va_S A0 H0 H locs) (hA : ∀ q, q < H.size → A1 q → A0 q) (hf : ∀ q, free q → A0 q) (hAX : ∀ q, q < H.size → AX q → A0 q)
    (kx : ∀ (E : String) (ce : Cell) (q9 : Addr) (u : SX) (t : State) (H1 : Heap) (locs1 : List Loc), t.heap = H1 → s.vm.Alike t.vm → px u → BX E u t → H.size ≤ H1.size → (∀ q : Nat, q < H.size → ¬ AX q → H1[q]? = H[q]?) → va_S A0 H0 H1 locs1 → H1[q9]? = some ce → ce.vm = .none → s.vm.findClass E = some ce.cls → vx_W p l e R s m args below meth c H1 locs1 (cells + mc) (slots + ms) Q (F0 m pc ls rest) q9)
    (kk : ∀ (u : S) (t : State) (H1 : Heap) (locs1 : List Loc), t.heap = H1 → s.vm.Alike t.vm → post u → B u t → H.size ≤ H1.size → (∀ q : Nat, q < H.size → ¬ A1 q → H1[q]? = H[q]?) → va_S A0 H0 H1 locs1 → W p l e R s m args below meth c H1 locs1 (cells + mc) (slots + ms) Q (F0 m (pc + 3) ls (rest))) : W p l e R s m args below meth c H locs cells slots Q (F0 m pc ls st0) := by
  intro T hT X
  rcases hr T hT X with ⟨v, st₀, t, T', L, h0, X', hL, e1, e2, ⟨⟨u, hv, hp, hb⟩, hF⟩, st⟩ | ⟨q, st₀, t, T', L, E, ce, h0, X', hL, e1, e2, ⟨u, hp, hb, hF⟩, hce, hcv, hcl, st⟩
  · cases hv
    obtain ⟨k1, k2, k3⟩ := vx_keep h0 e1 hS hA hf hL hF
    obtain ⟨t2, a1, b1⟩ := kk u t T'.heap (locs ++ L) e1.symm (by rw [← e2]; exact X'.warmed.alike) hp hb k1 k2 k3 T' rfl X'
    exact ⟨t2, st t2 a1, b1⟩
  · obtain ⟨k1, k2, k3⟩ := vx_keep h0 e1 hS hAX hf hL hF
    obtain ⟨t2, a1, b1⟩ := kx E ce q u t T'.heap (locs ++ L) e1.symm (by rw [← e2]; exact X'.warmed.alike) hp hb k1 k2 k3 (by rw [e1]; exact hce) hcv hcl T' rfl X'
    exact ⟨t2, st.trans a1, b1⟩
/-- caught by the row x of this method's table; the rows ahead don't take it -/
theorem vx_catch {own name : String} {E : String} {ce : Cell} {q : Addr} (hown : s.vm.findClass own = some m.cls) (pre : List ExceptionTableEntry) (x : ExceptionTableEntry) (suf : List ExceptionTableEntry) (hsplit : c.exceptionTable.toList = pre ++ x :: suf)
    (hpass : ∀ z ∈ pre, covers z pc = false ∨ (z.catchType ≠ 0 ∧ ∃ nm : String, (Cond.classLink own z.catchType nm).before args s = true ∧ va_Nc E nm s)) (hx : covers x pc = true) (h0 : x.catchType ≠ 0)
    (hlink : (Cond.classLink own x.catchType name).before args s = true) (hcast : (Cond.castable E name).before args s = true) (hcell : H[q]? = some ce) (hv : ce.vm = .none) (hcl : s.vm.findClass E = some ce.cls)
    (kk : W p l e R s m args below meth c H locs cells slots Q (F0 m x.handlerPc ls [.ref q])) : vx_W p l e R s m args below meth c H locs cells slots Q (F0 m pc ls rest) q := by
  intro T hT X
  have hpl : e.platform.magicAccessors = ({} : Platform).magicAccessors := by rw [X.admits.platform]
  obtain ⟨c3, c4, hc3, hc4, hasg⟩ := Cond.castable_spec hcast
  cases Option.some.inj (hc3.symm.trans hcl)
  obtain ⟨c5, hc5, hcl5⟩ := Cond.classLink_spec hown hlink e.platform hpl
  cases Option.some.inj (hc4.symm.trans hc5)
  obtain ⟨vm', X', st⟩ := X.thenCaughtThrough q (g := F0 m pc ls rest) rfl (Steps.refl _) (by rw [hT]; exact hcell) (by rw [hv]; rfl) (by obtain ⟨k9, h9, -⟩ := Vm.findClass_spec hcl; exact ⟨k9, h9⟩) pre x suf hsplit
    (fun z hz => by
      rcases hpass z hz with h | ⟨hz0, nm, hl1, hn1⟩
      · exact Or.inl h
      · obtain ⟨c6, hc6, hcl6⟩ := Cond.classLink_spec hown hl1 e.platform hpl
        obtain ⟨a8, b8, h1, h2, h3⟩ := hn1
        cases Option.some.inj (h1.symm.trans hcl)
        cases Option.some.inj (h2.symm.trans hc6)
        exact Or.inr ⟨hz0, _, hcl6, h3⟩) hx (Or.inr ⟨h0, c4, hcl5, hasg⟩)
  obtain ⟨t, a1, b1⟩ := kk (T.setVm vm') hT X'
  exact ⟨t, st.trans a1, b1⟩
end Rows
section Ends
variable {p : Program} {l : Launch} {e : Env} {R : Room} {s : State} {m : MethodId} {args : Array Value} {below : List Frame} {meth : Method} {c : Code} {H : Heap} {locs : List Loc} {cells slots : Nat} {Q : State → Prop}
variable {mc ms : Nat} {free : Addr → Prop} {A0 A1 : Nat → Prop} {H0 : Heap} {a : Array Value} {ls : Array Slot} {st0 rest : List Value}
variable {Qc : Array Value → State → Outcome → State → Prop} {XC : String → State → State → Prop}
/-- what a body that may throw owes at its end -/
def vx_MQ (below : List Frame) (Qc : Array Value → State → Outcome → State → Prop) (XC : String → State → State → Prop) (a : Array Value) (s : State) (mc ms : Nat) (free : Addr → Prop) : State → Prop := fun t =>
  ∃ o, t.status = .running ∧ Ended t below o ∧ vx_Q Qc XC mc ms free a s o t
theorem vx_ret {g : JFrame} {mc ms : Nat} (k : W p l e R s m args below meth c H locs cells slots (MQ below Qc args s mc ms free) g) : W p l e R s m args below meth c H locs cells slots (vx_MQ below Qc XC args s mc ms free) g := by
  intro T hT X
  obtain ⟨t, a1, o, b1, b2, b3, b4⟩ := k T hT X
  exact ⟨t, a1, o, b1, b2, Or.inl ⟨b3, b4⟩⟩
/-- not caught here: it goes on to the caller -/
theorem vx_widen {g : JFrame} {q : Addr} {k n : Nat} (h1 : cells ≤ k) (h2 : slots ≤ n) (kk : vx_W p l e R s m args below meth c H locs k n Q g q) : vx_W p l e R s m args below meth c H locs cells slots Q g q := fun T hT X => kk T hT (stand_widen X h1 h2)
theorem vx_out {pc : Nat} {E : String} {ce : Cell} {q : Addr} {mc ms : Nat} (hout : ∀ x ∈ c.exceptionTable.toList, covers x pc = false) (hlocks : meth.locks = false) (hcell : H[q]? = some ce) (hv : ce.vm = .none) (hcl : s.vm.findClass E = some ce.cls)
    (hx : ∀ t : State, t.heap = H → s.vm.Alike t.vm → XC E s t) (hf : ∀ z ∈ locs, free z.base) (hc : cells ≤ mc) (hs : slots ≤ ms) :
    vx_W p l e R s m args below meth c H locs cells slots (vx_MQ below Qc XC args s mc ms free) (F0 m pc ls rest) q := by
  intro T hT X
  obtain ⟨st1, hrun, hend, hW, hsm⟩ := X.leaveThrown q (g := F0 m pc ls rest) rfl rfl rfl hout hlocks
  have hcell9 : (T.setFrames (.throwing q :: below)).heap[q]? = some ce := by
    show T.heap[q]? = some ce
    rw [hT]; exact hcell
  exact ⟨_, st1, .threw q, hrun, hend, Or.inr ⟨q, rfl, E, ce, locs, hx _ hT hW.alike, hcell9, hv, hcl, hW, hsm.mono hc hs, hf⟩⟩
theorem vx_frame {U : State} {k n : Nat} (h : s.sameButNew ({ U with vm := s.vm } : State) locs k n) : s.heap.size ≤ U.heap.size ∧ ∀ q : Nat, q < s.heap.size → (∀ z ∈ locs, z.base ≠ q) → U.heap[q]? = s.heap[q]? := by
  obtain ⟨-, h2, -, -, -, h6⟩ := h
  refine ⟨h2, fun q hq hz => ?_⟩
  obtain ⟨c9, e1, e2, e3, e4⟩ := h6 q _ (Array.getElem?_eq_getElem hq)
  have hs : c9.slots = (s.heap[q]).slots := Array.ext_getElem? fun i => e4 i fun hm => hz _ hm rfl
  have h9 : c9 = s.heap[q] := by
    rw [hs] at e2
    exact e2
  have e5 : U.heap[q]? = some c9 := e1
  rw [e5, h9, Array.getElem?_eq_getElem hq]
/-- the words of a throw but the four that speak of the heap -/
def vx_no (w : Cond) : Bool := decide (w ≠ .isRef (.static Bundle.tN "UNASSIGNED_STACK" Bundle.steD)) && decide (w ≠ .isRef (.static Bundle.tN "SUPPRESSED_SENTINEL" Bundle.listD)) && decide (w ≠ .laysStatic Bundle.tN "UNASSIGNED_STACK" Bundle.steD) && decide (w ≠ .laysStatic Bundle.tN "SUPPRESSED_SENTINEL" Bundle.listD)
def vx_at0 (own : String) (ic : Nat) (X : String) (names : List String) : List Cond := (Bundle.ownAtoms0 own ic X names).filter vx_no
def vx_atS (own : String) (ic : Nat) (X : String) (names : List String) : List Cond := (Bundle.ownAtoms own ic X names).filter vx_no
/-- a word that the tables alone decide, or a good one -/
def vx_ot (w : Cond) : Bool := w.onTables || goodWord w
theorem vx_ot_at {args a' : Array Value} {s U : State} {w : Cond} (hW : s.WarmedH U.vm) (hvm : s.vm = U.vm) (hg : vx_ot w = true) (h : w.before args s = true) : w.before a' U = true := by
  simp only [vx_ot, Bool.or_eq_true] at hg
  rcases hg with hg | hg
  · exact va_tabs hg hvm h
  · exact word_at hW (good_of_word hg) h
/-- a list's words: the good ones out of the method's own list, the others by premises of their own -/
theorem vx_hat {args : Array Value} {s : State} {L B : List Cond} (h1 : ∀ w ∈ L.filter goodWord, w.before args s = true) (h2 : ∀ w ∈ L.filter (fun w => !goodWord w), w ∈ B) (h3 : ∀ w ∈ B, w.before args s = true) : ∀ w ∈ L, w.before args s = true := by
  intro w hw
  by_cases g : goodWord w = true
  · exact h1 w (List.mem_filter.mpr ⟨hw, g⟩)
  · refine h3 w (h2 w (List.mem_filter.mpr ⟨hw, ?_⟩))
    show (!goodWord w) = true
    cases hgw : goodWord w
    · rfl
    · exact absurd hgw g
theorem vx_c {args : Array Value} {s : State} {w : Cond} {B : List Cond} (h : w.before args s = true) (t : ∀ w ∈ B, w.before args s = true) : ∀ w' ∈ w :: B, w'.before args s = true := fun w' h' => (List.mem_cons.mp h').elim (fun e => by rw [e]; exact h) (t w')
theorem vx_n {args : Array Value} {s : State} : ∀ w ∈ ([] : List Cond), w.before args s = true := fun _ h => nomatch h
theorem vx_own {args : Array Value} {s : State} {L : List Cond} (h1 : ∀ w ∈ L.filter vx_no, w.before args s = true)
    (hU : (Cond.isRef (.static Bundle.tN "UNASSIGNED_STACK" Bundle.steD)).before args s = true) (hN : (Cond.isRef (.static Bundle.tN "SUPPRESSED_SENTINEL" Bundle.listD)).before args s = true)
    (lU : (Cond.laysStatic Bundle.tN "UNASSIGNED_STACK" Bundle.steD).before args s = true) (lN : (Cond.laysStatic Bundle.tN "SUPPRESSED_SENTINEL" Bundle.listD).before args s = true) : ∀ w ∈ L, w.before args s = true := by
  intro w hw
  by_cases e1 : w = .isRef (.static Bundle.tN "UNASSIGNED_STACK" Bundle.steD)
  · rw [e1]; exact hU
  · by_cases e2 : w = .isRef (.static Bundle.tN "SUPPRESSED_SENTINEL" Bundle.listD)
    · rw [e2]; exact hN
    · by_cases e3 : w = .laysStatic Bundle.tN "UNASSIGNED_STACK" Bundle.steD
      · rw [e3]; exact lU
      · by_cases e4 : w = .laysStatic Bundle.tN "SUPPRESSED_SENTINEL" Bundle.listD
        · rw [e4]; exact lN
        · exact h1 w (List.mem_filter.mpr ⟨hw, by unfold vx_no; rw [decide_eq_true e1, decide_eq_true e2, decide_eq_true e3, decide_eq_true e4]; rfl⟩)
/-- where a static field lies, its class's statics cell in H -/
def vx_L (C n d : String) (A : Nat → Prop) (U : State) (H : Heap) : Prop := ∃ (c : ClassId) (k : Class) (i : Nat) (f : Field) (a : Nat) (cell : Cell), U.vm.findClass C = some c ∧ U.fieldFound? C n d = some (c, k, i, f) ∧ f.isStatic = true ∧ k.statics = some a ∧ H[a]? = some cell ∧ cell.vm.isStatics = true ∧ cell.cls = c ∧ f.slot < cell.slots.size ∧ k.staticTypes[f.slot]? = some f.type ∧ ¬ A a
theorem vx_L.moved {C n d : String} {A : Nat → Prop} {u U : State} {H : Heap} (hvm : u.vm.Alike U.vm) (h : vx_L C n d A u H) : vx_L C n d A U H := by
  obtain ⟨c, k, i, f, a, cell, h1, h2, h3, h4, h5, h6, h7, h8, h9, h10⟩ := h
  obtain ⟨k', hi', he⟩ := State.fieldFound?_setVm hvm h2
  exact ⟨c, k', i, f, a, cell, by rw [hvm.findClass]; exact h1, hi', h3, by rw [he]; exact h4, h5, h6, h7, h8, by rw [he]; exact h9, h10⟩
theorem vx_L.kept {C n d : String} {A : Nat → Prop} {U : State} {H H1 : Heap} (h : vx_L C n d A U H) (hq : ∀ a : Nat, a < H.size → ¬ A a → H1[a]? = H[a]?) : vx_L C n d A U H1 := by
  obtain ⟨c, k, i, f, a, cell, h1, h2, h3, h4, h5, h6, h7, h8, h9, h10⟩ := h
  exact ⟨c, k, i, f, a, cell, h1, h2, h3, h4, by rw [hq a (Array.getElem?_eq_some_iff.mp h5).1 h10]; exact h5, h6, h7, h8, h9, h10⟩
theorem vx_L.narrow {C n d : String} {A B : Nat → Prop} {U : State} {H : Heap} (h : vx_L C n d A U H) (hAB : ∀ q, B q → A q) : vx_L C n d B U H := by
  obtain ⟨c, k, i, f, a, cell, h1, h2, h3, h4, h5, h6, h7, h8, h9, h10⟩ := h
  exact ⟨c, k, i, f, a, cell, h1, h2, h3, h4, h5, h6, h7, h8, h9, fun z => h10 (hAB _ z)⟩
theorem vx_L.word {C n d : String} {A : Nat → Prop} {s : State} {args : Array Value} (h : vx_L C n d A s s.heap) : (Cond.laysStatic C n d).before args s = true := by
  obtain ⟨c, k, i, f, a, cell, h1, h2, h3, h4, h5, h6, h7, h8, h9, -⟩ := h
  show (Cond.laysStatic C n d).holds args s none s [] = true
  exact Cond.laysStatic_of h1 h2 h3 h4 h5 h6 h7 h8 h9
/-- .. and what it holds: null or some reference -/
def vx_Zq (C n d : String) (A : Nat → Prop) (U : State) (H : Heap) : Prop := va_Zq C n d A U H ∧ vx_L C n d A U H
theorem vx_Zq.moved {C n d : String} {A : Nat → Prop} {u U : State} {H : Heap} (hvm : u.vm.Alike U.vm) (h : vx_Zq C n d A u H) : vx_Zq C n d A U H := ⟨va_Zq.moved hvm h.1, vx_L.moved hvm h.2⟩
theorem vx_Zq.kept {C n d : String} {A : Nat → Prop} {U : State} {H H1 : Heap} (h : vx_Zq C n d A U H) (hq : ∀ a : Nat, a < H.size → ¬ A a → H1[a]? = H[a]?) : vx_Zq C n d A U H1 := ⟨va_Zq.kept h.1 hq, vx_L.kept h.2 hq⟩
theorem vx_Zq.narrow {C n d : String} {A B : Nat → Prop} {U : State} {H : Heap} (h : vx_Zq C n d A U H) (hAB : ∀ q, B q → A q) : vx_Zq C n d B U H := ⟨va_Zq.narrow h.1 hAB, vx_L.narrow h.2 hAB⟩
theorem vx_Zqof {args : Array Value} {s : State} {C n d : String} {A : Nat → Prop} (hl : (Cond.laysStatic C n d).before args s = true) (hini : (Cond.initialized C).before args s = true) (h : (Cond.isRef (.static C n d)).before args s = true) (hA : ∀ a : Nat, a < s.heap.size → ¬ A a) : vx_Zq C n d A s s.heap := by
  refine ⟨va_Zqof hl hini h hA, ?_⟩
  obtain ⟨c, k, i, f, a, cell, h1, h2, h3, h4, h5, h6, h7, h8, h9⟩ := Cond.laysStatic_spec hl
  exact ⟨c, k, i, f, a, cell, h1, h2, h3, h4, h5, h6, h7, h8, h9, hA a (Array.getElem?_eq_some_iff.mp h5).1⟩
theorem vx_isRef {C n d : String} {v : Value} {A : Nat → Prop} {s : State} {args : Array Value} (h : va_Z C n d v A s s.heap) (hv : v.isRef = true) : (Cond.isRef (.static C n d)).before args s = true := by
  obtain ⟨cf, kf, fi, f, a, cell, h1, h2, h3, h4, h5, h6, h7, -⟩ := h
  have he : (Term.static C n d).eval args s none [] s = some v := by
    simp [Term.eval, State.fieldNamed?, h1, h2, h4, h5, h6, h7]
  simp only [Cond.before, Cond.holds, Cond.value, he]
  cases v <;> simp_all [Value.isRef]
theorem vx_isRefq {C n d : String} {A : Nat → Prop} {s : State} {args : Array Value} (h : va_Zq C n d A s s.heap) : (Cond.isRef (.static C n d)).before args s = true := by
  rcases h with h | ⟨t, h⟩
  · exact vx_isRef h rfl
  · exact vx_isRef h rfl
/-- the same frame, seen from here: as if the method were called anew in this heap -/
theorem vx_rebase {T : State} (X : Stand p l e R s m args below meth c T locs cells slots) {R' : Room} (hf : R'.frames ≤ R.frames) (hl : R'.locals ≤ R.locals) (hc : cells + R'.cells ≤ R.cells) (hs : slots + R'.slots ≤ R.slots) :
    Stand p l e R' ((T.setVm s.vm).setFrames (.invoking m args :: below)) m args below meth c T [] 0 0 := by
  have htop : (T.setVm s.vm).topJava?.isSome := X.here.top
  have hF : ((T.setVm s.vm).setFrames (.invoking m args :: below)).frames = .invoking m args :: below := State.frames_setFrames _ (State.cur_lt_of_top htop)
  obtain ⟨g₀, hg0⟩ := Option.isSome_iff_exists.mp htop
  obtain ⟨r, hr⟩ := State.topJava?_eq_some.mp hg0
  have hl9 : e.platform.stackLimits (T.setVm s.vm).me = e.platform.stackLimits s.me := X.limits
  have hb9 : (T.setVm s.vm).me.stackBytes = s.me.stackBytes := X.bytes
  refine ⟨X.admits, X.cas, X.clock, hF, ?_, X.hears, X.method, X.code, X.here, X.tail, X.warmed, ?_, ?_, ?_⟩
  · have h := X.room
    have hU : ((T.setVm s.vm).setFrames (.invoking m args :: below)).localsInUse = s.localsInUse := by
      rw [State.localsInUse_invoking hF (meth := meth) (c := c) X.method X.code, State.localsInUse_invoking X.frames X.method X.code]
    simp only [State.hasRoom, Bool.and_eq_true, decide_eq_true_eq] at h ⊢
    obtain ⟨⟨⟨⟨h1, h2, h3, h4, h5, h6⟩, h7⟩, h8⟩, h9⟩ := h
    rw [X.frames, List.length_cons] at h2 h3
    have q1 := X.heapSize
    have q2 := X.used
    simp only [hF, hU, List.length_cons, State.stackLimits_setFrames, State.stackBytes_setFrames, hl9, hb9]
    refine ⟨⟨⟨⟨by omega, by omega, by omega, by omega, by omega, h6⟩, ?_⟩, ?_⟩, X.book⟩
    · show T.heap.size + R'.cells ≤ e.platform.maxCells
      omega
    · show T.slotsUsed + R'.slots ≤ e.platform.maxSlots
      omega
  · rw [State.stackLimits_setFrames]; rfl
  · rw [State.stackBytes_setFrames]; rfl
  · refine ⟨?_, Nat.le_refl _, Nat.le_refl _, ?_, ?_, fun a c9 h9 => ⟨c9, h9, rfl, rfl, fun _ _ => rfl⟩⟩
    · obtain ⟨t, ht, -⟩ := State.frames_cons hr
      show T.setVm s.vm = { ((T.setVm s.vm).setFrames (.invoking m args :: below)).setFrames (T.setVm s.vm).frames with heap := T.heap, slotsUsed := T.slotsUsed }
      rw [State.setFrames_setFrames, State.setFrames_self ht]
      rfl
    · show T.slotsUsed = T.slotsUsed + ((T.heap.toList.drop T.heap.size).map (·.slots.size)).sum
      rw [List.drop_eq_nil_of_le (Nat.le_of_eq Array.length_toList)]
      rfl
    · show ((T.heap.toList.drop T.heap.size).map (·.slots.size)).sum ≤ 0
      rw [List.drop_eq_nil_of_le (Nat.le_of_eq Array.length_toList)]
      exact Nat.le_refl _
/-- 'throw new E()': new; dup; invokespecial; athrow -/
theorem vx_throw0 {cc : ByteArray} {pc : Nat} (hexec : p.tables.exec = Jvm.exec) (hb : c.code = cc) (hl : l.stackTraces = false) {own cls : String} {names : List String} {ik ic mc ms : Nat} {A : Nat → Prop}
    (hown : s.vm.findClass own = some m.cls) (hcls : Bundle.fit cls = true) (hnames : ∀ n ∈ names, Bundle.fit n = true)
    (hk : (Cond.classLink own ik cls).before args s = true) (hini : (Cond.initialized cls).before args s = true) (hat : ∀ w ∈ vx_at0 own ic cls names, w.before args s = true)
    (hgood : ∀ w ∈ Cond.classLink own ik cls :: Cond.initialized cls :: vx_at0 own ic cls names, vx_ot w = true)
    (hU : vx_Zq Bundle.tN "UNASSIGNED_STACK" Bundle.steD A s s.heap) (hN : vx_Zq Bundle.tN "SUPPRESSED_SENTINEL" Bundle.listD A s s.heap) (hS : va_S A s.heap H locs) (hsize : ls.size = c.maxLocals)
    (d0 : decode cc pc = .ok (.new ik, 3)) (d3 : decode cc (pc + 3) = .ok (.dup, 1)) (d4 : decode cc (pc + 4) = .ok (.invokespecial ic, 3)) (d7 : decode cc (pc + 7) = .ok (.athrow, 1))
    (hout : ∀ x ∈ c.exceptionTable.toList, covers x (pc + 7) = false)
    (hRframes : names.length + 3 < R.frames) (hRlocals : (rest.map fun v => v.category).sum + (13 * (names.length + 1) + 42) ≤ R.locals) (hRcells : cells + 1 ≤ R.cells) (hRslots : slots + 6 ≤ R.slots) (hlocks : meth.locks = false)
    (hx : ∀ t : State, s.vm.Alike t.vm → H.size ≤ t.heap.size → (∀ q : Nat, q < H.size → t.heap[q]? = H[q]?) → XC cls s t)
    (hf : ∀ z ∈ locs, free z.base) (hc : cells + 1 ≤ mc) (hs : slots + 6 ≤ ms) :
    W p l e R s m args below meth c H locs cells slots (vx_MQ below Qc XC args s mc ms free) (F0 m pc ls rest) := by
  intro T hT X
  have htr : e.platform.stackTraces = false := (show e.platform.stackTraces = l.stackTraces by rw [X.admits.platform]).trans hl
  have Y := vx_rebase X (R' := { frames := R.frames, locals := R.locals, cells := 1, slots := 6 }) (Nat.le_refl _) (Nat.le_refl _) hRcells hRslots
  obtain ⟨s', hA⟩ : ∃ z, z = (T.setVm s.vm).setFrames (.invoking m args :: below) := ⟨_, rfl⟩
  rw [← hA] at Y
  have hvm : s'.vm = s.vm := by rw [hA]; rfl
  have hhp : s'.heap = H := by rw [hA]; exact hT
  have hW0 : s.WarmedH s'.vm := by rw [hvm]; exact State.WarmedH.refl s
  have hat' : ∀ w ∈ vx_at0 own ic cls names, w.before args s' = true := fun w hw => vx_ot_at hW0 hvm.symm (hgood w (List.mem_cons_of_mem _ (List.mem_cons_of_mem _ hw))) (hat w hw)
  have hk' : (Cond.classLink own ik cls).before args s' = true := vx_ot_at hW0 hvm.symm (hgood _ List.mem_cons_self) hk
  have hini' : (Cond.initialized cls).before args s' = true := vx_ot_at hW0 hvm.symm (hgood _ (List.mem_cons_of_mem _ List.mem_cons_self)) hini
  have hU' : vx_Zq Bundle.tN "UNASSIGNED_STACK" Bundle.steD A s' s'.heap := by rw [hhp]; exact vx_Zq.moved hW0.alike (hU.kept hS.2.1)
  have hN' : vx_Zq Bundle.tN "SUPPRESSED_SENTINEL" Bundle.listD A s' s'.heap := by rw [hhp]; exact vx_Zq.moved hW0.alike (hN.kept hS.2.1)
  have h : ∀ w ∈ Bundle.ownAtoms0 own ic cls names, w.before args s' = true := vx_own hat' (vx_isRefq hU'.1) (vx_isRefq hN'.1) hU'.2.word hN'.2.word
  have hown' : s'.vm.findClass own = some m.cls := by rw [hvm]; exact hown
  have hins : (Cond.instantiable cls 6).before args s' = true := h _ (by simp [Bundle.ownAtoms0])
  obtain ⟨vm₁, cX, kX, hfX, hkX, -, -, X₁, st1⟩ := Y.newCold hexec (own := own) (C := cls) (index := ik) (n := 6) hown' hk' hins hini'
    (g := F0 m pc ls rest) rfl (by rw [hb]; exact d0) (Nat.le_refl _) (Nat.le_refl _)
  generalize hT1 : (T.setVm vm₁).pushCell { cls := cX, slots := kX.instanceTypes.map defaultValue, vm := .none } = T1 at X₁ st1
  have hcat : (Value.ref T.heap.size).category = 1 := rfl
  have hcellA : T1.heap[T.heap.size]? = some (freshCell cX kX) := by rw [← hT1]; exact State.heap_pushCell_size _ _
  have d3' : decode c.code (pc + 3) = .ok (.dup, 1) := by rw [hb]; exact d3
  obtain ⟨U, hsteps, hrun, hend, hW, hsame, ce, hce, hO⟩ := X₁.ctorThrow0 hexec htr (own := own) (cls := cls) (names := names) (ic := ic) hown' hcls hnames h (fun x hx => nomatch hx) hfX hkX hcellA (by rw [hhp, hT]; exact Nat.le_refl _)
    (g := { method := m, pc := pc + 4, locals := ls, stack := .ref T.heap.size :: .ref T.heap.size :: rest, locked := none }) rfl hsize rfl rfl (rest := rest) rfl
    (by rw [hb]; exact d4) (by rw [hb]; exact d7) hout hRframes (by simp only [List.map_cons, List.sum_cons, hcat]; omega) hlocks
  obtain ⟨f1, f2⟩ := vx_frame hsame
  rw [hhp] at f1 f2
  have hWs : s.WarmedH U.vm := State.WarmedH.trans hW0 hW
  have hcl : s.vm.findClass cls = some ce.cls := by
    have h9 := hO.cls
    rw [hvm] at h9
    exact h9
  have hall : s.sameButNew ({ U with vm := s.vm } : State) locs mc ms := by
    subst hA
    obtain ⟨e1, e2⟩ := hsame
    rw [State.setFrames_setFrames] at e1
    have h2 : (T.setVm s.vm).sameButNew ({ U with vm := s.vm } : State) [] (0 + 1) (0 + 6) := ⟨e1, e2⟩
    have h3 := X.same.trans h2
    rw [List.append_nil] at h3
    exact h3.mono hc hs
  refine ⟨U, ?_, .threw T.heap.size, hrun, hend, Or.inr ⟨T.heap.size, rfl, cls, ce, locs, hx U hWs.alike f1 (fun q hq => f2 q hq (fun z hz => nomatch hz)), hce, hO.vm, hcl, hWs, hall, hf⟩⟩
  refine st1 _ ?_
  show Steps p.tables e below (T1.setTop { method := m, pc := pc + 3, locals := ls, stack := .ref T.heap.size :: rest, locked := none }) _
  jvm_step X₁.here [X₁.here.top, hexec, d3', Value.category]
  exact hsteps
/-- 'throw new E("text")': new; dup; ldc; invokespecial; athrow -/
theorem vx_throwS {cc : ByteArray} {pc : Nat} (hexec : p.tables.exec = Jvm.exec) (hb : c.code = cc) (hl : l.stackTraces = false) {own cls text : String} {names : List String} {ik is ic mc ms sa : Nat} {A : Nat → Prop}
    (hown : s.vm.findClass own = some m.cls) (hcls : Bundle.fit cls = true) (hnames : ∀ n ∈ names, Bundle.fit n = true)
    (hk : (Cond.classLink own ik cls).before args s = true) (hini : (Cond.initialized cls).before args s = true) (hstr : vk_R own is text sa s) (hat : ∀ w ∈ vx_atS own ic cls names, w.before args s = true)
    (hgood : ∀ w ∈ Cond.classLink own ik cls :: Cond.initialized cls :: vx_atS own ic cls names, vx_ot w = true)
    (hU : vx_Zq Bundle.tN "UNASSIGNED_STACK" Bundle.steD A s s.heap) (hN : vx_Zq Bundle.tN "SUPPRESSED_SENTINEL" Bundle.listD A s s.heap) (hS : va_S A s.heap H locs) (hsize : ls.size = c.maxLocals)
    (d0 : decode cc pc = .ok (.new ik, 3)) (d3 : decode cc (pc + 3) = .ok (.dup, 1)) (d4 : decode cc (pc + 4) = .ok (.ldc is, 2)) (d6 : decode cc (pc + 6) = .ok (.invokespecial ic, 3)) (d9 : decode cc (pc + 9) = .ok (.athrow, 1))
    (hout : ∀ x ∈ c.exceptionTable.toList, covers x (pc + 9) = false)
    (hRframes : names.length + 3 < R.frames) (hRlocals : (rest.map fun v => v.category).sum + (13 * (names.length + 1) + 43) ≤ R.locals) (hRcells : cells + 1 ≤ R.cells) (hRslots : slots + 6 ≤ R.slots) (hlocks : meth.locks = false)
    (hx : ∀ t : State, s.vm.Alike t.vm → H.size ≤ t.heap.size → (∀ q : Nat, q < H.size → t.heap[q]? = H[q]?) → XC cls s t)
    (hf : ∀ z ∈ locs, free z.base) (hc : cells + 1 ≤ mc) (hs : slots + 6 ≤ ms) :
    W p l e R s m args below meth c H locs cells slots (vx_MQ below Qc XC args s mc ms free) (F0 m pc ls rest) := by
  intro T hT X
  have htr : e.platform.stackTraces = false := (show e.platform.stackTraces = l.stackTraces by rw [X.admits.platform]).trans hl
  have Y := vx_rebase X (R' := { frames := R.frames, locals := R.locals, cells := 1, slots := 6 }) (Nat.le_refl _) (Nat.le_refl _) hRcells hRslots
  obtain ⟨s', hA⟩ : ∃ z, z = (T.setVm s.vm).setFrames (.invoking m args :: below) := ⟨_, rfl⟩
  rw [← hA] at Y
  have hvm : s'.vm = s.vm := by rw [hA]; rfl
  have hhp : s'.heap = H := by rw [hA]; exact hT
  have hW0 : s.WarmedH s'.vm := by rw [hvm]; exact State.WarmedH.refl s
  have hat' : ∀ w ∈ vx_atS own ic cls names, w.before args s' = true := fun w hw => vx_ot_at hW0 hvm.symm (hgood w (List.mem_cons_of_mem _ (List.mem_cons_of_mem _ hw))) (hat w hw)
  have hk' : (Cond.classLink own ik cls).before args s' = true := vx_ot_at hW0 hvm.symm (hgood _ List.mem_cons_self) hk
  have hini' : (Cond.initialized cls).before args s' = true := vx_ot_at hW0 hvm.symm (hgood _ (List.mem_cons_of_mem _ List.mem_cons_self)) hini
  have hU' : vx_Zq Bundle.tN "UNASSIGNED_STACK" Bundle.steD A s' s'.heap := by rw [hhp]; exact vx_Zq.moved hW0.alike (hU.kept hS.2.1)
  have hN' : vx_Zq Bundle.tN "SUPPRESSED_SENTINEL" Bundle.listD A s' s'.heap := by rw [hhp]; exact vx_Zq.moved hW0.alike (hN.kept hS.2.1)
  have h : ∀ w ∈ Bundle.ownAtoms own ic cls names, w.before args s' = true := vx_own hat' (vx_isRefq hU'.1) (vx_isRefq hN'.1) hU'.2.word hN'.2.word
  have hown' : s'.vm.findClass own = some m.cls := by rw [hvm]; exact hown
  have hins : (Cond.instantiable cls 6).before args s' = true := h _ (by simp [Bundle.ownAtoms])
  obtain ⟨vm₁, cX, kX, hfX, hkX, -, -, X₁, st1⟩ := Y.newCold hexec (own := own) (C := cls) (index := ik) (n := 6) hown' hk' hins hini'
    (g := F0 m pc ls rest) rfl (by rw [hb]; exact d0) (Nat.le_refl _) (Nat.le_refl _)
  generalize hT1 : (T.setVm vm₁).pushCell { cls := cX, slots := kX.instanceTypes.map defaultValue, vm := .none } = T1 at X₁ st1
  have hcat : (Value.ref T.heap.size).category = 1 := rfl
  have hcellA : T1.heap[T.heap.size]? = some (freshCell cX kX) := by rw [← hT1]; exact State.heap_pushCell_size _ _
  have d3' : decode c.code (pc + 3) = .ok (.dup, 1) := by rw [hb]; exact d3
  have d4' : decode c.code (pc + 4) = .ok (.ldc is, 2) := by rw [hb]; exact d4
  have hstr' : vk_R own is text sa s' := vk_R.warm hW0 hstr
  obtain ⟨U, hsteps, hrun, hend, hW, hsame, ce, hce, hO⟩ := X₁.ctorThrowS hexec htr (own := own) (cls := cls) (names := names) (ic := ic) hown' hcls hnames h (fun x hx => nomatch hx) hfX hkX hcellA (by rw [hhp, hT]; exact Nat.le_refl _) (msg := .ref sa) rfl
    (g := { method := m, pc := pc + 6, locals := ls, stack := .ref sa :: .ref T.heap.size :: .ref T.heap.size :: rest, locked := none }) rfl hsize rfl rfl (rest := rest) rfl
    (by rw [hb]; exact d6) (by rw [hb]; exact d9) hout hRframes (by simp only [List.map_cons, List.sum_cons, hcat]; omega) hlocks
  obtain ⟨f1, f2⟩ := vx_frame hsame
  rw [hhp] at f1 f2
  have hWs : s.WarmedH U.vm := State.WarmedH.trans hW0 hW
  have hcl : s.vm.findClass cls = some ce.cls := by
    have h9 := hO.cls
    rw [hvm] at h9
    exact h9
  have hall : s.sameButNew ({ U with vm := s.vm } : State) locs mc ms := by
    subst hA
    obtain ⟨e1, e2⟩ := hsame
    rw [State.setFrames_setFrames] at e1
    have h2 : (T.setVm s.vm).sameButNew ({ U with vm := s.vm } : State) [] (0 + 1) (0 + 6) := ⟨e1, e2⟩
    have h3 := X.same.trans h2
    rw [List.append_nil] at h3
    exact h3.mono hc hs
  refine ⟨U, ?_, .threw T.heap.size, hrun, hend, Or.inr ⟨T.heap.size, rfl, cls, ce, locs, hx U hWs.alike f1 (fun q hq => f2 q hq (fun z hz => nomatch hz)), hce, hO.vm, hcl, hWs, hall, hf⟩⟩
  refine st1 _ ?_
  show Steps p.tables e below (T1.setTop { method := m, pc := pc + 3, locals := ls, stack := .ref T.heap.size :: rest, locked := none }) _
  jvm_step X₁.here [X₁.here.top, hexec, d3', Value.category]
  exact X₁.ldcString hexec (own := own) (text := text) (index := is) (a := sa) hown' hstr'.1 hstr'.2
    (g := { method := m, pc := pc + 4, locals := ls, stack := .ref T.heap.size :: .ref T.heap.size :: rest, locked := none }) rfl d4' _ hsteps
/-- 'throw new E("text")', the text by a wide index -/
theorem vx_throwSW {cc : ByteArray} {pc : Nat} (hexec : p.tables.exec = Jvm.exec) (hb : c.code = cc) (hl : l.stackTraces = false) {own cls text : String} {names : List String} {ik is ic mc ms sa : Nat} {A : Nat → Prop}
    (hown : s.vm.findClass own = some m.cls) (hcls : Bundle.fit cls = true) (hnames : ∀ n ∈ names, Bundle.fit n = true)
    (hk : (Cond.classLink own ik cls).before args s = true) (hini : (Cond.initialized cls).before args s = true) (hstr : vk_R own is text sa s) (hat : ∀ w ∈ vx_atS own ic cls names, w.before args s = true)
    (hgood : ∀ w ∈ Cond.classLink own ik cls :: Cond.initialized cls :: vx_atS own ic cls names, vx_ot w = true)
    (hU : vx_Zq Bundle.tN "UNASSIGNED_STACK" Bundle.steD A s s.heap) (hN : vx_Zq Bundle.tN "SUPPRESSED_SENTINEL" Bundle.listD A s s.heap) (hS : va_S A s.heap H locs) (hsize : ls.size = c.maxLocals)
    (d0 : decode cc pc = .ok (.new ik, 3)) (d3 : decode cc (pc + 3) = .ok (.dup, 1)) (d4 : decode cc (pc + 4) = .ok (.ldc_w is, 3)) (d7 : decode cc (pc + 7) = .ok (.invokespecial ic, 3)) (d10 : decode cc (pc + 10) = .ok (.athrow, 1))
    (hout : ∀ x ∈ c.exceptionTable.toList, covers x (pc + 10) = false)
    (hRframes : names.length + 3 < R.frames) (hRlocals : (rest.map fun v => v.category).sum + (13 * (names.length + 1) + 43) ≤ R.locals) (hRcells : cells + 1 ≤ R.cells) (hRslots : slots + 6 ≤ R.slots) (hlocks : meth.locks = false)
    (hx : ∀ t : State, s.vm.Alike t.vm → H.size ≤ t.heap.size → (∀ q : Nat, q < H.size → t.heap[q]? = H[q]?) → XC cls s t)
    (hf : ∀ z ∈ locs, free z.base) (hc : cells + 1 ≤ mc) (hs : slots + 6 ≤ ms) :
    W p l e R s m args below meth c H locs cells slots (vx_MQ below Qc XC args s mc ms free) (F0 m pc ls rest) := by
  intro T hT X
  have htr : e.platform.stackTraces = false := (show e.platform.stackTraces = l.stackTraces by rw [X.admits.platform]).trans hl
  have Y := vx_rebase X (R' := { frames := R.frames, locals := R.locals, cells := 1, slots := 6 }) (Nat.le_refl _) (Nat.le_refl _) hRcells hRslots
  obtain ⟨s', hA⟩ : ∃ z, z = (T.setVm s.vm).setFrames (.invoking m args :: below) := ⟨_, rfl⟩
  rw [← hA] at Y
  have hvm : s'.vm = s.vm := by rw [hA]; rfl
  have hhp : s'.heap = H := by rw [hA]; exact hT
  have hW0 : s.WarmedH s'.vm := by rw [hvm]; exact State.WarmedH.refl s
  have hat' : ∀ w ∈ vx_atS own ic cls names, w.before args s' = true := fun w hw => vx_ot_at hW0 hvm.symm (hgood w (List.mem_cons_of_mem _ (List.mem_cons_of_mem _ hw))) (hat w hw)
  have hk' : (Cond.classLink own ik cls).before args s' = true := vx_ot_at hW0 hvm.symm (hgood _ List.mem_cons_self) hk
  have hini' : (Cond.initialized cls).before args s' = true := vx_ot_at hW0 hvm.symm (hgood _ (List.mem_cons_of_mem _ List.mem_cons_self)) hini
  have hU' : vx_Zq Bundle.tN "UNASSIGNED_STACK" Bundle.steD A s' s'.heap := by rw [hhp]; exact vx_Zq.moved hW0.alike (hU.kept hS.2.1)
  have hN' : vx_Zq Bundle.tN "SUPPRESSED_SENTINEL" Bundle.listD A s' s'.heap := by rw [hhp]; exact vx_Zq.moved hW0.alike (hN.kept hS.2.1)
  have h : ∀ w ∈ Bundle.ownAtoms own ic cls names, w.before args s' = true := vx_own hat' (vx_isRefq hU'.1) (vx_isRefq hN'.1) hU'.2.word hN'.2.word
  have hown' : s'.vm.findClass own = some m.cls := by rw [hvm]; exact hown
  have hins : (Cond.instantiable cls 6).before args s' = true := h _ (by simp [Bundle.ownAtoms])
  obtain ⟨vm₁, cX, kX, hfX, hkX, -, -, X₁, st1⟩ := Y.newCold hexec (own := own) (C := cls) (index := ik) (n := 6) hown' hk' hins hini'
    (g := F0 m pc ls rest) rfl (by rw [hb]; exact d0) (Nat.le_refl _) (Nat.le_refl _)
  generalize hT1 : (T.setVm vm₁).pushCell { cls := cX, slots := kX.instanceTypes.map defaultValue, vm := .none } = T1 at X₁ st1
  have hcat : (Value.ref T.heap.size).category = 1 := rfl
  have hcellA : T1.heap[T.heap.size]? = some (freshCell cX kX) := by rw [← hT1]; exact State.heap_pushCell_size _ _
  have d3' : decode c.code (pc + 3) = .ok (.dup, 1) := by rw [hb]; exact d3
  have d4' : decode c.code (pc + 4) = .ok (.ldc_w is, 3) := by rw [hb]; exact d4
  have hstr' : vk_R own is text sa s' := vk_R.warm hW0 hstr
  obtain ⟨U, hsteps, hrun, hend, hW, hsame, ce, hce, hO⟩ := X₁.ctorThrowS hexec htr (own := own) (cls := cls) (names := names) (ic := ic) hown' hcls hnames h (fun x hx => nomatch hx) hfX hkX hcellA (by rw [hhp, hT]; exact Nat.le_refl _) (msg := .ref sa) rfl
    (g := { method := m, pc := pc + 7, locals := ls, stack := .ref sa :: .ref T.heap.size :: .ref T.heap.size :: rest, locked := none }) rfl hsize rfl rfl (rest := rest) rfl
    (by rw [hb]; exact d7) (by rw [hb]; exact d10) hout hRframes (by simp only [List.map_cons, List.sum_cons, hcat]; omega) hlocks
  obtain ⟨f1, f2⟩ := vx_frame hsame
  rw [hhp] at f1 f2
  have hWs : s.WarmedH U.vm := State.WarmedH.trans hW0 hW
  have hcl : s.vm.findClass cls = some ce.cls := by
    have h9 := hO.cls
    rw [hvm] at h9
    exact h9
  have hall : s.sameButNew ({ U with vm := s.vm } : State) locs mc ms := by
    subst hA
    obtain ⟨e1, e2⟩ := hsame
    rw [State.setFrames_setFrames] at e1
    have h2 : (T.setVm s.vm).sameButNew ({ U with vm := s.vm } : State) [] (0 + 1) (0 + 6) := ⟨e1, e2⟩
    have h3 := X.same.trans h2
    rw [List.append_nil] at h3
    exact h3.mono hc hs
  refine ⟨U, ?_, .threw T.heap.size, hrun, hend, Or.inr ⟨T.heap.size, rfl, cls, ce, locs, hx U hWs.alike f1 (fun q hq => f2 q hq (fun z hz => nomatch hz)), hce, hO.vm, hcl, hWs, hall, hf⟩⟩
  refine st1 _ ?_
  show Steps p.tables e below (T1.setTop { method := m, pc := pc + 3, locals := ls, stack := .ref T.heap.size :: rest, locked := none }) _
  jvm_step X₁.here [X₁.here.top, hexec, d3', Value.category]
  exact X₁.ldcStringW hexec (own := own) (text := text) (index := is) (a := sa) hown' hstr'.1 hstr'.2
    (g := { method := m, pc := pc + 4, locals := ls, stack := .ref T.heap.size :: .ref T.heap.size :: rest, locked := none }) rfl d4' _ hsteps
end Ends
section Bodies
variable {l : Launch}
theorem vx_ofW {y : MethodName} {ws ws' : List Cond} {rm : Room} {Pc : Array Value → State → Prop} {Qc : Array Value → State → Outcome → State → Prop} {XC : String → State → State → Prop} {mc ms : Nat} {free : Addr → Prop} {cc : ByteArray} {maxL : Nat} {ret : Option FieldType}
    (hy : plainName y.cls = true) (hw : ws = Cond.code y cc maxL ret :: ws')
    (body : ∀ p e s m args below meth c s₁, BodyLoose p l y (headSpec ws rm) cc maxL ret e s m args below meth c s₁ → c.maxLocals = maxL → (∀ x ∈ c.exceptionTable.toList, False) → Pc args s →
      W p l e (headSpec ws rm).room s m args below meth c s.heap [] 0 0 (vx_MQ below Qc XC args s mc ms free) (entryFrame m args maxL)) : vx_Met l y ws rm Pc Qc XC mc ms free := by
  refine MetFree.of_bodyS (code := cc) (maxLocals := maxL) (ret := ret) hy ?_ ?_
  · intro args s m h hn
    obtain ⟨meth, c, h1, h2, h3, h4, h5, h6, -, -⟩ := Cond.code_spec hn (atoms_spec (ws := ws) h _ (by rw [hw]; exact List.mem_cons_self))
    exact ⟨meth, c, h1, h2, h3, h4, h5, h6⟩
  · intro p e s m args below meth c s₁ B hml hP _
    have hh0 : s₁.heap = s.heap := by rw [B.state]; rfl
    have ht : ∀ x ∈ c.exceptionTable.toList, False := by
      obtain ⟨meth9, c9, h1, h2, -, -, -, -, h7, -⟩ := Cond.code_spec B.named (atoms_spec (ws := ws) B.pre _ (by rw [hw]; exact List.mem_cons_self))
      cases Option.some.inj (h1.symm.trans B.method)
      cases Option.some.inj (h2.symm.trans (Stand.of_body B).code)
      intro x hx
      rw [Array.isEmpty_iff.mp h7] at hx
      cases hx
    obtain ⟨t, a1, o, b1, b2, b3⟩ := body p e s m args below meth c s₁ B hml ht hP s₁ hh0 (Stand.of_body B)
    exact ⟨t, o, a1, b1, b2, b3⟩
/-- the table of a body with handlers -/
theorem vx_table {p : Program} {x y : MethodName} {S : Spec} {cc bytes : ByteArray} {maxL maxL' : Nat} {ret ret' : Option FieldType} {e : Env} {s s₁ : State} {m : MethodId} {args : Array Value} {below : List Frame} {meth : Method} {c : Code} {hh : List (Nat × Nat × Nat × Nat)}
    (B : BodyLoose p l y S cc maxL ret e s m args below meth c s₁) (h : (Cond.codeWith y bytes maxL' ret' hh).before args s = true) : c.exceptionTable.toList = tableOf hh := by
  obtain ⟨m9, meth9, c9, hn9, h1, h2, -, -, h6, -⟩ := Cond.codeWith_spec h
  cases Option.some.inj (hn9.symm.trans B.named)
  cases Option.some.inj (h1.symm.trans B.method)
  cases Option.some.inj (h2.symm.trans (Stand.of_body B).code)
  rw [← h6, table_eq]
end Bodies
end VXA
/-! ===== END ===== -/
/-! ===== BEGIN a static call of a method with an exception table ===== -/
section VXS
variable {p : Program} {l : Launch} {e : Env} {R : Room} {s : State} {m : MethodId} {args : Array Value} {below : List Frame} {meth : Method} {c : Code} {T : State} {H : Heap} {locs : List Loc} {cells slots : Nat}
abbrev vx_CSW (R : Room) (s : State) (args : Array Value) (own : String) (index : Nat) (y : MethodName) (bytes : ByteArray) (maxL : Nat) (ret : Option FieldType) (hh : List (Nat × Nat × Nat × Nat)) (ws : List Cond) (rm : Room) (mc ms n : Nat) : Prop :=
  (rm.cells = mc ∧ rm.slots = ms ∧ rm.frames + 1 ≤ R.frames ∧ 8 + (maxL + 11) + rm.locals ≤ R.locals ∧ (∀ w ∈ ws, ∀ (a' : Array Value) (U : State), s.WarmedH U.vm → w.before a' U = true) ∧ Cond.codeWith y bytes maxL ret hh ∈ ws) ∧
  (Cond.codeWith y bytes maxL ret hh).before args s = true ∧ (Cond.initialized y.cls).before args s = true ∧ (y.cls ≠ "java/lang/invoke/MethodHandle" ∧ y.cls ≠ "java/lang/invoke/VarHandle") ∧
  (∀ sig, parseMethodDescriptor y.desc = some sig → n = sig.parameters.length) ∧ (Cond.methodLink own index y).before args s = true ∧ (Cond.static y).before args s = true
theorem vx_cwSW {own : String} {index maxL mc ms : Nat} {y : MethodName} {bytes : ByteArray} {ret : Option FieldType} {hh : List (Nat × Nat × Nat × Nat)} {Ts ws ws' : List Cond} {rm : Room} (n : Nat) (ht : ∀ w ∈ Ts, w.before args s = true) (hT : GoodIn Ts (va_wsS own index y ws)) (hw : ws = Cond.codeWith y bytes maxL ret hh :: ws') (hrc : rm.cells = mc) (hrs : rm.slots = ms)
    (hd : y.cls ≠ "java/lang/invoke/MethodHandle" ∧ y.cls ≠ "java/lang/invoke/VarHandle" ∧ (parseMethodDescriptor y.desc).map (fun d => d.parameters.length) = some n) (hR : rm.frames + 1 ≤ R.frames ∧ 8 + (maxL + 11) + rm.locals ≤ R.locals) :
    vx_CSW R s args own index y bytes maxL ret hh ws rm mc ms n := by
  have ok : ∀ w ∈ va_wsS own index y ws, w.before args s = true := fun w h => ht w (hT w h).1
  have hG : GoodIn Ts ws := fun w h => hT w (by unfold va_wsS; exact List.mem_append_right _ h)
  have hc : Cond.codeWith y bytes maxL ret hh ∈ ws := by rw [hw]; exact List.mem_cons_self
  refine ⟨⟨hrc, hrs, hR.1, hR.2, pay_in ht hG, hc⟩, ht _ (hG _ hc).1, ok _ (by simp [va_wsS]), ⟨hd.1, hd.2.1⟩, fun sig h => ?_, ok _ (by simp [va_wsS]), ok _ (by simp [va_wsS])⟩
  have h2 := hd.2.2
  rw [h] at h2
  exact (Option.some.inj h2).symm
theorem vx_callSW (X : Stand p l e R s m args below meth c T locs cells slots) (hexec : p.tables.exec = Jvm.exec) {own : String} {index : Nat} {y : MethodName} {bytes : ByteArray} {maxL : Nat} {ret : Option FieldType} {hh : List (Nat × Nat × Nat × Nat)}
    (hown : s.vm.findClass own = some m.cls) (hlink : (Cond.methodLink own index y).before args s = true) (hstat : (Cond.static y).before args s = true) (hinit : (Cond.initialized y.cls).before args s = true)
    (hcode : (Cond.codeWith y bytes maxL ret hh).before args s = true) (hy : y.cls ≠ "java/lang/invoke/MethodHandle" ∧ y.cls ≠ "java/lang/invoke/VarHandle")
    {W9 : Nat} {Pre : Pt → Array Value → Prop} {Post : Pt → Array Value → Option Value → Pt → Prop} (hK : Back l R p e below s args y 3 W9 Pre Post)
    {g : JFrame} (hg : g.method = m) (hsize : g.locals.size = c.maxLocals) {argsL rest : List Value} (hlen : ∀ sig, parseMethodDescriptor y.desc = some sig → argsL.length = sig.parameters.length)
    (hstack : g.stack = argsL.reverse ++ rest) (hW : 2 * g.monitorRoom + (rest.map fun v => v.category).sum ≤ W9) (hdg : decode c.code g.pc = .ok (.invokestatic index, 3))
    (hpre : ∀ vm₁, s.WarmedH vm₁ → Pre ⟨T.setVm vm₁, locs, cells, slots⟩ argsL.toArray) :
    ∃ (v : Option Value) (vm₁ : Vm) (B : Pt), s.WarmedH vm₁ ∧ Stand p l e R s m args below meth c B.U B.locs B.cells B.slots ∧ Post ⟨T.setVm vm₁, locs, cells, slots⟩ argsL.toArray v B ∧
      ∀ target, Steps p.tables e below (B.U.setTop { g with pc := g.pc + 3, stack := v.toList ++ rest }) target → Steps p.tables e below (T.setTop g) target := by
  obtain ⟨mk, methM, cM, hnamed, hmethM, -, -, -, -, -, -, hsigM⟩ := Cond.codeWith_spec hcode
  have hstatic : methM.isStatic = true := Cond.static_spec hnamed hmethM hstat
  obtain ⟨kP, hkP, -⟩ := className_of_methodNamed hnamed
  have hinitP : kP.init = .initialized := Cond.initialized_spec (findClass_of_methodNamed hnamed) hkP hinit
  obtain ⟨vm₁, X₁, hstep₁⟩ := X.invokestatic hexec hown hlink hnamed hmethM hstatic hkP hinitP hy (g := g) hg (argsL := argsL) (rest := rest) (hlen _ hsigM) hstack hdg
  obtain ⟨v, B, X', hpost, hsteps⟩ := hK m meth c ⟨T.setVm vm₁, locs, cells, slots⟩ { g with stack := rest } (.invokestatic index) mk argsL.toArray X₁ hg hsize hdg hW (X₁.named hnamed) (hpre vm₁ X₁.warmed)
  exact ⟨v, vm₁, B, X₁.warmed, X', hpost, fun target h => hstep₁ _ fun acts => by rw [doInvoke_state]; exact hsteps.trans h⟩
theorem vx_runSW {y : MethodName} {bytes cc : ByteArray} {maxL nL mc ms n index : Nat} {ret : Option FieldType} {hh : List (Nat × Nat × Nat × Nat)} {ws : List Cond} {rm : Room} {Pc : Array Value → State → Prop} {Qc : Array Value → State → Outcome → State → Prop} {free : Addr → Prop} {Ts : List Cond} {own : String} {As rest : List Value} {g : JFrame}
    (S : CallFix p m c cc nL s args Ts own) (hM : Met l y ws rm Pc Qc mc ms free) (cw : vx_CSW R s args own index y bytes maxL ret hh ws rm mc ms n) (hp : PreS s H Pc As)
    (hg : g.method = m) (hn : As.length = n) (hsize : g.locals.size = nL) (hstack : g.stack = As.reverse ++ rest) (hW : 2 * g.monitorRoom + (rest.map fun v => v.category).sum ≤ 8) (hdg : decode cc g.pc = .ok (.invokestatic index, 3)) (hf : cells + mc ≤ R.cells ∧ slots + ms ≤ R.slots) :
    va_Run p l e R s m args below meth c H locs cells slots mc ms g rest (Qc As.toArray) (free) := by
  obtain ⟨⟨hrc, hrs, hfr, hlo, hws, hcw⟩, hcode, hini, hy, hlen, hl, hstt⟩ := cw
  have hK : Back l R p e below s args y 3 8 (PreOf R mc ms Pc) (PostOf Qc mc ms free) := va_backW (hh := hh) (bytes := bytes) (maxL := maxL) (ret := ret) hM hp.1 hrc hrs hfr hlo hws hcw (fun a' U hW => word_at hW (Or.inl (by first | rfl | simp [Cond.onTables, Cond.keeps, Cond.steady])) hini)
  obtain ⟨hx, hb, hml, ho, -⟩ := S
  intro T hT X
  obtain ⟨v, vm₁, ⟨U', l2, c2, s2⟩, hW₁, X', ⟨g', mk, t, L, e1, e2, hq, h1, hL, h2, h3⟩, st⟩ := vx_callSW X hx (hh := hh) (bytes := bytes) (maxL := maxL) (ret := ret) ho hl hstt hini hcode hy hK hg (hsize.trans hml.symm) (argsL := As) (rest := rest) (fun sig h => hn.trans (hlen sig h)) hstack hW (by rw [hb]; exact hdg)
    (fun vm₁ hW₁ => ⟨hf.1, hf.2, hp.2 (T.setVm vm₁) hT hW₁⟩)
  dsimp only [Pt.U, Pt.locs, Pt.cells, Pt.slots] at X' e1 e2 h1 h2 h3 st
  subst h1; subst h2; subst h3
  exact ⟨v, (T.setVm vm₁).calling g' mk As.toArray, t, U', L, hT, X', hL, e1, e2, hq, st⟩
/-- not caught here, past rows that name other classes: it goes on to the caller -/
theorem vx_outP {p : Program} {l : Launch} {e : Env} {R : Room} {s : State} {m : MethodId} {args : Array Value} {below : List Frame} {meth : Method} {c : Code} {H : Heap} {locs : List Loc} {cells slots : Nat} {free : Addr → Prop} {ls : Array Slot} {rest : List Value} {Qc : Array Value → State → Outcome → State → Prop} {XC : String → State → State → Prop}
    {pc : Nat} {own E : String} {ce : Cell} {q : Addr} {mc ms : Nat} (hown : s.vm.findClass own = some m.cls) (hlocks : meth.locks = false)
    (hpass : ∀ z ∈ c.exceptionTable.toList, covers z pc = false ∨ (z.catchType ≠ 0 ∧ ∃ nm : String, (Cond.classLink own z.catchType nm).before args s = true ∧ va_Nc E nm s)) (hcell : H[q]? = some ce) (hv : ce.vm = .none) (hcl : s.vm.findClass E = some ce.cls)
    (hx : ∀ t : State, t.heap = H → s.vm.Alike t.vm → XC E s t) (hf : ∀ z ∈ locs, free z.base) (hc : cells ≤ mc) (hs : slots ≤ ms) :
    vx_W p l e R s m args below meth c H locs cells slots (vx_MQ below Qc XC args s mc ms free) (F0 m pc ls rest) q := by
  intro T hT X
  have hpl : e.platform.magicAccessors = ({} : Platform).magicAccessors := by rw [X.admits.platform]
  obtain ⟨vm', hW', X', st⟩ := X.outThrough hlocks q (g := F0 m pc ls rest) rfl rfl rfl (cell := ce) (by rw [hT]; exact hcell) (by rw [hv]; rfl)
    (by obtain ⟨k9, h9, -⟩ := Vm.findClass_spec hcl; exact ⟨k9, h9⟩) (fun z hz => by
      rcases hpass z hz with h | ⟨hz0, nm, hl1, hn1⟩
      · exact Or.inl h
      · obtain ⟨c6, hc6, hcl6⟩ := Cond.classLink_spec hown hl1 e.platform hpl
        obtain ⟨a8, b8, h1, h2, h3⟩ := hn1
        cases Option.some.inj (h1.symm.trans hcl)
        cases Option.some.inj (h2.symm.trans hc6)
        exact Or.inr ⟨hz0, _, hcl6, h3⟩)
  obtain ⟨g₀, hfr⟩ := X'.frames_eq
  have hcell9 : ((T.setVm vm').setFrames (.throwing q :: below)).heap[q]? = some ce := by
    show T.heap[q]? = some ce
    rw [hT]; exact hcell
  have hend : Ended ((T.setVm vm').setFrames (.throwing q :: below)) below (.threw q) := State.frames_setFrames _ (State.cur_lt_of_frames hfr)
  refine ⟨(T.setVm vm').setFrames (.throwing q :: below), ?_, .threw q, X'.here.running, hend, Or.inr ⟨q, rfl, E, ce, locs, hx _ hT (X'.ends _).1.alike, hcell9, hv, hcl, (X'.ends _).1, (X'.ends _).2.mono hc hs, hf⟩⟩
  rw [X.pushThrowing_eq]
  exact st
/-- a thing of a world lies in the heap -/
theorem vx_lt {D : va_G} {cl : List vw_C} {ws : va_W} {H1 : Heap} (h : va_P D cl ws H1) {k : Nat} {q : Nat × va_E} (hk : ws[k]? = some q) : q.1 < H1.size := (h k q hk).lt
end VXS
/-! ===== END ===== -/
/-! ===== BEGIN methods with a table of their own: called by a name, returning or throwing ===== -/
section VXH
/-! vx_backW, vx_callVX, vx_callSX, vx_callVW, vx_runVW, vx_runVX, vx_runSX, vx_ofWH follow the same proofs as their sisters above (Free/Laws.lean, Shelf42/LK1.lean); vx_outP calls Shelf42/NT130.lean (outThrough). -/
section
variable {l : Launch} {R : Room} {p : Program} {e : Env} {below : List Frame} {s : State} {sargs : Array Value} {y : MethodName} {len W9 : Nat}
theorem vx_backW {ws : List Cond} {rm : Room} {Pc : Array Value → State → Prop} {Qc : Array Value → State → Outcome → State → Prop} {XC : String → State → State → Prop} {mc ms : Nat} {free : Addr → Prop} {bytes : ByteArray} {maxL : Nat} {ret : Option FieldType} {hh : List (Nat × Nat × Nat × Nat)}
    (hM : vx_Met l y ws rm Pc Qc XC mc ms free) (hblind : FrameBlind Pc) (hrc : rm.cells = mc) (hrs : rm.slots = ms)
    (hframes : rm.frames + 1 ≤ R.frames) (hlocals : W9 + (maxL + 11) + rm.locals ≤ R.locals)
    (hws : ∀ w ∈ ws, ∀ a' U, s.WarmedH U.vm → w.before a' U = true) (hcode : Cond.codeWith y bytes maxL ret hh ∈ ws) (hinit : ∀ a' U, s.WarmedH U.vm → (Cond.initialized y.cls).before a' U = true) :
    vx_Back l R p e below s sargs y len W9 (PreOf R mc ms Pc) (PostOf Qc mc ms free) (vx_Post XC mc ms free) := by
  intro m meth c A g ig mk a X hg hsize hdg hW hn hp
  have h1 : (headSpec ws rm).pre.before a A.U = true := atoms_intro fun w hw => hws w hw _ _ X.warmed
  have h2 : (Cond.codeWith y bytes maxL ret hh).before a A.U = true := hws _ hcode _ _ X.warmed
  have h3 : (Cond.initialized y.cls).before a A.U = true := hinit _ _ X.warmed
  have h4 : A.cells + (headSpec ws rm).room.cells ≤ R.cells := by rw [show (headSpec ws rm).room.cells = mc from hrc]; exact hp.1
  have h5 : A.slots + (headSpec ws rm).room.slots ≤ R.slots := by rw [show (headSpec ws rm).room.slots = ms from hrs]; exact hp.2.1
  have hPc : Pc a (A.U.calling g mk a) := hblind _ _ _ _ hp.2.2
  obtain ⟨U, Ls, c0, s0⟩ := A
  dsimp only [Pt.U, Pt.locs, Pt.cells, Pt.slots] at h1 h2 h3 h4 h5 X hn hPc ⊢
  obtain ⟨m9, methY, cY, hn9, hmY, hcY, -, hlY, -⟩ := Cond.codeWith_spec h2
  cases Option.some.inj (hn9.symm.trans hn)
  obtain ⟨kY, hkY, -⟩ := className_of_methodNamed hn
  have hinitY : kY.init = .initialized := Cond.initialized_spec (findClass_of_methodNamed hn) hkY h3
  have h : At U g.method c below := by rw [hg]; exact X.here
  have hlocals9 : W9 + (maxL + 11) + (headSpec ws rm).room.locals ≤ R.locals := hlocals
  have happ : (headSpec ws rm).appliesLoose y e.platform (U.calling g mk a) = true :=
    Spec.appliesLoose_calling (g := g) h hdg hn hkY hinitY
      (X.room_calling (g := g) (R' := (headSpec ws rm).room) hsize hmY hcY hframes (by rw [hlY]; omega) h4 h5) h1
  obtain ⟨mid, hmid⟩ := h.above
  have hfr : (U.setTop g).frames = (.java g :: mid) ++ below := by rw [State.frames_setTop' g h.top, hmid]; rfl
  obtain ⟨o, s₂, hsteps, -, hend, hq⟩ := Steps.callFree hM p X.admits X.cas X.clock (acts := []) hfr happ hPc trivial
  have hq' : vx_Q Qc XC mc ms free a (U.calling g mk a) o s₂ := hq
  rw [State.frames_setTop' g h.top] at hend
  obtain ⟨g₀, hg0⟩ := Option.isSome_iff_exists.mp h.top
  obtain ⟨r, hr⟩ := State.topJava?_eq_some.mp hg0
  have hr' : (({ U with heap := s₂.heap, slotsUsed := s₂.slotsUsed } : State).setVm s₂.vm).frames = .java g₀ :: r := hr
  rcases hq' with ⟨hqc, L, hfe, hL⟩ | ⟨q, rfl, E, ce, L, hx, hce, hcv, hcl, hW₂, hsm, hL⟩
  · obtain ⟨⟨v, rfl⟩, hW₂, e2, q2, q3, q4, q5, q6⟩ := id hfe
    have e3 : s₂ = ({ (U.calling g mk a).setFrames s₂.frames with heap := s₂.heap, slotsUsed := s₂.slotsUsed } : State).setVm s₂.vm := by
      have : s₂ = ({ s₂ with vm := (U.calling g mk a).vm } : State).setVm s₂.vm := rfl
      rw [e2] at this
      exact this
    obtain ⟨c₂, i₂, len₂, hc₂, hd₂, hf₂⟩ := hend
    have hW' : U.WarmedH s₂.vm := hW₂
    have hcc : c₂ = c := by
      have h1 : s₂.code? g.method = U.code? g.method := by
        rw [State.code?_eq, State.code?_eq, hW'.alike.method?]
      exact Option.some.inj (hc₂.symm.trans (h1.trans h.code))
    subst hcc
    have hlen : len₂ = len := by rw [hdg] at hd₂; cases hd₂; rfl
    subst hlen
    have hs₂ : s₂ = (({ U with heap := s₂.heap, slotsUsed := s₂.slotsUsed } : State).setVm s₂.vm).setTop { g with pc := g.pc + len₂, stack := v.toList ++ g.stack } := by
      refine e3.trans ?_
      rw [hf₂, State.calling_eq h.top, State.setFrames_setFrames, State.setTop_of_frames _ hr', hr]
      rfl
    have hsame : U.sameButNew ({ U with heap := s₂.heap, slotsUsed := s₂.slotsUsed } : State) L mc ms := by
      refine ⟨?_, q2, q3, q4, q5, q6⟩
      obtain ⟨t, ht, -⟩ := State.frames_cons hr
      show ({ U with heap := s₂.heap, slotsUsed := s₂.slotsUsed } : State) = { U.setFrames U.frames with heap := s₂.heap, slotsUsed := s₂.slotsUsed }
      rw [State.setFrames_self ht]
    subst hg
    refine Or.inl ⟨v, ⟨(({ U with heap := s₂.heap, slotsUsed := s₂.slotsUsed } : State).setVm s₂.vm), Ls ++ L, c0 + mc, s0 + ms⟩,
      ⟨X.admits, X.cas, X.clock, X.frames, X.room, X.hears, X.method, X.code, (X.here.setHeapUsed s₂.heap s₂.slotsUsed).setVm hW'.alike, X.tail, State.WarmedH.trans X.warmed hW', X.limits, X.bytes, X.same.trans (hsame.setVm s.vm)⟩,
      ⟨g, mk, s₂, L, rfl, rfl, hqc, rfl, hL, rfl, rfl⟩, ?_⟩
    show Steps p.tables e below _ ((({ U with heap := s₂.heap, slotsUsed := s₂.slotsUsed } : State).setVm s₂.vm).setTop { g with pc := g.pc + len₂, stack := v.toList ++ g.stack })
    rw [← hs₂]
    exact hsteps
  · obtain ⟨e2, q2, q3, q4, q5, q6⟩ := id hsm
    have e3 : s₂ = ({ (U.calling g mk a).setFrames s₂.frames with heap := s₂.heap, slotsUsed := s₂.slotsUsed } : State).setVm s₂.vm := by
      have : s₂ = ({ s₂ with vm := (U.calling g mk a).vm } : State).setVm s₂.vm := rfl
      rw [e2] at this
      exact this
    have hf₂ : s₂.frames = .throwing q :: .java g :: U.frames.tail := hend
    have hW' : U.WarmedH s₂.vm := hW₂
    have hs₂ : s₂ = ((({ U with heap := s₂.heap, slotsUsed := s₂.slotsUsed } : State).setVm s₂.vm).setTop g).pushFrame (.throwing q) := by
      refine e3.trans ?_
      rw [hf₂, State.calling_eq h.top, State.setFrames_setFrames, State.pushFrame, State.frames_setTop _ hr', State.setTop_of_frames _ hr', State.setFrames_setFrames, hr]
      rfl
    have hsame : U.sameButNew ({ U with heap := s₂.heap, slotsUsed := s₂.slotsUsed } : State) L mc ms := by
      refine ⟨?_, q2, q3, q4, q5, q6⟩
      obtain ⟨t, ht, -⟩ := State.frames_cons hr
      show ({ U with heap := s₂.heap, slotsUsed := s₂.slotsUsed } : State) = { U.setFrames U.frames with heap := s₂.heap, slotsUsed := s₂.slotsUsed }
      rw [State.setFrames_self ht]
    subst hg
    refine Or.inr ⟨q, ⟨(({ U with heap := s₂.heap, slotsUsed := s₂.slotsUsed } : State).setVm s₂.vm), Ls ++ L, c0 + mc, s0 + ms⟩,
      ⟨X.admits, X.cas, X.clock, X.frames, X.room, X.hears, X.method, X.code, (X.here.setHeapUsed s₂.heap s₂.slotsUsed).setVm hW'.alike, X.tail, State.WarmedH.trans X.warmed hW', X.limits, X.bytes, X.same.trans (hsame.setVm s.vm)⟩,
      ⟨g, mk, s₂, L, E, ce, rfl, rfl, hx, hce, hcv, hcl, rfl, hL, rfl, rfl⟩, ?_⟩
    show Steps p.tables e below _ (((({ U with heap := s₂.heap, slotsUsed := s₂.slotsUsed } : State).setVm s₂.vm).setTop g).pushFrame (.throwing q))
    rw [← hs₂]
    exact hsteps
end
variable {p : Program} {l : Launch} {e : Env} {R : Room} {s : State} {m : MethodId} {args : Array Value} {below : List Frame} {meth : Method} {c : Code} {T : State} {H : Heap} {locs : List Loc} {cells slots : Nat}
theorem vx_callVX (X : Stand p l e R s m args below meth c T locs cells slots) (hexec : p.tables.exec = Jvm.exec) {own C : String} {index : Nat} {y : MethodName} {bytes : ByteArray} {maxL : Nat} {ret : Option FieldType} {hh : List (Nat × Nat × Nat × Nat)}
    (hown : s.vm.findClass own = some m.cls) (hlink : (Cond.methodLink own index y).before args s = true) (hinst : (Cond.instanceMethod y).before args s = true) (hsel : (Cond.selects C y y).before args s = true)
    (hcode : (Cond.codeWith y bytes maxL ret hh).before args s = true) (hy : y.cls ≠ "java/lang/invoke/MethodHandle" ∧ y.cls ≠ "java/lang/invoke/VarHandle")
    {W9 : Nat} {Pre : Pt → Array Value → Prop} {Post : Pt → Array Value → Option Value → Pt → Prop} {PostX : Pt → Array Value → Addr → Pt → Prop} (hK : vx_Back l R p e below s args y 3 W9 Pre Post PostX)
    {b : Addr} {cellB : Cell} (hcell : T.heap[b]? = some cellB) (hobj : cellB.vm.isStatics = false) (hcls : s.vm.findClass C = some cellB.cls)
    {g : JFrame} (hg : g.method = m) (hsize : g.locals.size = c.maxLocals) {argsL rest : List Value} (hlen : ∀ sig, parseMethodDescriptor y.desc = some sig → argsL.length = sig.parameters.length)
    (hstack : g.stack = argsL.reverse ++ .ref b :: rest) (hW : 2 * g.monitorRoom + (rest.map fun v => v.category).sum ≤ W9) (hdg : decode c.code g.pc = .ok (.invokevirtual index, 3))
    (hpre : ∀ vm₁, s.WarmedH vm₁ → Pre ⟨T.setVm vm₁, locs, cells, slots⟩ (Value.ref b :: argsL).toArray) :
    (∃ (v : Option Value) (vm₁ : Vm) (B : Pt), s.WarmedH vm₁ ∧ Stand p l e R s m args below meth c B.U B.locs B.cells B.slots ∧ Post ⟨T.setVm vm₁, locs, cells, slots⟩ (Value.ref b :: argsL).toArray v B ∧
      ∀ target, Steps p.tables e below (B.U.setTop { g with pc := g.pc + 3, stack := v.toList ++ rest }) target → Steps p.tables e below (T.setTop g) target) ∨
    (∃ (q : Addr) (vm₁ : Vm) (B : Pt), s.WarmedH vm₁ ∧ Stand p l e R s m args below meth c B.U B.locs B.cells B.slots ∧ PostX ⟨T.setVm vm₁, locs, cells, slots⟩ (Value.ref b :: argsL).toArray q B ∧
      Steps p.tables e below (T.setTop g) ((B.U.setTop { g with stack := rest }).pushFrame (.throwing q))) := by
  obtain ⟨mk, methM, hnamed, hmethM, hstM, habM⟩ := Cond.instanceMethod_spec hinst
  obtain ⟨m8, methM', cM, hn8, hmethM', -, -, -, -, -, -, hsigM⟩ := Cond.codeWith_spec hcode
  cases Option.some.inj (hn8.symm.trans hnamed)
  cases hmethM.symm.trans hmethM'
  obtain ⟨c2, r2, m2, q1, q2, q3, q4, kP, hkP, hkPi⟩ := Cond.selects_spec hsel
  cases hcls.symm.trans q1
  cases (State.methodFound?_of_named hnamed hy).symm.trans q2
  cases hnamed.symm.trans q3
  have hselP : selectMethod e.platform s.vm cellB.cls mk = .method mk := by rw [Launch.admits_selectMethod X.admits]; exact q4
  obtain ⟨vm₁, X₁, hstep₁⟩ := X.invokevirtual hexec hown hlink hnamed hmethM hstM hkP hkPi hy (a := b) (cell := cellB) hcell
    (fun z h => by rw [h] at hobj; cases hobj) hselP hmethM habM hkP hkPi (g := g) hg (argsL := argsL) (rest := rest) (hlen _ hsigM) hstack hdg
  rcases hK m meth c ⟨T.setVm vm₁, locs, cells, slots⟩ { g with stack := rest } (.invokevirtual index) mk (Value.ref b :: argsL).toArray X₁ hg hsize hdg hW (X₁.named hnamed) (hpre vm₁ X₁.warmed) with ⟨v, B, X', hpost, hsteps⟩ | ⟨q, B, X', hpost, hsteps⟩
  · exact Or.inl ⟨v, vm₁, B, X₁.warmed, X', hpost, fun target h => hstep₁ _ fun acts => by rw [doInvoke_state]; exact hsteps.trans h⟩
  · exact Or.inr ⟨q, vm₁, B, X₁.warmed, X', hpost, hstep₁ _ fun acts => by rw [doInvoke_state]; exact hsteps⟩
theorem vx_callSX (X : Stand p l e R s m args below meth c T locs cells slots) (hexec : p.tables.exec = Jvm.exec) {own : String} {index : Nat} {y : MethodName} {bytes : ByteArray} {maxL : Nat} {ret : Option FieldType} {hh : List (Nat × Nat × Nat × Nat)}
    (hown : s.vm.findClass own = some m.cls) (hlink : (Cond.methodLink own index y).before args s = true) (hstat : (Cond.static y).before args s = true) (hinit : (Cond.initialized y.cls).before args s = true)
    (hcode : (Cond.codeWith y bytes maxL ret hh).before args s = true) (hy : y.cls ≠ "java/lang/invoke/MethodHandle" ∧ y.cls ≠ "java/lang/invoke/VarHandle")
    {W9 : Nat} {Pre : Pt → Array Value → Prop} {Post : Pt → Array Value → Option Value → Pt → Prop} {PostX : Pt → Array Value → Addr → Pt → Prop} (hK : vx_Back l R p e below s args y 3 W9 Pre Post PostX)
    {g : JFrame} (hg : g.method = m) (hsize : g.locals.size = c.maxLocals) {argsL rest : List Value} (hlen : ∀ sig, parseMethodDescriptor y.desc = some sig → argsL.length = sig.parameters.length)
    (hstack : g.stack = argsL.reverse ++ rest) (hW : 2 * g.monitorRoom + (rest.map fun v => v.category).sum ≤ W9) (hdg : decode c.code g.pc = .ok (.invokestatic index, 3))
    (hpre : ∀ vm₁, s.WarmedH vm₁ → Pre ⟨T.setVm vm₁, locs, cells, slots⟩ argsL.toArray) :
    (∃ (v : Option Value) (vm₁ : Vm) (B : Pt), s.WarmedH vm₁ ∧ Stand p l e R s m args below meth c B.U B.locs B.cells B.slots ∧ Post ⟨T.setVm vm₁, locs, cells, slots⟩ argsL.toArray v B ∧
      ∀ target, Steps p.tables e below (B.U.setTop { g with pc := g.pc + 3, stack := v.toList ++ rest }) target → Steps p.tables e below (T.setTop g) target) ∨
    (∃ (q : Addr) (vm₁ : Vm) (B : Pt), s.WarmedH vm₁ ∧ Stand p l e R s m args below meth c B.U B.locs B.cells B.slots ∧ PostX ⟨T.setVm vm₁, locs, cells, slots⟩ argsL.toArray q B ∧
      Steps p.tables e below (T.setTop g) ((B.U.setTop { g with stack := rest }).pushFrame (.throwing q))) := by
  obtain ⟨mk, methM, cM, hnamed, hmethM, -, -, -, -, -, -, hsigM⟩ := Cond.codeWith_spec hcode
  have hstatic : methM.isStatic = true := Cond.static_spec hnamed hmethM hstat
  obtain ⟨kP, hkP, -⟩ := className_of_methodNamed hnamed
  have hinitP : kP.init = .initialized := Cond.initialized_spec (findClass_of_methodNamed hnamed) hkP hinit
  obtain ⟨vm₁, X₁, hstep₁⟩ := X.invokestatic hexec hown hlink hnamed hmethM hstatic hkP hinitP hy (g := g) hg (argsL := argsL) (rest := rest) (hlen _ hsigM) hstack hdg
  rcases hK m meth c ⟨T.setVm vm₁, locs, cells, slots⟩ { g with stack := rest } (.invokestatic index) mk argsL.toArray X₁ hg hsize hdg hW (X₁.named hnamed) (hpre vm₁ X₁.warmed) with ⟨v, B, X', hpost, hsteps⟩ | ⟨q, B, X', hpost, hsteps⟩
  · exact Or.inl ⟨v, vm₁, B, X₁.warmed, X', hpost, fun target h => hstep₁ _ fun acts => by rw [doInvoke_state]; exact hsteps.trans h⟩
  · exact Or.inr ⟨q, vm₁, B, X₁.warmed, X', hpost, hstep₁ _ fun acts => by rw [doInvoke_state]; exact hsteps⟩
theorem vx_callVW (X : Stand p l e R s m args below meth c T locs cells slots) (hexec : p.tables.exec = Jvm.exec) {own C : String} {index : Nat} {y : MethodName} {bytes : ByteArray} {maxL : Nat} {ret : Option FieldType} {hh : List (Nat × Nat × Nat × Nat)}
    (hown : s.vm.findClass own = some m.cls) (hlink : (Cond.methodLink own index y).before args s = true) (hinst : (Cond.instanceMethod y).before args s = true) (hsel : (Cond.selects C y y).before args s = true)
    (hcode : (Cond.codeWith y bytes maxL ret hh).before args s = true) (hy : y.cls ≠ "java/lang/invoke/MethodHandle" ∧ y.cls ≠ "java/lang/invoke/VarHandle")
    {W9 : Nat} {Pre : Pt → Array Value → Prop} {Post : Pt → Array Value → Option Value → Pt → Prop} (hK : Back l R p e below s args y 3 W9 Pre Post)
    {b : Addr} {cellB : Cell} (hcell : T.heap[b]? = some cellB) (hobj : cellB.vm.isStatics = false) (hcls : s.vm.findClass C = some cellB.cls)
    {g : JFrame} (hg : g.method = m) (hsize : g.locals.size = c.maxLocals) {argsL rest : List Value} (hlen : ∀ sig, parseMethodDescriptor y.desc = some sig → argsL.length = sig.parameters.length)
    (hstack : g.stack = argsL.reverse ++ .ref b :: rest) (hW : 2 * g.monitorRoom + (rest.map fun v => v.category).sum ≤ W9) (hdg : decode c.code g.pc = .ok (.invokevirtual index, 3))
    (hpre : ∀ vm₁, s.WarmedH vm₁ → Pre ⟨T.setVm vm₁, locs, cells, slots⟩ (Value.ref b :: argsL).toArray) :
    ∃ (v : Option Value) (vm₁ : Vm) (B : Pt), s.WarmedH vm₁ ∧ Stand p l e R s m args below meth c B.U B.locs B.cells B.slots ∧ Post ⟨T.setVm vm₁, locs, cells, slots⟩ (Value.ref b :: argsL).toArray v B ∧
      ∀ target, Steps p.tables e below (B.U.setTop { g with pc := g.pc + 3, stack := v.toList ++ rest }) target → Steps p.tables e below (T.setTop g) target := by
  obtain ⟨mk, methM, hnamed, hmethM, hstM, habM⟩ := Cond.instanceMethod_spec hinst
  obtain ⟨m8, methM', cM, hn8, hmethM', -, -, -, -, -, -, hsigM⟩ := Cond.codeWith_spec hcode
  cases Option.some.inj (hn8.symm.trans hnamed)
  cases hmethM.symm.trans hmethM'
  obtain ⟨c2, r2, m2, q1, q2, q3, q4, kP, hkP, hkPi⟩ := Cond.selects_spec hsel
  cases hcls.symm.trans q1
  cases (State.methodFound?_of_named hnamed hy).symm.trans q2
  cases hnamed.symm.trans q3
  have hselP : selectMethod e.platform s.vm cellB.cls mk = .method mk := by rw [Launch.admits_selectMethod X.admits]; exact q4
  obtain ⟨vm₁, X₁, hstep₁⟩ := X.invokevirtual hexec hown hlink hnamed hmethM hstM hkP hkPi hy (a := b) (cell := cellB) hcell
    (fun z h => by rw [h] at hobj; cases hobj) hselP hmethM habM hkP hkPi (g := g) hg (argsL := argsL) (rest := rest) (hlen _ hsigM) hstack hdg
  obtain ⟨v, B, X', hpost, hsteps⟩ := hK m meth c ⟨T.setVm vm₁, locs, cells, slots⟩ { g with stack := rest } (.invokevirtual index) mk (Value.ref b :: argsL).toArray X₁ hg hsize hdg hW (X₁.named hnamed) (hpre vm₁ X₁.warmed)
  exact ⟨v, vm₁, B, X₁.warmed, X', hpost, fun target h => hstep₁ _ fun acts => by rw [doInvoke_state]; exact hsteps.trans h⟩
abbrev vx_CVW (R : Room) (s : State) (args : Array Value) (own C : String) (index : Nat) (y : MethodName) (bytes : ByteArray) (maxL : Nat) (ret : Option FieldType) (hh : List (Nat × Nat × Nat × Nat)) (ws : List Cond) (rm : Room) (mc ms n : Nat) : Prop :=
  (rm.cells = mc ∧ rm.slots = ms ∧ rm.frames + 1 ≤ R.frames ∧ 8 + (maxL + 11) + rm.locals ≤ R.locals ∧ (∀ w ∈ ws, ∀ (a' : Array Value) (U : State), s.WarmedH U.vm → w.before a' U = true) ∧ Cond.codeWith y bytes maxL ret hh ∈ ws) ∧
  (Cond.codeWith y bytes maxL ret hh).before args s = true ∧ (Cond.initialized y.cls).before args s = true ∧ (y.cls ≠ "java/lang/invoke/MethodHandle" ∧ y.cls ≠ "java/lang/invoke/VarHandle") ∧
  (∀ sig, parseMethodDescriptor y.desc = some sig → n = sig.parameters.length) ∧ (Cond.methodLink own index y).before args s = true ∧ (Cond.instanceMethod y).before args s = true ∧ (Cond.selects C y y).before args s = true
theorem vx_cwVW {own C : String} {index maxL mc ms : Nat} {y : MethodName} {bytes : ByteArray} {ret : Option FieldType} {hh : List (Nat × Nat × Nat × Nat)} {Ts ws ws' : List Cond} {rm : Room} (n : Nat) (ht : ∀ w ∈ Ts, w.before args s = true) (hT : GoodIn Ts (wsV own index C y ws)) (hw : ws = Cond.codeWith y bytes maxL ret hh :: ws') (hrc : rm.cells = mc) (hrs : rm.slots = ms)
    (hd : y.cls = C ∧ y.cls ≠ "java/lang/invoke/MethodHandle" ∧ y.cls ≠ "java/lang/invoke/VarHandle" ∧ (parseMethodDescriptor y.desc).map (fun d => d.parameters.length) = some n) (hR : rm.frames + 1 ≤ R.frames ∧ 8 + (maxL + 11) + rm.locals ≤ R.locals) :
    vx_CVW R s args own C index y bytes maxL ret hh ws rm mc ms n := by
  obtain ⟨hC, hd⟩ := hd
  subst hC
  have ok : ∀ w ∈ wsV own index y.cls y ws, w.before args s = true := fun w h => ht w (hT w h).1
  have hG : GoodIn Ts ws := fun w h => hT w (by unfold wsV; exact List.mem_append_right _ h)
  have hc : Cond.codeWith y bytes maxL ret hh ∈ ws := by rw [hw]; exact List.mem_cons_self
  refine ⟨⟨hrc, hrs, hR.1, hR.2, pay_in ht hG, hc⟩, ht _ (hG _ hc).1, ok _ (by simp [wsV]), ⟨hd.1, hd.2.1⟩, fun sig h => ?_, ok _ (by simp [wsV]), ok _ (by simp [wsV]), ok _ (by simp [wsV])⟩
  have h2 := hd.2.2
  rw [h] at h2
  exact (Option.some.inj h2).symm
theorem vx_runVW {y : MethodName} {bytes cc : ByteArray} {maxL nL mc ms n index : Nat} {ret : Option FieldType} {hh : List (Nat × Nat × Nat × Nat)} {ws : List Cond} {rm : Room} {Pc : Array Value → State → Prop} {Qc : Array Value → State → Outcome → State → Prop} {free : Addr → Prop} {Ts : List Cond} {own C : String} {b : Addr} {As rest : List Value} {g : JFrame}
    (S : CallFix p m c cc nL s args Ts own) (hM : Met l y ws rm Pc Qc mc ms free) (cw : vx_CVW R s args own C index y bytes maxL ret hh ws rm mc ms n) (hp : PreV s H C b Pc As)
    (hg : g.method = m) (hn : As.length = n) (hsize : g.locals.size = nL) (hstack : g.stack = As.reverse ++ .ref b :: rest) (hW : 2 * g.monitorRoom + (rest.map fun v => v.category).sum ≤ 8) (hdg : decode cc g.pc = .ok (.invokevirtual index, 3)) (hf : cells + mc ≤ R.cells ∧ slots + ms ≤ R.slots) :
    va_Run p l e R s m args below meth c H locs cells slots mc ms g rest (Qc (Value.ref b :: As).toArray) free := by
  obtain ⟨⟨hrc, hrs, hfr, hlo, hws, hcw⟩, hcode, hini, hy, hlen, hl, hin, hse⟩ := cw
  have hK : Back l R p e below s args y 3 8 (PreOf R mc ms Pc) (PostOf Qc mc ms free) := va_backW (hh := hh) (bytes := bytes) (maxL := maxL) (ret := ret) hM hp.1 hrc hrs hfr hlo hws hcw (fun a' U hW => word_at hW (Or.inl (by first | rfl | simp [Cond.onTables, Cond.keeps, Cond.steady])) hini)
  obtain ⟨hx, hb, hml, ho, -⟩ := S
  obtain ⟨-, ⟨cellB, hcB, hoB, hclB⟩, hPc⟩ := hp
  intro T hT X
  obtain ⟨v, vm₁, ⟨U', l2, c2, s2⟩, hW₁, X', ⟨g', mk, t, L, e1, e2, hq, h1, hL, h2, h3⟩, st⟩ := vx_callVW X hx (C := C) (hh := hh) (bytes := bytes) (maxL := maxL) (ret := ret) ho hl hin hse hcode hy hK (by rw [hT]; exact hcB) hoB hclB hg (hsize.trans hml.symm) (argsL := As) (rest := rest) (fun sig h => hn.trans (hlen sig h)) hstack hW (by rw [hb]; exact hdg)
    (fun vm₁ hW₁ => ⟨hf.1, hf.2, hPc (T.setVm vm₁) hT hW₁⟩)
  dsimp only [Pt.U, Pt.locs, Pt.cells, Pt.slots] at X' e1 e2 h1 h2 h3 st
  subst h1; subst h2; subst h3
  exact ⟨v, (T.setVm vm₁).calling g' mk (Value.ref b :: As).toArray, t, U', L, hT, X', hL, e1, e2, hq, st⟩
section
variable {y : MethodName} {bytes cc : ByteArray} {maxL nL mc ms n index : Nat} {ret : Option FieldType} {ws : List Cond} {rm : Room} {Pc : Array Value → State → Prop} {Qc : Array Value → State → Outcome → State → Prop} {XC : String → State → State → Prop} {free : Addr → Prop} {Ts : List Cond} {own C : String} {b : Addr} {As rest : List Value} {g : JFrame}
theorem vx_runVX {hh : List (Nat × Nat × Nat × Nat)} (S : CallFix p m c cc nL s args Ts own) (hM : vx_Met l y ws rm Pc Qc XC mc ms free) (cw : vx_CVW R s args own C index y bytes maxL ret hh ws rm mc ms n) (hp : PreV s H C b Pc As)
    (hg : g.method = m) (hn : As.length = n) (hsize : g.locals.size = nL) (hstack : g.stack = As.reverse ++ .ref b :: rest) (hW : 2 * g.monitorRoom + (rest.map fun v => v.category).sum ≤ 8) (hdg : decode cc g.pc = .ok (.invokevirtual index, 3)) (hf : cells + mc ≤ R.cells ∧ slots + ms ≤ R.slots) :
    vx_Run p l e R s m args below meth c H locs cells slots mc ms g rest (Qc (Value.ref b :: As).toArray) XC free := by
  obtain ⟨⟨hrc, hrs, hfr, hlo, hws, hcw⟩, hcode, hini, hy, hlen, hl, hin, hse⟩ := cw
  have hK : vx_Back l R p e below s args y 3 8 (PreOf R mc ms Pc) (PostOf Qc mc ms free) (vx_Post XC mc ms free) := vx_backW (hh := hh) (bytes := bytes) (maxL := maxL) (ret := ret) hM hp.1 hrc hrs hfr hlo hws hcw (fun a' U hW => word_at hW (Or.inl (by first | rfl | simp [Cond.onTables, Cond.keeps, Cond.steady])) hini)
  obtain ⟨hx, hb, hml, ho, -⟩ := S
  obtain ⟨-, ⟨cellB, hcB, hoB, hclB⟩, hPc⟩ := hp
  intro T hT X
  rcases vx_callVX X hx (C := C) (hh := hh) (bytes := bytes) (maxL := maxL) (ret := ret) ho hl hin hse hcode hy hK (by rw [hT]; exact hcB) hoB hclB hg (hsize.trans hml.symm) (argsL := As) (rest := rest) (fun sig h => hn.trans (hlen sig h)) hstack hW (by rw [hb]; exact hdg)
    (fun vm₁ hW₁ => ⟨hf.1, hf.2, hPc (T.setVm vm₁) hT hW₁⟩) with ⟨v, vm₁, ⟨U', l2, c2, s2⟩, hW₁, X', ⟨g', mk, t, L, e1, e2, hq, h1, hL, h2, h3⟩, st⟩ | ⟨q, vm₁, ⟨U', l2, c2, s2⟩, hW₁, X', ⟨g', mk, t, L, E, ce, e1, e2, hq, hce, hcv, hcl, h1, hL, h2, h3⟩, st⟩
  · dsimp only [Pt.U, Pt.locs, Pt.cells, Pt.slots] at X' e1 e2 h1 h2 h3 st
    subst h1; subst h2; subst h3
    exact Or.inl ⟨v, (T.setVm vm₁).calling g' mk (Value.ref b :: As).toArray, t, U', L, hT, X', hL, e1, e2, hq, st⟩
  · dsimp only [Pt.U, Pt.locs, Pt.cells, Pt.slots] at X' e1 e2 h1 h2 h3 st hcl
    subst h1; subst h2; subst h3
    exact Or.inr ⟨q, (T.setVm vm₁).calling g' mk (Value.ref b :: As).toArray, t, U', L, E, ce, hT, X', hL, e1, e2, hq, hce, hcv, vx_cls hW₁ hcl, st⟩
theorem vx_runSX {hh : List (Nat × Nat × Nat × Nat)} (S : CallFix p m c cc nL s args Ts own) (hM : vx_Met l y ws rm Pc Qc XC mc ms free) (cw : vx_CSW R s args own index y bytes maxL ret hh ws rm mc ms n) (hp : PreS s H Pc As)
    (hg : g.method = m) (hn : As.length = n) (hsize : g.locals.size = nL) (hstack : g.stack = As.reverse ++ rest) (hW : 2 * g.monitorRoom + (rest.map fun v => v.category).sum ≤ 8) (hdg : decode cc g.pc = .ok (.invokestatic index, 3)) (hf : cells + mc ≤ R.cells ∧ slots + ms ≤ R.slots) :
    vx_Run p l e R s m args below meth c H locs cells slots mc ms g rest (Qc As.toArray) XC free := by
  obtain ⟨⟨hrc, hrs, hfr, hlo, hws, hcw⟩, hcode, hini, hy, hlen, hl, hstt⟩ := cw
  have hK : vx_Back l R p e below s args y 3 8 (PreOf R mc ms Pc) (PostOf Qc mc ms free) (vx_Post XC mc ms free) := vx_backW (hh := hh) (bytes := bytes) (maxL := maxL) (ret := ret) hM hp.1 hrc hrs hfr hlo hws hcw (fun a' U hW => word_at hW (Or.inl (by first | rfl | simp [Cond.onTables, Cond.keeps, Cond.steady])) hini)
  obtain ⟨hx, hb, hml, ho, -⟩ := S
  intro T hT X
  rcases vx_callSX X hx (hh := hh) (bytes := bytes) (maxL := maxL) (ret := ret) ho hl hstt hini hcode hy hK hg (hsize.trans hml.symm) (argsL := As) (rest := rest) (fun sig h => hn.trans (hlen sig h)) hstack hW (by rw [hb]; exact hdg)
    (fun vm₁ hW₁ => ⟨hf.1, hf.2, hp.2 (T.setVm vm₁) hT hW₁⟩) with ⟨v, vm₁, ⟨U', l2, c2, s2⟩, hW₁, X', ⟨g', mk, t, L, e1, e2, hq, h1, hL, h2, h3⟩, st⟩ | ⟨q, vm₁, ⟨U', l2, c2, s2⟩, hW₁, X', ⟨g', mk, t, L, E, ce, e1, e2, hq, hce, hcv, hcl, h1, hL, h2, h3⟩, st⟩
  · dsimp only [Pt.U, Pt.locs, Pt.cells, Pt.slots] at X' e1 e2 h1 h2 h3 st
    subst h1; subst h2; subst h3
    exact Or.inl ⟨v, (T.setVm vm₁).calling g' mk As.toArray, t, U', L, hT, X', hL, e1, e2, hq, st⟩
  · dsimp only [Pt.U, Pt.locs, Pt.cells, Pt.slots] at X' e1 e2 h1 h2 h3 st hcl
    subst h1; subst h2; subst h3
    exact Or.inr ⟨q, (T.setVm vm₁).calling g' mk As.toArray, t, U', L, E, ce, hT, X', hL, e1, e2, hq, hce, hcv, vx_cls hW₁ hcl, st⟩
end
end VXH
theorem vx_ofWH {l : Launch} {y : MethodName} {ws ws' : List Cond} {rm : Room} {Pc : Array Value → State → Prop} {Qc : Array Value → State → Outcome → State → Prop} {XC : String → State → State → Prop} {mc ms : Nat} {free : Addr → Prop} {cc : ByteArray} {maxL : Nat} {ret : Option FieldType} {hh : List (Nat × Nat × Nat × Nat)}
    (hy : plainName y.cls = true) (hw : ws = Cond.codeWith y cc maxL ret hh :: ws')
    (body : ∀ p e s m args below meth c s₁, BodyLoose p l y (headSpec ws rm) cc maxL ret e s m args below meth c s₁ → c.maxLocals = maxL → Pc args s →
      W p l e (headSpec ws rm).room s m args below meth c s.heap [] 0 0 (vx_MQ below Qc XC args s mc ms free) (entryFrame m args maxL)) : vx_Met l y ws rm Pc Qc XC mc ms free := by
  refine MetFree.of_bodyS (code := cc) (maxLocals := maxL) (ret := ret) hy ?_ ?_
  · intro args s m h hn
    obtain ⟨m9, meth, c, hn9, h1, h2, h3, h4, -, h5, h6, -⟩ := Cond.codeWith_spec (atoms_spec (ws := ws) h _ (by rw [hw]; exact List.mem_cons_self))
    cases hn.symm.trans hn9
    exact ⟨meth, c, h1, h2, h3, h4, h5, h6⟩
  · intro p e s m args below meth c s₁ B hml hP _
    have hh0 : s₁.heap = s.heap := by rw [B.state]; rfl
    obtain ⟨t, a1, o, b1, b2, b3⟩ := body p e s m args below meth c s₁ B hml hP s₁ hh0 (Stand.of_body B)
    exact ⟨t, o, a1, b1, b2, b3⟩
/-! ===== END ===== -/
end
section
def RX0 : String := "PartitionedCache$CommandText"
def TX0 : u_T := fun k => match k with
  | 0 => ("PartitionedCache$CommandText", "signs", "[C", true)
  | _ => ("PartitionedCache$CommandText", "length", "I", false)
def tyX0 : Nat → FieldType := fun k => match k with
  | 0 => .array .char
  | _ => .int
abbrev wsX00 : List Cond := u_ws RX0 TX0 2
theorem nmX0 : ∀ a, a < 2 → ∀ b, b < 2 → a ≠ b → (TX0 a).2.1 ≠ (TX0 b).2.1 := by decide +kernel
theorem tyX0_ok : ∀ k, k < 2 → parseFieldDescriptor (TX0 k).2.2.1 = some (tyX0 k) := by decide +kernel
abbrev cX0_init : ByteArray := prog_2_method_1_code
def yX0_init : MethodName := ⟨RX0, "<init>", "()V"⟩
abbrev cX0_append : ByteArray := prog_2_method_2_code
def yX0_append : MethodName := ⟨RX0, "append", "(C)V"⟩
abbrev cX0_signAt : ByteArray := prog_2_method_3_code
def yX0_signAt : MethodName := ⟨RX0, "signAt", "(I)I"⟩
abbrev cX0_commandBeginsAt : ByteArray := prog_2_method_4_code
def yX0_commandBeginsAt : MethodName := ⟨RX0, "commandBeginsAt", "(I)Z"⟩
abbrev cX0_numberAt : ByteArray := prog_2_method_5_code
def yX0_numberAt : MethodName := ⟨RX0, "numberAt", "(I)I"⟩
abbrev cX0_firstError : ByteArray := prog_2_method_6_code
def yX0_firstError : MethodName := ⟨RX0, "firstError", "()I"⟩
abbrev cX0_stageAfter : ByteArray := prog_2_method_7_code
def yX0_stageAfter : MethodName := ⟨RX0, "stageAfter", "(III)I"⟩
abbrev cX0_stageAfterFirst : ByteArray := prog_2_method_8_code
def yX0_stageAfterFirst : MethodName := ⟨RX0, "stageAfterFirst", "(I)I"⟩
abbrev cX0_mayGoOn : ByteArray := prog_2_method_9_code
def yX0_mayGoOn : MethodName := ⟨RX0, "mayGoOn", "(II)Z"⟩
abbrev cX0_isDigit : ByteArray := prog_2_method_10_code
def yX0_isDigit : MethodName := ⟨RX0, "isDigit", "(I)Z"⟩
abbrev cX0_isTenantDigit : ByteArray := prog_2_method_11_code
def yX0_isTenantDigit : MethodName := ⟨RX0, "isTenantDigit", "(I)Z"⟩
def RX1 : String := "PartitionedCache$History"
def TX1 : u_T := fun k => match k with
  | 0 => ("PartitionedCache$History", "ring", "[LPartitionedCache$State;", true)
  | 1 => ("PartitionedCache$History", "oldest", "I", false)
  | _ => ("PartitionedCache$History", "size", "I", false)
def tyX1 : Nat → FieldType := fun k => match k with
  | 0 => .array (.object "PartitionedCache$State")
  | 1 => .int
  | _ => .int
abbrev wsX10 : List Cond := u_ws RX1 TX1 3
theorem nmX1 : ∀ a, a < 3 → ∀ b, b < 3 → a ≠ b → (TX1 a).2.1 ≠ (TX1 b).2.1 := by decide +kernel
theorem tyX1_ok : ∀ k, k < 3 → parseFieldDescriptor (TX1 k).2.2.1 = some (tyX1 k) := by decide +kernel
abbrev cX1_init : ByteArray := prog_3_method_1_code
def yX1_init : MethodName := ⟨RX1, "<init>", "()V"⟩
abbrev cX1_push : ByteArray := prog_3_method_2_code
def yX1_push : MethodName := ⟨RX1, "push", "(LPartitionedCache$State;)V"⟩
abbrev cX1_popInto : ByteArray := prog_3_method_3_code
def yX1_popInto : MethodName := ⟨RX1, "popInto", "(LPartitionedCache$State;)V"⟩
def RX2 : String := "PartitionedCache$Monitors"
def TX2 : u_T := fun k => match k with
  | 0 => ("PartitionedCache$Monitors", "addresses", "[I", true)
  | _ => ("PartitionedCache$Monitors", "gains", "[I", true)
def tyX2 : Nat → FieldType := fun k => match k with
  | 0 => .array .int
  | _ => .array .int
abbrev wsX20 : List Cond := u_ws RX2 TX2 2
theorem nmX2 : ∀ a, a < 2 → ∀ b, b < 2 → a ≠ b → (TX2 a).2.1 ≠ (TX2 b).2.1 := by decide +kernel
theorem tyX2_ok : ∀ k, k < 2 → parseFieldDescriptor (TX2 k).2.2.1 = some (tyX2 k) := by decide +kernel
abbrev cX2_init : ByteArray := prog_4_method_1_code
def yX2_init : MethodName := ⟨RX2, "<init>", "()V"⟩
abbrev cX2_copyFrom : ByteArray := prog_4_method_2_code
def yX2_copyFrom : MethodName := ⟨RX2, "copyFrom", "(LPartitionedCache$Monitors;)V"⟩
abbrev cX2_note : ByteArray := prog_4_method_3_code
def yX2_note : MethodName := ⟨RX2, "note", "(II)V"⟩
abbrev cX2_utilityOf : ByteArray := prog_4_method_4_code
def yX2_utilityOf : MethodName := ⟨RX2, "utilityOf", "(II)I"⟩
abbrev cX2_sumOfGains : ByteArray := prog_4_method_5_code
def yX2_sumOfGains : MethodName := ⟨RX2, "sumOfGains", "()I"⟩
abbrev cX2_halve : ByteArray := prog_4_method_6_code
def yX2_halve : MethodName := ⟨RX2, "halve", "()V"⟩
def RX3 : String := "PartitionedCache$Places"
def TX3 : u_T := fun k => match k with
  | 0 => ("PartitionedCache$Places", "owners", "[I", true)
  | 1 => ("PartitionedCache$Places", "held", "[I", true)
  | _ => ("PartitionedCache$Places", "stamps", "[I", true)
def tyX3 : Nat → FieldType := fun k => match k with
  | 0 => .array .int
  | 1 => .array .int
  | _ => .array .int
abbrev wsX30 : List Cond := u_ws RX3 TX3 3
theorem nmX3 : ∀ a, a < 3 → ∀ b, b < 3 → a ≠ b → (TX3 a).2.1 ≠ (TX3 b).2.1 := by decide +kernel
theorem tyX3_ok : ∀ k, k < 3 → parseFieldDescriptor (TX3 k).2.2.1 = some (tyX3 k) := by decide +kernel
abbrev cX3_init : ByteArray := prog_5_method_1_code
def yX3_init : MethodName := ⟨RX3, "<init>", "()V"⟩
abbrev cX3_copyFrom : ByteArray := prog_5_method_2_code
def yX3_copyFrom : MethodName := ⟨RX3, "copyFrom", "(LPartitionedCache$Places;)V"⟩
abbrev cX3_ownedWays : ByteArray := prog_5_method_3_code
def yX3_ownedWays : MethodName := ⟨RX3, "ownedWays", "(I)I"⟩
abbrev cX3_resultOf : ByteArray := prog_5_method_4_code
def yX3_resultOf : MethodName := ⟨RX3, "resultOf", "(II)I"⟩
abbrev cX3_placeOf : ByteArray := prog_5_method_5_code
def yX3_placeOf : MethodName := ⟨RX3, "placeOf", "(II)I"⟩
abbrev cX3_renew : ByteArray := prog_5_method_6_code
def yX3_renew : MethodName := ⟨RX3, "renew", "(III)V"⟩
abbrev cX3_placeToFill : ByteArray := prog_5_method_7_code
def yX3_placeToFill : MethodName := ⟨RX3, "placeToFill", "(II)I"⟩
abbrev cX3_holdsLineOf : ByteArray := prog_5_method_8_code
def yX3_holdsLineOf : MethodName := ⟨RX3, "holdsLineOf", "(II)Z"⟩
abbrev cX3_linesInWay : ByteArray := prog_5_method_9_code
def yX3_linesInWay : MethodName := ⟨RX3, "linesInWay", "(II)I"⟩
abbrev cX3_linesOf : ByteArray := prog_5_method_10_code
def yX3_linesOf : MethodName := ⟨RX3, "linesOf", "(I)I"⟩
abbrev cX3_linesInOwnWays : ByteArray := prog_5_method_11_code
def yX3_linesInOwnWays : MethodName := ⟨RX3, "linesInOwnWays", "(I)I"⟩
abbrev cX3_allLines : ByteArray := prog_5_method_12_code
def yX3_allLines : MethodName := ⟨RX3, "allLines", "()I"⟩
abbrev cX3_removeLinesOf : ByteArray := prog_5_method_13_code
def yX3_removeLinesOf : MethodName := ⟨RX3, "removeLinesOf", "(I)I"⟩
abbrev cX3_wayWithFewestLines : ByteArray := prog_5_method_14_code
def yX3_wayWithFewestLines : MethodName := ⟨RX3, "wayWithFewestLines", "(I)I"⟩
def RX4 : String := "PartitionedCache$State"
def TX4 : u_T := fun k => match k with
  | 0 => ("PartitionedCache$State", "places", "LPartitionedCache$Places;", true)
  | 1 => ("PartitionedCache$State", "monitors", "LPartitionedCache$Monitors;", true)
  | 2 => ("PartitionedCache$State", "leasts", "[I", true)
  | 3 => ("PartitionedCache$State", "counts", "[I", true)
  | 4 => ("PartitionedCache$State", "epoch", "I", false)
  | _ => ("PartitionedCache$State", "accesses", "I", false)
def tyX4 : Nat → FieldType := fun k => match k with
  | 0 => .object "PartitionedCache$Places"
  | 1 => .object "PartitionedCache$Monitors"
  | 2 => .array .int
  | 3 => .array .int
  | 4 => .int
  | _ => .int
abbrev wsX40 : List Cond := u_ws RX4 TX4 6
theorem nmX4 : ∀ a, a < 6 → ∀ b, b < 6 → a ≠ b → (TX4 a).2.1 ≠ (TX4 b).2.1 := by decide +kernel
theorem tyX4_ok : ∀ k, k < 6 → parseFieldDescriptor (TX4 k).2.2.1 = some (tyX4 k) := by decide +kernel
abbrev cX4_init : ByteArray := prog_6_method_1_code
def yX4_init : MethodName := ⟨RX4, "<init>", "()V"⟩
abbrev cX4_copyFrom : ByteArray := prog_6_method_2_code
def yX4_copyFrom : MethodName := ⟨RX4, "copyFrom", "(LPartitionedCache$State;)V"⟩
def RX5 : String := "PartitionedCache$Targets"
def TX5 : u_T := fun k => match k with
  | _ => ("PartitionedCache$Targets", "ways", "[I", true)
def tyX5 : Nat → FieldType := fun k => match k with
  | _ => .array .int
abbrev wsX50 : List Cond := u_ws RX5 TX5 1
theorem nmX5 : ∀ a, a < 1 → ∀ b, b < 1 → a ≠ b → (TX5 a).2.1 ≠ (TX5 b).2.1 := by decide +kernel
theorem tyX5_ok : ∀ k, k < 1 → parseFieldDescriptor (TX5 k).2.2.1 = some (tyX5 k) := by decide +kernel
abbrev cX5_init : ByteArray := prog_7_method_1_code
def yX5_init : MethodName := ⟨RX5, "<init>", "()V"⟩
abbrev cX5_compute : ByteArray := prog_7_method_2_code
def yX5_compute : MethodName := ⟨RX5, "compute", "(LPartitionedCache$State;)V"⟩
abbrev cX5_growOne : ByteArray := prog_7_method_3_code
def yX5_growOne : MethodName := ⟨RX5, "growOne", "(LPartitionedCache$Monitors;I)I"⟩
abbrev cX5_lowest : ByteArray := prog_7_method_4_code
def yX5_lowest : MethodName := ⟨RX5, "lowest", "()I"⟩
def RX6 : String := "PartitionedCache"
def TX6 : u_T := fun k => match k with
  | 0 => ("PartitionedCache", "now", "LPartitionedCache$State;", true)
  | 1 => ("PartitionedCache", "targets", "LPartitionedCache$Targets;", true)
  | 2 => ("PartitionedCache", "history", "LPartitionedCache$History;", true)
  | 3 => ("PartitionedCache", "text", "LPartitionedCache$CommandText;", true)
  | 4 => ("PartitionedCache", "slots", "[LPartitionedCache$State;", true)
  | _ => ("PartitionedCache", "slotFilled", "[Z", true)
def tyX6 : Nat → FieldType := fun k => match k with
  | 0 => .object "PartitionedCache$State"
  | 1 => .object "PartitionedCache$Targets"
  | 2 => .object "PartitionedCache$History"
  | 3 => .object "PartitionedCache$CommandText"
  | 4 => .array (.object "PartitionedCache$State")
  | _ => .array .boolean
abbrev wsX60 : List Cond := u_ws RX6 TX6 6
theorem nmX6 : ∀ a, a < 6 → ∀ b, b < 6 → a ≠ b → (TX6 a).2.1 ≠ (TX6 b).2.1 := by decide +kernel
theorem tyX6_ok : ∀ k, k < 6 → parseFieldDescriptor (TX6 k).2.2.1 = some (tyX6 k) := by decide +kernel
abbrev cX6_init : ByteArray := prog_1_method_1_code
def yX6_init : MethodName := ⟨RX6, "<init>", "()V"⟩
abbrev cX6_access : ByteArray := prog_1_method_2_code
def yX6_access : MethodName := ⟨RX6, "access", "(II)I"⟩
abbrev cX6_stream : ByteArray := prog_1_method_3_code
def yX6_stream : MethodName := ⟨RX6, "stream", "(IIII)I"⟩
abbrev cX6_flush : ByteArray := prog_1_method_4_code
def yX6_flush : MethodName := ⟨RX6, "flush", "(I)I"⟩
abbrev cX6_moveWay : ByteArray := prog_1_method_5_code
def yX6_moveWay : MethodName := ⟨RX6, "moveWay", "()I"⟩
abbrev cX6_giveWay : ByteArray := prog_1_method_6_code
def yX6_giveWay : MethodName := ⟨RX6, "giveWay", "(II)I"⟩
abbrev cX6_setLeast : ByteArray := prog_1_method_7_code
def yX6_setLeast : MethodName := ⟨RX6, "setLeast", "(II)I"⟩
abbrev cX6_setEpoch : ByteArray := prog_1_method_8_code
def yX6_setEpoch : MethodName := ⟨RX6, "setEpoch", "(I)I"⟩
abbrev cX6_halveGains : ByteArray := prog_1_method_9_code
def yX6_halveGains : MethodName := ⟨RX6, "halveGains", "()I"⟩
abbrev cX6_appendText : ByteArray := prog_1_method_10_code
def yX6_appendText : MethodName := ⟨RX6, "appendText", "(I)I"⟩
abbrev cX6_clearText : ByteArray := prog_1_method_11_code
def yX6_clearText : MethodName := ⟨RX6, "clearText", "()I"⟩
abbrev cX6_errorPosition : ByteArray := prog_1_method_12_code
def yX6_errorPosition : MethodName := ⟨RX6, "errorPosition", "()I"⟩
abbrev cX6_runText : ByteArray := prog_1_method_13_code
def yX6_runText : MethodName := ⟨RX6, "runText", "()I"⟩
abbrev cX6_undo : ByteArray := prog_1_method_14_code
def yX6_undo : MethodName := ⟨RX6, "undo", "()I"⟩
abbrev cX6_save : ByteArray := prog_1_method_15_code
def yX6_save : MethodName := ⟨RX6, "save", "(I)I"⟩
abbrev cX6_restore : ByteArray := prog_1_method_16_code
def yX6_restore : MethodName := ⟨RX6, "restore", "(I)I"⟩
abbrev cX6_owner : ByteArray := prog_1_method_17_code
def yX6_owner : MethodName := ⟨RX6, "owner", "(I)I"⟩
abbrev cX6_waysOf : ByteArray := prog_1_method_18_code
def yX6_waysOf : MethodName := ⟨RX6, "waysOf", "(I)I"⟩
abbrev cX6_line : ByteArray := prog_1_method_19_code
def yX6_line : MethodName := ⟨RX6, "line", "(II)I"⟩
abbrev cX6_lines : ByteArray := prog_1_method_20_code
def yX6_lines : MethodName := ⟨RX6, "lines", "(IZ)I"⟩
abbrev cX6_ifAccessed : ByteArray := prog_1_method_21_code
def yX6_ifAccessed : MethodName := ⟨RX6, "ifAccessed", "(II)I"⟩
abbrev cX6_victim : ByteArray := prog_1_method_22_code
def yX6_victim : MethodName := ⟨RX6, "victim", "(II)I"⟩
abbrev cX6_gain : ByteArray := prog_1_method_23_code
def yX6_gain : MethodName := ⟨RX6, "gain", "(II)I"⟩
abbrev cX6_utility : ByteArray := prog_1_method_24_code
def yX6_utility : MethodName := ⟨RX6, "utility", "(II)I"⟩
abbrev cX6_monitored : ByteArray := prog_1_method_25_code
def yX6_monitored : MethodName := ⟨RX6, "monitored", "(III)I"⟩
abbrev cX6_target : ByteArray := prog_1_method_26_code
def yX6_target : MethodName := ⟨RX6, "target", "(I)I"⟩
abbrev cX6_movesLeft : ByteArray := prog_1_method_27_code
def yX6_movesLeft : MethodName := ⟨RX6, "movesLeft", "()I"⟩
abbrev cX6_totalUtility : ByteArray := prog_1_method_28_code
def yX6_totalUtility : MethodName := ⟨RX6, "totalUtility", "()I"⟩
abbrev cX6_count : ByteArray := prog_1_method_29_code
def yX6_count : MethodName := ⟨RX6, "count", "(II)I"⟩
abbrev cX6_accesses : ByteArray := prog_1_method_30_code
def yX6_accesses : MethodName := ⟨RX6, "accesses", "()I"⟩
abbrev cX6_hitRate : ByteArray := prog_1_method_31_code
def yX6_hitRate : MethodName := ⟨RX6, "hitRate", "(I)D"⟩
abbrev cX6_savedStates : ByteArray := prog_1_method_32_code
def yX6_savedStates : MethodName := ⟨RX6, "savedStates", "()I"⟩
abbrev cX6_textLength : ByteArray := prog_1_method_33_code
def yX6_textLength : MethodName := ⟨RX6, "textLength", "()I"⟩
abbrev cX6_requireTenant : ByteArray := prog_1_method_34_code
def yX6_requireTenant : MethodName := ⟨RX6, "requireTenant", "(I)V"⟩
abbrev cX6_requireIndex : ByteArray := prog_1_method_35_code
def yX6_requireIndex : MethodName := ⟨RX6, "requireIndex", "(II)V"⟩
abbrev cX6_requireArgument : ByteArray := prog_1_method_36_code
def yX6_requireArgument : MethodName := ⟨RX6, "requireArgument", "(III)V"⟩
abbrev cX6_isSampled : ByteArray := prog_1_method_37_code
def yX6_isSampled : MethodName := ⟨RX6, "isSampled", "(I)Z"⟩
abbrev cX6_listStart : ByteArray := prog_1_method_38_code
def yX6_listStart : MethodName := ⟨RX6, "listStart", "(II)I"⟩
abbrev cX6_makeAccess : ByteArray := prog_1_method_39_code
def yX6_makeAccess : MethodName := ⟨RX6, "makeAccess", "(II)I"⟩
abbrev cX6_bringIn : ByteArray := prog_1_method_40_code
def yX6_bringIn : MethodName := ⟨RX6, "bringIn", "(II)V"⟩
abbrev cX6_moveOneWay : ByteArray := prog_1_method_41_code
def yX6_moveOneWay : MethodName := ⟨RX6, "moveOneWay", "()I"⟩
abbrev cX6_deficitOf : ByteArray := prog_1_method_42_code
def yX6_deficitOf : MethodName := ⟨RX6, "deficitOf", "(I)I"⟩
abbrev cX6_runCommand : ByteArray := prog_1_method_43_code
def yX6_runCommand : MethodName := ⟨RX6, "runCommand", "(I)I"⟩
def RX7 : String := "PartitionedCacheModel"
def TX7 : u_T := fun k => match k with
  | 0 => ("PartitionedCacheModel", "row", "[I", true)
  | 1 => ("PartitionedCacheModel", "past", "[I", true)
  | 2 => ("PartitionedCacheModel", "slots", "[I", true)
  | 3 => ("PartitionedCacheModel", "has", "[Z", true)
  | 4 => ("PartitionedCacheModel", "states", "I", false)
  | 5 => ("PartitionedCacheModel", "targets", "[I", true)
  | 6 => ("PartitionedCacheModel", "buffer", "[I", true)
  | 7 => ("PartitionedCacheModel", "length", "I", false)
  | 8 => ("PartitionedCacheModel", "at", "I", false)
  | 9 => ("PartitionedCacheModel", "number", "I", false)
  | _ => ("PartitionedCacheModel", "thrown", "I", false)
def tyX7 : Nat → FieldType := fun k => match k with
  | 0 => .array .int
  | 1 => .array .int
  | 2 => .array .int
  | 3 => .array .boolean
  | 4 => .int
  | 5 => .array .int
  | 6 => .array .int
  | 7 => .int
  | 8 => .int
  | 9 => .int
  | _ => .int
abbrev wsX70 : List Cond := u_ws RX7 TX7 11
theorem nmX7 : ∀ a, a < 11 → ∀ b, b < 11 → a ≠ b → (TX7 a).2.1 ≠ (TX7 b).2.1 := by decide +kernel
theorem tyX7_ok : ∀ k, k < 11 → parseFieldDescriptor (TX7 k).2.2.1 = some (tyX7 k) := by decide +kernel
abbrev cX7_init : ByteArray := prog_9_method_1_code
def yX7_init : MethodName := ⟨RX7, "<init>", "()V"⟩
abbrev cX7_thrown : ByteArray := prog_9_method_2_code
def yX7_thrown : MethodName := ⟨RX7, "thrown", "()I"⟩
abbrev cX7_fails : ByteArray := prog_9_method_3_code
def yX7_fails : MethodName := ⟨RX7, "fails", "(I)I"⟩
abbrev cX7_in : ByteArray := prog_9_method_4_code
def yX7_in : MethodName := ⟨RX7, "in", "(III)Z"⟩
abbrev cX7_record : ByteArray := prog_9_method_5_code
def yX7_record : MethodName := ⟨RX7, "record", "()V"⟩
abbrev cX7_owned : ByteArray := prog_9_method_6_code
def yX7_owned : MethodName := ⟨RX7, "owned", "(I)I"⟩
abbrev cX7_linesOf : ByteArray := prog_9_method_7_code
def yX7_linesOf : MethodName := ⟨RX7, "linesOf", "(IZ)I"⟩
abbrev cX7_allLines : ByteArray := prog_9_method_8_code
def yX7_allLines : MethodName := ⟨RX7, "allLines", "()I"⟩
abbrev cX7_find : ByteArray := prog_9_method_9_code
def yX7_find : MethodName := ⟨RX7, "find", "(II)I"⟩
abbrev cX7_placeFor : ByteArray := prog_9_method_10_code
def yX7_placeFor : MethodName := ⟨RX7, "placeFor", "(II)I"⟩
abbrev cX7_wouldBe : ByteArray := prog_9_method_11_code
def yX7_wouldBe : MethodName := ⟨RX7, "wouldBe", "(II)I"⟩
abbrev cX7_watch : ByteArray := prog_9_method_12_code
def yX7_watch : MethodName := ⟨RX7, "watch", "(II)V"⟩
abbrev cX7_halve : ByteArray := prog_9_method_13_code
def yX7_halve : MethodName := ⟨RX7, "halve", "()I"⟩
abbrev cX7_gained : ByteArray := prog_9_method_14_code
def yX7_gained : MethodName := ⟨RX7, "gained", "(II)I"⟩
abbrev cX7_lowestTarget : ByteArray := prog_9_method_15_code
def yX7_lowestTarget : MethodName := ⟨RX7, "lowestTarget", "()I"⟩
abbrev cX7_giveSome : ByteArray := prog_9_method_16_code
def yX7_giveSome : MethodName := ⟨RX7, "giveSome", "(I)I"⟩
abbrev cX7_findTargets : ByteArray := prog_9_method_17_code
def yX7_findTargets : MethodName := ⟨RX7, "findTargets", "()V"⟩
abbrev cX7_deficit : ByteArray := prog_9_method_18_code
def yX7_deficit : MethodName := ⟨RX7, "deficit", "(I)I"⟩
abbrev cX7_linesIn : ByteArray := prog_9_method_19_code
def yX7_linesIn : MethodName := ⟨RX7, "linesIn", "(II)I"⟩
abbrev cX7_move : ByteArray := prog_9_method_20_code
def yX7_move : MethodName := ⟨RX7, "move", "()I"⟩
abbrev cX7_put : ByteArray := prog_9_method_21_code
def yX7_put : MethodName := ⟨RX7, "put", "(II)V"⟩
abbrev cX7_visits : ByteArray := prog_9_method_22_code
def yX7_visits : MethodName := ⟨RX7, "visits", "(II)I"⟩
abbrev cX7_flushes : ByteArray := prog_9_method_23_code
def yX7_flushes : MethodName := ⟨RX7, "flushes", "(I)I"⟩
abbrev cX7_access : ByteArray := prog_9_method_24_code
def yX7_access : MethodName := ⟨RX7, "access", "(II)I"⟩
abbrev cX7_stream : ByteArray := prog_9_method_25_code
def yX7_stream : MethodName := ⟨RX7, "stream", "(IIII)I"⟩
abbrev cX7_flush : ByteArray := prog_9_method_26_code
def yX7_flush : MethodName := ⟨RX7, "flush", "(I)I"⟩
abbrev cX7_moveWay : ByteArray := prog_9_method_27_code
def yX7_moveWay : MethodName := ⟨RX7, "moveWay", "()I"⟩
abbrev cX7_giveWay : ByteArray := prog_9_method_28_code
def yX7_giveWay : MethodName := ⟨RX7, "giveWay", "(II)I"⟩
abbrev cX7_setLeast : ByteArray := prog_9_method_29_code
def yX7_setLeast : MethodName := ⟨RX7, "setLeast", "(II)I"⟩
abbrev cX7_setEpoch : ByteArray := prog_9_method_30_code
def yX7_setEpoch : MethodName := ⟨RX7, "setEpoch", "(I)I"⟩
abbrev cX7_halveGains : ByteArray := prog_9_method_31_code
def yX7_halveGains : MethodName := ⟨RX7, "halveGains", "()I"⟩
abbrev cX7_appendText : ByteArray := prog_9_method_32_code
def yX7_appendText : MethodName := ⟨RX7, "appendText", "(I)I"⟩
abbrev cX7_clearText : ByteArray := prog_9_method_33_code
def yX7_clearText : MethodName := ⟨RX7, "clearText", "()I"⟩
abbrev cX7_sees : ByteArray := prog_9_method_34_code
def yX7_sees : MethodName := ⟨RX7, "sees", "(II)Z"⟩
abbrev cX7_takes : ByteArray := prog_9_method_35_code
def yX7_takes : MethodName := ⟨RX7, "takes", "(I)Z"⟩
abbrev cX7_reads : ByteArray := prog_9_method_36_code
def yX7_reads : MethodName := ⟨RX7, "reads", "()Z"⟩
abbrev cX7_command : ByteArray := prog_9_method_37_code
def yX7_command : MethodName := ⟨RX7, "command", "()I"⟩
abbrev cX7_isValid : ByteArray := prog_9_method_38_code
def yX7_isValid : MethodName := ⟨RX7, "isValid", "()Z"⟩
abbrev cX7_errorPosition : ByteArray := prog_9_method_39_code
def yX7_errorPosition : MethodName := ⟨RX7, "errorPosition", "()I"⟩
abbrev cX7_does : ByteArray := prog_9_method_40_code
def yX7_does : MethodName := ⟨RX7, "does", "(I)I"⟩
abbrev cX7_runText : ByteArray := prog_9_method_41_code
def yX7_runText : MethodName := ⟨RX7, "runText", "()I"⟩
abbrev cX7_undo : ByteArray := prog_9_method_42_code
def yX7_undo : MethodName := ⟨RX7, "undo", "()I"⟩
abbrev cX7_save : ByteArray := prog_9_method_43_code
def yX7_save : MethodName := ⟨RX7, "save", "(I)I"⟩
abbrev cX7_restore : ByteArray := prog_9_method_44_code
def yX7_restore : MethodName := ⟨RX7, "restore", "(I)I"⟩
abbrev cX7_owner : ByteArray := prog_9_method_45_code
def yX7_owner : MethodName := ⟨RX7, "owner", "(I)I"⟩
abbrev cX7_waysOf : ByteArray := prog_9_method_46_code
def yX7_waysOf : MethodName := ⟨RX7, "waysOf", "(I)I"⟩
abbrev cX7_line : ByteArray := prog_9_method_47_code
def yX7_line : MethodName := ⟨RX7, "line", "(II)I"⟩
abbrev cX7_lines : ByteArray := prog_9_method_48_code
def yX7_lines : MethodName := ⟨RX7, "lines", "(IZ)I"⟩
abbrev cX7_ifAccessed : ByteArray := prog_9_method_49_code
def yX7_ifAccessed : MethodName := ⟨RX7, "ifAccessed", "(II)I"⟩
abbrev cX7_victim : ByteArray := prog_9_method_50_code
def yX7_victim : MethodName := ⟨RX7, "victim", "(II)I"⟩
abbrev cX7_gain : ByteArray := prog_9_method_51_code
def yX7_gain : MethodName := ⟨RX7, "gain", "(II)I"⟩
abbrev cX7_utility : ByteArray := prog_9_method_52_code
def yX7_utility : MethodName := ⟨RX7, "utility", "(II)I"⟩
abbrev cX7_monitored : ByteArray := prog_9_method_53_code
def yX7_monitored : MethodName := ⟨RX7, "monitored", "(III)I"⟩
abbrev cX7_target : ByteArray := prog_9_method_54_code
def yX7_target : MethodName := ⟨RX7, "target", "(I)I"⟩
abbrev cX7_movesLeft : ByteArray := prog_9_method_55_code
def yX7_movesLeft : MethodName := ⟨RX7, "movesLeft", "()I"⟩
abbrev cX7_totalUtility : ByteArray := prog_9_method_56_code
def yX7_totalUtility : MethodName := ⟨RX7, "totalUtility", "()I"⟩
abbrev cX7_count : ByteArray := prog_9_method_57_code
def yX7_count : MethodName := ⟨RX7, "count", "(II)I"⟩
abbrev cX7_accesses : ByteArray := prog_9_method_58_code
def yX7_accesses : MethodName := ⟨RX7, "accesses", "()I"⟩
abbrev cX7_hitRate : ByteArray := prog_9_method_59_code
def yX7_hitRate : MethodName := ⟨RX7, "hitRate", "(I)D"⟩
abbrev cX7_savedStates : ByteArray := prog_9_method_60_code
def yX7_savedStates : MethodName := ⟨RX7, "savedStates", "()I"⟩
abbrev cX7_textLength : ByteArray := prog_9_method_61_code
def yX7_textLength : MethodName := ⟨RX7, "textLength", "()I"⟩
def RJ9 : String := "java/lang/Math"
def TJ9 : u_T := fun k => match k with
  | _ => ("", "", "", false)
def tyJ9 : Nat → FieldType := fun k => match k with
  | _ => .int
abbrev wsJ90 : List Cond := u_ws RJ9 TJ9 0
theorem nmJ9 : ∀ a, a < 0 → ∀ b, b < 0 → a ≠ b → (TJ9 a).2.1 ≠ (TJ9 b).2.1 := by decide +kernel
theorem tyJ9_ok : ∀ k, k < 0 → parseFieldDescriptor (TJ9 k).2.2.1 = some (tyJ9 k) := by decide +kernel
abbrev cJ9_max_7cf53 : ByteArray := prog_14_method_65_code
def yJ9_max_7cf53 : MethodName := ⟨RJ9, "max", "(II)I"⟩
def RJ0 : String := "java/lang/String"
def TJ0 : u_T := fun k => match k with
  | _ => ("", "", "", false)
def tyJ0 : Nat → FieldType := fun k => match k with
  | _ => .int
abbrev wsJ00 : List Cond := u_ws RJ0 TJ0 0
theorem nmJ0 : ∀ a, a < 0 → ∀ b, b < 0 → a ≠ b → (TJ0 a).2.1 ≠ (TJ0 b).2.1 := by decide +kernel
theorem tyJ0_ok : ∀ k, k < 0 → parseFieldDescriptor (TJ0 k).2.2.1 = some (tyJ0 k) := by decide +kernel
def RJ10 : String := "java/lang/System"
def TJ10 : u_T := fun k => match k with
  | _ => ("", "", "", false)
def tyJ10 : Nat → FieldType := fun k => match k with
  | _ => .int
abbrev wsJ100 : List Cond := u_ws RJ10 TJ10 0
theorem nmJ10 : ∀ a, a < 0 → ∀ b, b < 0 → a ≠ b → (TJ10 a).2.1 ≠ (TJ10 b).2.1 := by decide +kernel
theorem tyJ10_ok : ∀ k, k < 0 → parseFieldDescriptor (TJ10 k).2.2.1 = some (tyJ10 k) := by decide +kernel
def RL : String := "PartitionedCacheLaw"
abbrev cL_access : ByteArray := method_3_code
def yL_access : MethodName := ⟨RL, "access", "(LPartitionedCache;II[J)I"⟩
abbrev cL_stream : ByteArray := method_4_code
def yL_stream : MethodName := ⟨RL, "stream", "(LPartitionedCache;IIII[J)I"⟩
abbrev cL_flush : ByteArray := method_5_code
def yL_flush : MethodName := ⟨RL, "flush", "(LPartitionedCache;I[J)I"⟩
abbrev cL_giveWay : ByteArray := method_6_code
def yL_giveWay : MethodName := ⟨RL, "giveWay", "(LPartitionedCache;II[J)I"⟩
abbrev cL_setLeast : ByteArray := method_7_code
def yL_setLeast : MethodName := ⟨RL, "setLeast", "(LPartitionedCache;II[J)I"⟩
abbrev cL_setEpoch : ByteArray := method_8_code
def yL_setEpoch : MethodName := ⟨RL, "setEpoch", "(LPartitionedCache;I[J)I"⟩
abbrev cL_appendText : ByteArray := method_9_code
def yL_appendText : MethodName := ⟨RL, "appendText", "(LPartitionedCache;I[J)I"⟩
abbrev cL_runText : ByteArray := method_10_code
def yL_runText : MethodName := ⟨RL, "runText", "(LPartitionedCache;[J)I"⟩
abbrev cL_undo : ByteArray := method_11_code
def yL_undo : MethodName := ⟨RL, "undo", "(LPartitionedCache;[J)I"⟩
abbrev cL_save : ByteArray := method_12_code
def yL_save : MethodName := ⟨RL, "save", "(LPartitionedCache;I[J)I"⟩
abbrev cL_restore : ByteArray := method_13_code
def yL_restore : MethodName := ⟨RL, "restore", "(LPartitionedCache;I[J)I"⟩
abbrev cL_owner : ByteArray := method_14_code
def yL_owner : MethodName := ⟨RL, "owner", "(LPartitionedCache;I[J)I"⟩
abbrev cL_waysOf : ByteArray := method_15_code
def yL_waysOf : MethodName := ⟨RL, "waysOf", "(LPartitionedCache;I[J)I"⟩
abbrev cL_line : ByteArray := method_16_code
def yL_line : MethodName := ⟨RL, "line", "(LPartitionedCache;II[J)I"⟩
abbrev cL_lines : ByteArray := method_17_code
def yL_lines : MethodName := ⟨RL, "lines", "(LPartitionedCache;IZ[J)I"⟩
abbrev cL_ifAccessed : ByteArray := method_18_code
def yL_ifAccessed : MethodName := ⟨RL, "ifAccessed", "(LPartitionedCache;II[J)I"⟩
abbrev cL_victim : ByteArray := method_19_code
def yL_victim : MethodName := ⟨RL, "victim", "(LPartitionedCache;II[J)I"⟩
abbrev cL_gain : ByteArray := method_20_code
def yL_gain : MethodName := ⟨RL, "gain", "(LPartitionedCache;II[J)I"⟩
abbrev cL_utility : ByteArray := method_21_code
def yL_utility : MethodName := ⟨RL, "utility", "(LPartitionedCache;II[J)I"⟩
abbrev cL_monitored : ByteArray := method_22_code
def yL_monitored : MethodName := ⟨RL, "monitored", "(LPartitionedCache;III[J)I"⟩
abbrev cL_target : ByteArray := method_23_code
def yL_target : MethodName := ⟨RL, "target", "(LPartitionedCache;I[J)I"⟩
abbrev cL_count : ByteArray := method_24_code
def yL_count : MethodName := ⟨RL, "count", "(LPartitionedCache;II[J)I"⟩
abbrev cL_hitRate : ByteArray := method_25_code
def yL_hitRate : MethodName := ⟨RL, "hitRate", "(LPartitionedCache;I[D)I"⟩
abbrev cL_law : ByteArray := code
def yL_law : MethodName := ⟨RL, "law", "([I)Z"⟩
def wsX0_init : List Cond := .code yX0_init cX0_init 1 none :: ([.methodLink RX0 3 objectInit, .instanceMethod objectInit, .code objectInit ⟨#[0xb1]⟩ 1 none, .arrayClass .char, .fieldLink RX0 9 "PartitionedCache$CommandText" "signs" "[C", .fieldLink RX0 15 "PartitionedCache$CommandText" "length" "I"] ++ wsX00)
def wsX0_append : List Cond := .code yX0_append cX0_append 2 none :: ([.fieldLink RX0 15 "PartitionedCache$CommandText" "length" "I", .fieldLink RX0 9 "PartitionedCache$CommandText" "signs" "[C"] ++ wsX00)
def wsX0_signAt : List Cond := .code yX0_signAt cX0_signAt 2 (some .int) :: ([.fieldLink RX0 15 "PartitionedCache$CommandText" "length" "I", .fieldLink RX0 9 "PartitionedCache$CommandText" "signs" "[C"] ++ wsX00)
def wsX0_commandBeginsAt : List Cond := .code yX0_commandBeginsAt cX0_commandBeginsAt 2 (some .boolean) :: ([.methodLink RX0 19 yX0_signAt, .instanceMethod yX0_signAt, .selects RX0 yX0_signAt yX0_signAt, .initialized RX0, .code yX0_signAt cX0_signAt 2 (some .int), .fieldLink RX0 15 "PartitionedCache$CommandText" "length" "I", .fieldLink RX0 9 "PartitionedCache$CommandText" "signs" "[C"] ++ wsX00)
def wsX0_isDigit : List Cond := .code yX0_isDigit cX0_isDigit 1 (some .boolean) :: ([])
def wsX0_numberAt : List Cond := .code yX0_numberAt cX0_numberAt 4 (some .int) :: ([.fieldLink RX0 15 "PartitionedCache$CommandText" "length" "I", .methodLink RX0 19 yX0_signAt, .instanceMethod yX0_signAt, .selects RX0 yX0_signAt yX0_signAt, .initialized RX0, .code yX0_signAt cX0_signAt 2 (some .int), .fieldLink RX0 9 "PartitionedCache$CommandText" "signs" "[C", .methodLink RX0 23 yX0_isDigit, .static yX0_isDigit, .code yX0_isDigit cX0_isDigit 1 (some .boolean)] ++ wsX00)
def wsX0_isTenantDigit : List Cond := .code yX0_isTenantDigit cX0_isTenantDigit 1 (some .boolean) :: ([])
def wsX0_stageAfterFirst : List Cond := .code yX0_stageAfterFirst cX0_stageAfterFirst 1 (some .int) :: ([.methodLink RX0 38 yX0_isTenantDigit, .static yX0_isTenantDigit, .initialized RX0, .code yX0_isTenantDigit cX0_isTenantDigit 1 (some .boolean)])
def wsX0_mayGoOn : List Cond := .code yX0_mayGoOn cX0_mayGoOn 2 (some .boolean) :: ([])
def wsX0_stageAfter : List Cond := .code yX0_stageAfter cX0_stageAfter 3 (some .int) :: ([.methodLink RX0 31 yX0_stageAfterFirst, .static yX0_stageAfterFirst, .initialized RX0, .code yX0_stageAfterFirst cX0_stageAfterFirst 1 (some .int), .methodLink RX0 38 yX0_isTenantDigit, .static yX0_isTenantDigit, .code yX0_isTenantDigit cX0_isTenantDigit 1 (some .boolean), .methodLink RX0 23 yX0_isDigit, .static yX0_isDigit, .code yX0_isDigit cX0_isDigit 1 (some .boolean), .methodLink RX0 34 yX0_mayGoOn, .static yX0_mayGoOn, .code yX0_mayGoOn cX0_mayGoOn 2 (some .boolean)])
def wsX0_firstError : List Cond := .code yX0_firstError cX0_firstError 6 (some .int) :: ([.fieldLink RX0 15 "PartitionedCache$CommandText" "length" "I", .methodLink RX0 19 yX0_signAt, .instanceMethod yX0_signAt, .selects RX0 yX0_signAt yX0_signAt, .initialized RX0, .code yX0_signAt cX0_signAt 2 (some .int), .fieldLink RX0 9 "PartitionedCache$CommandText" "signs" "[C", .methodLink RX0 27 yX0_stageAfter, .static yX0_stageAfter, .code yX0_stageAfter cX0_stageAfter 3 (some .int), .methodLink RX0 31 yX0_stageAfterFirst, .static yX0_stageAfterFirst, .code yX0_stageAfterFirst cX0_stageAfterFirst 1 (some .int), .methodLink RX0 38 yX0_isTenantDigit, .static yX0_isTenantDigit, .code yX0_isTenantDigit cX0_isTenantDigit 1 (some .boolean), .methodLink RX0 23 yX0_isDigit, .static yX0_isDigit, .code yX0_isDigit cX0_isDigit 1 (some .boolean), .methodLink RX0 34 yX0_mayGoOn, .static yX0_mayGoOn, .code yX0_mayGoOn cX0_mayGoOn 2 (some .boolean)] ++ wsX00)
def wsX3_init : List Cond := .code yX3_init cX3_init 2 none :: ([.methodLink RX3 3 objectInit, .instanceMethod objectInit, .code objectInit ⟨#[0xb1]⟩ 1 none, .arrayClass .int, .fieldLink RX3 9 "PartitionedCache$Places" "owners" "[I", .fieldLink RX3 15 "PartitionedCache$Places" "held" "[I", .fieldLink RX3 18 "PartitionedCache$Places" "stamps" "[I"] ++ wsX30)
def wsX2_init : List Cond := .code yX2_init cX2_init 2 none :: ([.methodLink RX2 3 objectInit, .instanceMethod objectInit, .code objectInit ⟨#[0xb1]⟩ 1 none, .arrayClass .int, .fieldLink RX2 9 "PartitionedCache$Monitors" "addresses" "[I", .fieldLink RX2 15 "PartitionedCache$Monitors" "gains" "[I"] ++ wsX20)
def wsX4_init_r1 : List Cond := [Cond.methodLink RX4 3 objectInit, Cond.instanceMethod objectInit, Cond.code objectInit ⟨#[0xb1]⟩ 1 none, Cond.classLink RX4 9 RX3, Cond.instantiable RX3 3, Cond.initialized RX3, Cond.fieldLink RX4 12 "PartitionedCache$State" "places" "LPartitionedCache$Places;", Cond.classLink RX4 18 RX2, Cond.instantiable RX2 2, Cond.initialized RX2, Cond.fieldLink RX4 21 "PartitionedCache$State" "monitors" "LPartitionedCache$Monitors;", Cond.arrayClass .int, Cond.fieldLink RX4 25 "PartitionedCache$State" "leasts" "[I", Cond.fieldLink RX4 29 "PartitionedCache$State" "counts" "[I", Cond.fieldLink RX4 32 "PartitionedCache$State" "epoch" "I", Cond.fieldLink RX4 36 "PartitionedCache$State" "accesses" "I", Cond.methodLink RX4 11 yX3_init, Cond.instanceMethod yX3_init, Cond.code yX3_init cX3_init 2 none, Cond.methodLink RX3 3 objectInit, Cond.fieldLink RX3 9 "PartitionedCache$Places" "owners" "[I", Cond.fieldLink RX3 15 "PartitionedCache$Places" "held" "[I", Cond.fieldLink RX3 18 "PartitionedCache$Places" "stamps" "[I", Cond.methodLink RX4 20 yX2_init]
def wsX4_init_r2 : List Cond := [Cond.instanceMethod yX2_init, Cond.code yX2_init cX2_init 2 none, Cond.methodLink RX2 3 objectInit, Cond.fieldLink RX2 9 "PartitionedCache$Monitors" "addresses" "[I", Cond.fieldLink RX2 15 "PartitionedCache$Monitors" "gains" "[I"]
def wsX4_init : List Cond := .code yX4_init cX4_init 2 none :: ((wsX4_init_r1 ++ wsX4_init_r2) ++ wsX30 ++ wsX40 ++ wsX20)
def wsX1_init_r1 : List Cond := [Cond.methodLink RX1 3 objectInit, Cond.instanceMethod objectInit, Cond.code objectInit ⟨#[0xb1]⟩ 1 none, Cond.classLink RX1 9 RX4, Cond.fieldLink RX1 11 "PartitionedCache$History" "ring" "[LPartitionedCache$State;", Cond.fieldLink RX1 17 "PartitionedCache$History" "oldest" "I", Cond.fieldLink RX1 21 "PartitionedCache$History" "size" "I", Cond.instantiable RX4 6, Cond.initialized RX4, Cond.methodLink RX1 24 yX4_init, Cond.instanceMethod yX4_init, Cond.code yX4_init cX4_init 2 none, Cond.methodLink RX4 3 objectInit, Cond.classLink RX4 9 RX3, Cond.instantiable RX3 3, Cond.initialized RX3, Cond.fieldLink RX4 12 "PartitionedCache$State" "places" "LPartitionedCache$Places;", Cond.classLink RX4 18 RX2, Cond.instantiable RX2 2, Cond.initialized RX2, Cond.fieldLink RX4 21 "PartitionedCache$State" "monitors" "LPartitionedCache$Monitors;", Cond.arrayClass .int, Cond.fieldLink RX4 25 "PartitionedCache$State" "leasts" "[I", Cond.fieldLink RX4 29 "PartitionedCache$State" "counts" "[I"]
def wsX1_init_r2 : List Cond := [Cond.fieldLink RX4 32 "PartitionedCache$State" "epoch" "I", Cond.fieldLink RX4 36 "PartitionedCache$State" "accesses" "I", Cond.methodLink RX4 11 yX3_init, Cond.instanceMethod yX3_init, Cond.code yX3_init cX3_init 2 none, Cond.methodLink RX3 3 objectInit, Cond.fieldLink RX3 9 "PartitionedCache$Places" "owners" "[I", Cond.fieldLink RX3 15 "PartitionedCache$Places" "held" "[I", Cond.fieldLink RX3 18 "PartitionedCache$Places" "stamps" "[I", Cond.methodLink RX4 20 yX2_init, Cond.instanceMethod yX2_init, Cond.code yX2_init cX2_init 2 none, Cond.methodLink RX2 3 objectInit, Cond.fieldLink RX2 9 "PartitionedCache$Monitors" "addresses" "[I", Cond.fieldLink RX2 15 "PartitionedCache$Monitors" "gains" "[I"]
def wsX1_init : List Cond := .code yX1_init cX1_init 2 none :: ((wsX1_init_r1 ++ wsX1_init_r2) ++ wsX10 ++ wsX40 ++ wsX30 ++ wsX20)
def wsX3_copyFrom : List Cond := .code yX3_copyFrom cX3_copyFrom 2 none :: ([.fieldLink RX3 9 "PartitionedCache$Places" "owners" "[I", .methodLink RX3 21 arraycopyName, .native arraycopyName, .static arraycopyName, .initialized "java/lang/System", .fieldLink RX3 15 "PartitionedCache$Places" "held" "[I", .fieldLink RX3 18 "PartitionedCache$Places" "stamps" "[I"] ++ wsX30)
def wsX2_copyFrom : List Cond := .code yX2_copyFrom cX2_copyFrom 2 none :: ([.fieldLink RX2 9 "PartitionedCache$Monitors" "addresses" "[I", .methodLink RX2 18 arraycopyName, .native arraycopyName, .static arraycopyName, .initialized "java/lang/System", .fieldLink RX2 15 "PartitionedCache$Monitors" "gains" "[I"] ++ wsX20)
def wsX4_copyFrom_r1 : List Cond := [Cond.fieldLink RX4 12 "PartitionedCache$State" "places" "LPartitionedCache$Places;", Cond.fieldLink RX4 21 "PartitionedCache$State" "monitors" "LPartitionedCache$Monitors;", Cond.fieldLink RX4 25 "PartitionedCache$State" "leasts" "[I", Cond.methodLink RX4 46 arraycopyName, Cond.native arraycopyName, Cond.static arraycopyName, Cond.initialized "java/lang/System", Cond.fieldLink RX4 29 "PartitionedCache$State" "counts" "[I", Cond.fieldLink RX4 32 "PartitionedCache$State" "epoch" "I", Cond.fieldLink RX4 36 "PartitionedCache$State" "accesses" "I", Cond.methodLink RX4 39 yX3_copyFrom, Cond.instanceMethod yX3_copyFrom, Cond.selects RX3 yX3_copyFrom yX3_copyFrom, Cond.initialized RX3, Cond.code yX3_copyFrom cX3_copyFrom 2 none, Cond.fieldLink RX3 9 "PartitionedCache$Places" "owners" "[I", Cond.methodLink RX3 21 arraycopyName, Cond.fieldLink RX3 15 "PartitionedCache$Places" "held" "[I", Cond.fieldLink RX3 18 "PartitionedCache$Places" "stamps" "[I", Cond.methodLink RX4 43 yX2_copyFrom, Cond.instanceMethod yX2_copyFrom, Cond.selects RX2 yX2_copyFrom yX2_copyFrom, Cond.initialized RX2, Cond.code yX2_copyFrom cX2_copyFrom 2 none]
def wsX4_copyFrom_r2 : List Cond := [Cond.fieldLink RX2 9 "PartitionedCache$Monitors" "addresses" "[I", Cond.methodLink RX2 18 arraycopyName, Cond.fieldLink RX2 15 "PartitionedCache$Monitors" "gains" "[I"]
def wsX4_copyFrom : List Cond := .code yX4_copyFrom cX4_copyFrom 2 none :: ((wsX4_copyFrom_r1 ++ wsX4_copyFrom_r2) ++ wsX40 ++ wsX30 ++ wsX20)
def wsX1_push_r1 : List Cond := [Cond.fieldLink RX1 11 "PartitionedCache$History" "ring" "[LPartitionedCache$State;", Cond.fieldLink RX1 17 "PartitionedCache$History" "oldest" "I", Cond.fieldLink RX1 21 "PartitionedCache$History" "size" "I", Cond.methodLink RX1 25 yX4_copyFrom, Cond.instanceMethod yX4_copyFrom, Cond.selects RX4 yX4_copyFrom yX4_copyFrom, Cond.initialized RX4, Cond.code yX4_copyFrom cX4_copyFrom 2 none, Cond.fieldLink RX4 12 "PartitionedCache$State" "places" "LPartitionedCache$Places;", Cond.fieldLink RX4 21 "PartitionedCache$State" "monitors" "LPartitionedCache$Monitors;", Cond.fieldLink RX4 25 "PartitionedCache$State" "leasts" "[I", Cond.methodLink RX4 46 arraycopyName, Cond.native arraycopyName, Cond.static arraycopyName, Cond.initialized "java/lang/System", Cond.fieldLink RX4 29 "PartitionedCache$State" "counts" "[I", Cond.fieldLink RX4 32 "PartitionedCache$State" "epoch" "I", Cond.fieldLink RX4 36 "PartitionedCache$State" "accesses" "I", Cond.methodLink RX4 39 yX3_copyFrom, Cond.instanceMethod yX3_copyFrom, Cond.selects RX3 yX3_copyFrom yX3_copyFrom, Cond.initialized RX3, Cond.code yX3_copyFrom cX3_copyFrom 2 none, Cond.fieldLink RX3 9 "PartitionedCache$Places" "owners" "[I"]
def wsX1_push_r2 : List Cond := [Cond.methodLink RX3 21 arraycopyName, Cond.fieldLink RX3 15 "PartitionedCache$Places" "held" "[I", Cond.fieldLink RX3 18 "PartitionedCache$Places" "stamps" "[I", Cond.methodLink RX4 43 yX2_copyFrom, Cond.instanceMethod yX2_copyFrom, Cond.selects RX2 yX2_copyFrom yX2_copyFrom, Cond.initialized RX2, Cond.code yX2_copyFrom cX2_copyFrom 2 none, Cond.fieldLink RX2 9 "PartitionedCache$Monitors" "addresses" "[I", Cond.methodLink RX2 18 arraycopyName, Cond.fieldLink RX2 15 "PartitionedCache$Monitors" "gains" "[I"]
def wsX1_push : List Cond := .code yX1_push cX1_push 2 none :: ((wsX1_push_r1 ++ wsX1_push_r2) ++ wsX10 ++ wsX40 ++ wsX30 ++ wsX20)
def wsX1_popInto_r1 : List Cond := [Cond.fieldLink RX1 21 "PartitionedCache$History" "size" "I", Cond.fieldLink RX1 11 "PartitionedCache$History" "ring" "[LPartitionedCache$State;", Cond.fieldLink RX1 17 "PartitionedCache$History" "oldest" "I", Cond.methodLink RX1 25 yX4_copyFrom, Cond.instanceMethod yX4_copyFrom, Cond.selects RX4 yX4_copyFrom yX4_copyFrom, Cond.initialized RX4, Cond.code yX4_copyFrom cX4_copyFrom 2 none, Cond.fieldLink RX4 12 "PartitionedCache$State" "places" "LPartitionedCache$Places;", Cond.fieldLink RX4 21 "PartitionedCache$State" "monitors" "LPartitionedCache$Monitors;", Cond.fieldLink RX4 25 "PartitionedCache$State" "leasts" "[I", Cond.methodLink RX4 46 arraycopyName, Cond.native arraycopyName, Cond.static arraycopyName, Cond.initialized "java/lang/System", Cond.fieldLink RX4 29 "PartitionedCache$State" "counts" "[I", Cond.fieldLink RX4 32 "PartitionedCache$State" "epoch" "I", Cond.fieldLink RX4 36 "PartitionedCache$State" "accesses" "I", Cond.methodLink RX4 39 yX3_copyFrom, Cond.instanceMethod yX3_copyFrom, Cond.selects RX3 yX3_copyFrom yX3_copyFrom, Cond.initialized RX3, Cond.code yX3_copyFrom cX3_copyFrom 2 none, Cond.fieldLink RX3 9 "PartitionedCache$Places" "owners" "[I"]
def wsX1_popInto_r2 : List Cond := [Cond.methodLink RX3 21 arraycopyName, Cond.fieldLink RX3 15 "PartitionedCache$Places" "held" "[I", Cond.fieldLink RX3 18 "PartitionedCache$Places" "stamps" "[I", Cond.methodLink RX4 43 yX2_copyFrom, Cond.instanceMethod yX2_copyFrom, Cond.selects RX2 yX2_copyFrom yX2_copyFrom, Cond.initialized RX2, Cond.code yX2_copyFrom cX2_copyFrom 2 none, Cond.fieldLink RX2 9 "PartitionedCache$Monitors" "addresses" "[I", Cond.methodLink RX2 18 arraycopyName, Cond.fieldLink RX2 15 "PartitionedCache$Monitors" "gains" "[I"]
def wsX1_popInto : List Cond := .code yX1_popInto cX1_popInto 2 none :: ((wsX1_popInto_r1 ++ wsX1_popInto_r2) ++ wsX10 ++ wsX40 ++ wsX30 ++ wsX20)
def wsX6_isSampled : List Cond := .code yX6_isSampled cX6_isSampled 1 (some .boolean) :: ([])
def wsX6_listStart : List Cond := .code yX6_listStart cX6_listStart 2 (some .int) :: ([])
def wsX2_note : List Cond := .code yX2_note cX2_note 7 none :: ([.fieldLink RX2 9 "PartitionedCache$Monitors" "addresses" "[I", .fieldLink RX2 15 "PartitionedCache$Monitors" "gains" "[I", .static yX6_isSampled, .initialized RX6, .code yX6_isSampled cX6_isSampled 1 (some .boolean), .static yX6_listStart, .code yX6_listStart cX6_listStart 2 (some .int)] ++ wsX20)
def wsX2_utilityOf : List Cond := .code yX2_utilityOf cX2_utilityOf 5 (some .int) :: ([.fieldLink RX2 15 "PartitionedCache$Monitors" "gains" "[I"] ++ wsX20)
def wsX2_sumOfGains : List Cond := .code yX2_sumOfGains cX2_sumOfGains 3 (some .int) :: ([.fieldLink RX2 15 "PartitionedCache$Monitors" "gains" "[I"] ++ wsX20)
def wsX2_halve : List Cond := .code yX2_halve cX2_halve 2 none :: ([.fieldLink RX2 15 "PartitionedCache$Monitors" "gains" "[I"] ++ wsX20)
def wsX3_ownedWays : List Cond := .code yX3_ownedWays cX3_ownedWays 4 (some .int) :: ([.fieldLink RX3 9 "PartitionedCache$Places" "owners" "[I"] ++ wsX30)
def wsX3_placeOf : List Cond := .code yX3_placeOf cX3_placeOf 5 (some .int) :: ([.fieldLink RX3 15 "PartitionedCache$Places" "held" "[I"] ++ wsX30)
def wsX3_resultOf : List Cond := .code yX3_resultOf cX3_resultOf 3 (some .int) :: ([.methodLink RX3 27 yX3_placeOf, .instanceMethod yX3_placeOf, .selects RX3 yX3_placeOf yX3_placeOf, .initialized RX3, .code yX3_placeOf cX3_placeOf 5 (some .int), .fieldLink RX3 15 "PartitionedCache$Places" "held" "[I", .methodLink RX3 31 yX3_ownedWays, .instanceMethod yX3_ownedWays, .selects RX3 yX3_ownedWays yX3_ownedWays, .code yX3_ownedWays cX3_ownedWays 4 (some .int), .fieldLink RX3 9 "PartitionedCache$Places" "owners" "[I"] ++ wsX30)
def wsX3_renew : List Cond := .code yX3_renew cX3_renew 5 none :: ([.fieldLink RX3 18 "PartitionedCache$Places" "stamps" "[I", .methodLink RX3 27 yX3_placeOf, .instanceMethod yX3_placeOf, .selects RX3 yX3_placeOf yX3_placeOf, .initialized RX3, .code yX3_placeOf cX3_placeOf 5 (some .int), .fieldLink RX3 15 "PartitionedCache$Places" "held" "[I"] ++ wsX30)
def wsX3_placeToFill : List Cond := .code yX3_placeToFill cX3_placeToFill 7 (some .int) :: ([.fieldLink RX3 9 "PartitionedCache$Places" "owners" "[I", .fieldLink RX3 15 "PartitionedCache$Places" "held" "[I", .fieldLink RX3 18 "PartitionedCache$Places" "stamps" "[I"] ++ wsX30)
def wsX3_holdsLineOf : List Cond := .code yX3_holdsLineOf cX3_holdsLineOf 3 (some .boolean) :: ([.fieldLink RX3 15 "PartitionedCache$Places" "held" "[I"] ++ wsX30)
def wsX3_linesInWay : List Cond := .code yX3_linesInWay cX3_linesInWay 5 (some .int) :: ([.methodLink RX3 35 yX3_holdsLineOf, .instanceMethod yX3_holdsLineOf, .selects RX3 yX3_holdsLineOf yX3_holdsLineOf, .initialized RX3, .code yX3_holdsLineOf cX3_holdsLineOf 3 (some .boolean), .fieldLink RX3 15 "PartitionedCache$Places" "held" "[I"] ++ wsX30)
def wsX3_linesOf : List Cond := .code yX3_linesOf cX3_linesOf 4 (some .int) :: ([.methodLink RX3 39 yX3_linesInWay, .instanceMethod yX3_linesInWay, .selects RX3 yX3_linesInWay yX3_linesInWay, .initialized RX3, .code yX3_linesInWay cX3_linesInWay 5 (some .int), .methodLink RX3 35 yX3_holdsLineOf, .instanceMethod yX3_holdsLineOf, .selects RX3 yX3_holdsLineOf yX3_holdsLineOf, .code yX3_holdsLineOf cX3_holdsLineOf 3 (some .boolean), .fieldLink RX3 15 "PartitionedCache$Places" "held" "[I"] ++ wsX30)
def wsX3_linesInOwnWays : List Cond := .code yX3_linesInOwnWays cX3_linesInOwnWays 4 (some .int) :: ([.fieldLink RX3 9 "PartitionedCache$Places" "owners" "[I", .methodLink RX3 39 yX3_linesInWay, .instanceMethod yX3_linesInWay, .selects RX3 yX3_linesInWay yX3_linesInWay, .initialized RX3, .code yX3_linesInWay cX3_linesInWay 5 (some .int), .methodLink RX3 35 yX3_holdsLineOf, .instanceMethod yX3_holdsLineOf, .selects RX3 yX3_holdsLineOf yX3_holdsLineOf, .code yX3_holdsLineOf cX3_holdsLineOf 3 (some .boolean), .fieldLink RX3 15 "PartitionedCache$Places" "held" "[I"] ++ wsX30)
def wsX3_allLines : List Cond := .code yX3_allLines cX3_allLines 3 (some .int) :: ([.methodLink RX3 42 yX3_linesOf, .instanceMethod yX3_linesOf, .selects RX3 yX3_linesOf yX3_linesOf, .initialized RX3, .code yX3_linesOf cX3_linesOf 4 (some .int), .methodLink RX3 39 yX3_linesInWay, .instanceMethod yX3_linesInWay, .selects RX3 yX3_linesInWay yX3_linesInWay, .code yX3_linesInWay cX3_linesInWay 5 (some .int), .methodLink RX3 35 yX3_holdsLineOf, .instanceMethod yX3_holdsLineOf, .selects RX3 yX3_holdsLineOf yX3_holdsLineOf, .code yX3_holdsLineOf cX3_holdsLineOf 3 (some .boolean), .fieldLink RX3 15 "PartitionedCache$Places" "held" "[I"] ++ wsX30)
def wsX3_removeLinesOf : List Cond := .code yX3_removeLinesOf cX3_removeLinesOf 4 (some .int) :: ([.fieldLink RX3 15 "PartitionedCache$Places" "held" "[I", .methodLink RX3 35 yX3_holdsLineOf, .instanceMethod yX3_holdsLineOf, .selects RX3 yX3_holdsLineOf yX3_holdsLineOf, .initialized RX3, .code yX3_holdsLineOf cX3_holdsLineOf 3 (some .boolean)] ++ wsX30)
def wsX3_wayWithFewestLines : List Cond := .code yX3_wayWithFewestLines cX3_wayWithFewestLines 5 (some .int) :: ([.fieldLink RX3 9 "PartitionedCache$Places" "owners" "[I", .methodLink RX3 39 yX3_linesInWay, .instanceMethod yX3_linesInWay, .selects RX3 yX3_linesInWay yX3_linesInWay, .initialized RX3, .code yX3_linesInWay cX3_linesInWay 5 (some .int), .methodLink RX3 35 yX3_holdsLineOf, .instanceMethod yX3_holdsLineOf, .selects RX3 yX3_holdsLineOf yX3_holdsLineOf, .code yX3_holdsLineOf cX3_holdsLineOf 3 (some .boolean), .fieldLink RX3 15 "PartitionedCache$Places" "held" "[I"] ++ wsX30)
def wsX5_init : List Cond := .code yX5_init cX5_init 1 none :: ([.methodLink RX5 3 objectInit, .instanceMethod objectInit, .code objectInit ⟨#[0xb1]⟩ 1 none, .arrayClass .int, .fieldLink RX5 9 "PartitionedCache$Targets" "ways" "[I"] ++ wsX50)
def wsX5_lowest : List Cond := .code yX5_lowest cX5_lowest 3 (some .int) :: ([.fieldLink RX5 9 "PartitionedCache$Targets" "ways" "[I"] ++ wsX50)
def wsX5_growOne : List Cond := .code yX5_growOne cX5_growOne 9 (some .int) :: ([.fieldLink RX5 9 "PartitionedCache$Targets" "ways" "[I", .fieldLink RX5 28 "PartitionedCache$Monitors" "gains" "[I", .methodLink RX5 33 yX5_lowest, .instanceMethod yX5_lowest, .selects RX5 yX5_lowest yX5_lowest, .initialized RX5, .code yX5_lowest cX5_lowest 3 (some .int)] ++ wsX50 ++ wsX20)
def wsX5_compute : List Cond := .code yX5_compute cX5_compute 4 none :: ([.fieldLink RX5 9 "PartitionedCache$Targets" "ways" "[I", .fieldLink RX5 15 "PartitionedCache$State" "leasts" "[I", .fieldLink RX5 20 "PartitionedCache$State" "monitors" "LPartitionedCache$Monitors;", .methodLink RX5 24 yX5_growOne, .instanceMethod yX5_growOne, .selects RX5 yX5_growOne yX5_growOne, .initialized RX5, .code yX5_growOne cX5_growOne 9 (some .int), .fieldLink RX5 28 "PartitionedCache$Monitors" "gains" "[I", .methodLink RX5 33 yX5_lowest, .instanceMethod yX5_lowest, .selects RX5 yX5_lowest yX5_lowest, .code yX5_lowest cX5_lowest 3 (some .int)] ++ wsX50 ++ wsX40 ++ wsX20)
def wsX6_init_r1 : List Cond := [Cond.methodLink RX6 3 objectInit, Cond.instanceMethod objectInit, Cond.code objectInit ⟨#[0xb1]⟩ 1 none, Cond.classLink RX6 9 RX4, Cond.instantiable RX4 6, Cond.initialized RX4, Cond.fieldLink RX6 12 "PartitionedCache" "now" "LPartitionedCache$State;", Cond.classLink RX6 16 RX5, Cond.instantiable RX5 1, Cond.initialized RX5, Cond.fieldLink RX6 19 "PartitionedCache" "targets" "LPartitionedCache$Targets;", Cond.classLink RX6 23 RX1, Cond.instantiable RX1 3, Cond.initialized RX1, Cond.fieldLink RX6 26 "PartitionedCache" "history" "LPartitionedCache$History;", Cond.classLink RX6 30 RX0, Cond.instantiable RX0 2, Cond.initialized RX0, Cond.fieldLink RX6 33 "PartitionedCache" "text" "LPartitionedCache$CommandText;", Cond.fieldLink RX6 37 "PartitionedCache" "slots" "[LPartitionedCache$State;", Cond.arrayClass .boolean, Cond.fieldLink RX6 41 "PartitionedCache" "slotFilled" "[Z", Cond.methodLink RX6 11 yX4_init, Cond.instanceMethod yX4_init]
def wsX6_init_r2 : List Cond := [Cond.code yX4_init cX4_init 2 none, Cond.methodLink RX4 3 objectInit, Cond.classLink RX4 9 RX3, Cond.instantiable RX3 3, Cond.initialized RX3, Cond.fieldLink RX4 12 "PartitionedCache$State" "places" "LPartitionedCache$Places;", Cond.classLink RX4 18 RX2, Cond.instantiable RX2 2, Cond.initialized RX2, Cond.fieldLink RX4 21 "PartitionedCache$State" "monitors" "LPartitionedCache$Monitors;", Cond.arrayClass .int, Cond.fieldLink RX4 25 "PartitionedCache$State" "leasts" "[I", Cond.fieldLink RX4 29 "PartitionedCache$State" "counts" "[I", Cond.fieldLink RX4 32 "PartitionedCache$State" "epoch" "I", Cond.fieldLink RX4 36 "PartitionedCache$State" "accesses" "I", Cond.methodLink RX4 11 yX3_init, Cond.instanceMethod yX3_init, Cond.code yX3_init cX3_init 2 none, Cond.methodLink RX3 3 objectInit, Cond.fieldLink RX3 9 "PartitionedCache$Places" "owners" "[I", Cond.fieldLink RX3 15 "PartitionedCache$Places" "held" "[I", Cond.fieldLink RX3 18 "PartitionedCache$Places" "stamps" "[I", Cond.methodLink RX4 20 yX2_init, Cond.instanceMethod yX2_init]
def wsX6_init_r3 : List Cond := [Cond.code yX2_init cX2_init 2 none, Cond.methodLink RX2 3 objectInit, Cond.fieldLink RX2 9 "PartitionedCache$Monitors" "addresses" "[I", Cond.fieldLink RX2 15 "PartitionedCache$Monitors" "gains" "[I", Cond.instanceMethod yX5_init, Cond.code yX5_init cX5_init 1 none, Cond.methodLink RX5 3 objectInit, Cond.fieldLink RX5 9 "PartitionedCache$Targets" "ways" "[I", Cond.methodLink RX6 25 yX1_init, Cond.instanceMethod yX1_init, Cond.code yX1_init cX1_init 2 none, Cond.methodLink RX1 3 objectInit, Cond.classLink RX1 9 RX4, Cond.fieldLink RX1 11 "PartitionedCache$History" "ring" "[LPartitionedCache$State;", Cond.fieldLink RX1 17 "PartitionedCache$History" "oldest" "I", Cond.fieldLink RX1 21 "PartitionedCache$History" "size" "I", Cond.methodLink RX1 24 yX4_init, Cond.instanceMethod yX0_init, Cond.code yX0_init cX0_init 1 none, Cond.methodLink RX0 3 objectInit, Cond.arrayClass .char, Cond.fieldLink RX0 9 "PartitionedCache$CommandText" "signs" "[C", Cond.fieldLink RX0 15 "PartitionedCache$CommandText" "length" "I"]
def wsX6_init : List Cond := .code yX6_init cX6_init 2 none :: ((wsX6_init_r1 ++ (wsX6_init_r2 ++ wsX6_init_r3)) ++ wsX40 ++ wsX60 ++ wsX50 ++ wsX10 ++ wsX00 ++ wsX30 ++ wsX20)
def wsX6_requireIndex : List Cond := .code yX6_requireIndex cX6_requireIndex 2 none :: ([.classLink RX6 171 "java/lang/IndexOutOfBoundsException", .initialized "java/lang/IndexOutOfBoundsException"] ++ (vx_atS RX6 175 "java/lang/IndexOutOfBoundsException" ["java/lang/RuntimeException", "java/lang/Exception"]).filter goodWord)
def wsX6_requireTenant : List Cond := .code yX6_requireTenant cX6_requireTenant 1 none :: ([.methodLink RX6 75 yX6_requireIndex, .static yX6_requireIndex, .initialized RX6, .code yX6_requireIndex cX6_requireIndex 2 none, .classLink RX6 171 "java/lang/IndexOutOfBoundsException", .initialized "java/lang/IndexOutOfBoundsException"] ++ (vx_atS RX6 175 "java/lang/IndexOutOfBoundsException" ["java/lang/RuntimeException", "java/lang/Exception"]).filter goodWord)
def wsX6_requireArgument : List Cond := .code yX6_requireArgument cX6_requireArgument 3 none :: ([.classLink RX6 204 "java/lang/IllegalArgumentException", .initialized "java/lang/IllegalArgumentException"] ++ (vx_atS RX6 208 "java/lang/IllegalArgumentException" ["java/lang/RuntimeException", "java/lang/Exception"]).filter goodWord)
def wsX6_bringIn : List Cond := .code yX6_bringIn cX6_bringIn 5 none :: ([.fieldLink RX6 12 "PartitionedCache" "now" "LPartitionedCache$State;", .fieldLink RX6 61 "PartitionedCache$State" "places" "LPartitionedCache$Places;", .fieldLink RX6 196 "PartitionedCache$State" "counts" "[I", .fieldLink RX6 147 "PartitionedCache$Places" "held" "[I", .fieldLink RX6 222 "PartitionedCache$Places" "stamps" "[I", .fieldLink RX6 199 "PartitionedCache$State" "accesses" "I", .methodLink RX6 159 yX3_placeToFill, .instanceMethod yX3_placeToFill, .selects RX3 yX3_placeToFill yX3_placeToFill, .initialized RX3, .code yX3_placeToFill cX3_placeToFill 7 (some .int), .fieldLink RX3 9 "PartitionedCache$Places" "owners" "[I", .fieldLink RX3 15 "PartitionedCache$Places" "held" "[I", .fieldLink RX3 18 "PartitionedCache$Places" "stamps" "[I", .methodLink RX6 218 yX3_holdsLineOf, .instanceMethod yX3_holdsLineOf, .selects RX3 yX3_holdsLineOf yX3_holdsLineOf, .code yX3_holdsLineOf cX3_holdsLineOf 3 (some .boolean)] ++ wsX60 ++ wsX40 ++ wsX30)
def wsX6_deficitOf : List Cond := .code yX6_deficitOf cX6_deficitOf 2 (some .int) :: ([.fieldLink RX6 19 "PartitionedCache" "targets" "LPartitionedCache$Targets;", .fieldLink RX6 185 "PartitionedCache$Targets" "ways" "[I", .fieldLink RX6 12 "PartitionedCache" "now" "LPartitionedCache$State;", .fieldLink RX6 61 "PartitionedCache$State" "places" "LPartitionedCache$Places;", .methodLink RX6 144 yX3_ownedWays, .instanceMethod yX3_ownedWays, .selects RX3 yX3_ownedWays yX3_ownedWays, .initialized RX3, .code yX3_ownedWays cX3_ownedWays 4 (some .int), .fieldLink RX3 9 "PartitionedCache$Places" "owners" "[I"] ++ wsX60 ++ wsX50 ++ wsX40 ++ wsX30)
def wsX6_moveOneWay_r1 : List Cond := [Cond.fieldLink RX6 19 "PartitionedCache" "targets" "LPartitionedCache$Targets;", Cond.fieldLink RX6 12 "PartitionedCache" "now" "LPartitionedCache$State;", Cond.fieldLink RX6 61 "PartitionedCache$State" "places" "LPartitionedCache$Places;", Cond.fieldLink RX6 79 "PartitionedCache$Places" "owners" "[I", Cond.methodLink RX6 182 yX5_compute, Cond.instanceMethod yX5_compute, Cond.selects RX5 yX5_compute yX5_compute, Cond.initialized RX5, Cond.code yX5_compute cX5_compute 4 none, Cond.fieldLink RX5 9 "PartitionedCache$Targets" "ways" "[I", Cond.fieldLink RX5 15 "PartitionedCache$State" "leasts" "[I", Cond.fieldLink RX5 20 "PartitionedCache$State" "monitors" "LPartitionedCache$Monitors;", Cond.methodLink RX5 24 yX5_growOne, Cond.instanceMethod yX5_growOne, Cond.selects RX5 yX5_growOne yX5_growOne, Cond.code yX5_growOne cX5_growOne 9 (some .int), Cond.fieldLink RX5 28 "PartitionedCache$Monitors" "gains" "[I", Cond.methodLink RX5 33 yX5_lowest, Cond.instanceMethod yX5_lowest, Cond.selects RX5 yX5_lowest yX5_lowest, Cond.code yX5_lowest cX5_lowest 3 (some .int), Cond.methodLink RX6 188 yX6_deficitOf, Cond.instanceMethod yX6_deficitOf, Cond.selects RX6 yX6_deficitOf yX6_deficitOf]
def wsX6_moveOneWay_r2 : List Cond := [Cond.initialized RX6, Cond.code yX6_deficitOf cX6_deficitOf 2 (some .int), Cond.fieldLink RX6 185 "PartitionedCache$Targets" "ways" "[I", Cond.methodLink RX6 144 yX3_ownedWays, Cond.instanceMethod yX3_ownedWays, Cond.selects RX3 yX3_ownedWays yX3_ownedWays, Cond.initialized RX3, Cond.code yX3_ownedWays cX3_ownedWays 4 (some .int), Cond.fieldLink RX3 9 "PartitionedCache$Places" "owners" "[I", Cond.methodLink RX6 225 yX3_wayWithFewestLines, Cond.instanceMethod yX3_wayWithFewestLines, Cond.selects RX3 yX3_wayWithFewestLines yX3_wayWithFewestLines, Cond.code yX3_wayWithFewestLines cX3_wayWithFewestLines 5 (some .int), Cond.methodLink RX3 39 yX3_linesInWay, Cond.instanceMethod yX3_linesInWay, Cond.selects RX3 yX3_linesInWay yX3_linesInWay, Cond.code yX3_linesInWay cX3_linesInWay 5 (some .int), Cond.methodLink RX3 35 yX3_holdsLineOf, Cond.instanceMethod yX3_holdsLineOf, Cond.selects RX3 yX3_holdsLineOf yX3_holdsLineOf, Cond.code yX3_holdsLineOf cX3_holdsLineOf 3 (some .boolean), Cond.fieldLink RX3 15 "PartitionedCache$Places" "held" "[I"]
def wsX6_moveOneWay : List Cond := .code yX6_moveOneWay cX6_moveOneWay 4 (some .int) :: ((wsX6_moveOneWay_r1 ++ wsX6_moveOneWay_r2) ++ wsX60 ++ wsX40 ++ wsX30 ++ wsX50 ++ wsX20)
def wsX6_makeAccess_r1 : List Cond := [Cond.fieldLink RX6 12 "PartitionedCache" "now" "LPartitionedCache$State;", Cond.fieldLink RX6 90 "PartitionedCache$State" "monitors" "LPartitionedCache$Monitors;", Cond.fieldLink RX6 199 "PartitionedCache$State" "accesses" "I", Cond.fieldLink RX6 61 "PartitionedCache$State" "places" "LPartitionedCache$Places;", Cond.fieldLink RX6 196 "PartitionedCache$State" "counts" "[I", Cond.fieldLink RX6 86 "PartitionedCache$State" "epoch" "I", Cond.methodLink RX6 209 yX2_note, Cond.instanceMethod yX2_note, Cond.selects RX2 yX2_note yX2_note, Cond.initialized RX2, Cond.code yX2_note cX2_note 7 none, Cond.fieldLink RX2 9 "PartitionedCache$Monitors" "addresses" "[I", Cond.fieldLink RX2 15 "PartitionedCache$Monitors" "gains" "[I", Cond.static yX6_isSampled, Cond.initialized RX6, Cond.code yX6_isSampled cX6_isSampled 1 (some .boolean), Cond.static yX6_listStart, Cond.code yX6_listStart cX6_listStart 2 (some .int), Cond.methodLink RX6 156 yX3_resultOf, Cond.instanceMethod yX3_resultOf, Cond.selects RX3 yX3_resultOf yX3_resultOf, Cond.initialized RX3, Cond.code yX3_resultOf cX3_resultOf 3 (some .int), Cond.methodLink RX3 27 yX3_placeOf]
def wsX6_makeAccess_r2 : List Cond := [Cond.instanceMethod yX3_placeOf, Cond.selects RX3 yX3_placeOf yX3_placeOf, Cond.code yX3_placeOf cX3_placeOf 5 (some .int), Cond.fieldLink RX3 15 "PartitionedCache$Places" "held" "[I", Cond.methodLink RX3 31 yX3_ownedWays, Cond.instanceMethod yX3_ownedWays, Cond.selects RX3 yX3_ownedWays yX3_ownedWays, Cond.code yX3_ownedWays cX3_ownedWays 4 (some .int), Cond.fieldLink RX3 9 "PartitionedCache$Places" "owners" "[I", Cond.methodLink RX6 212 yX3_renew, Cond.instanceMethod yX3_renew, Cond.selects RX3 yX3_renew yX3_renew, Cond.code yX3_renew cX3_renew 5 none, Cond.fieldLink RX3 18 "PartitionedCache$Places" "stamps" "[I", Cond.methodLink RX6 215 yX6_bringIn, Cond.instanceMethod yX6_bringIn, Cond.selects RX6 yX6_bringIn yX6_bringIn, Cond.code yX6_bringIn cX6_bringIn 5 none, Cond.fieldLink RX6 147 "PartitionedCache$Places" "held" "[I", Cond.fieldLink RX6 222 "PartitionedCache$Places" "stamps" "[I", Cond.methodLink RX6 159 yX3_placeToFill, Cond.instanceMethod yX3_placeToFill, Cond.selects RX3 yX3_placeToFill yX3_placeToFill, Cond.code yX3_placeToFill cX3_placeToFill 7 (some .int)]
def wsX6_makeAccess_r3 : List Cond := [Cond.methodLink RX6 218 yX3_holdsLineOf, Cond.instanceMethod yX3_holdsLineOf, Cond.selects RX3 yX3_holdsLineOf yX3_holdsLineOf, Cond.code yX3_holdsLineOf cX3_holdsLineOf 3 (some .boolean), Cond.methodLink RX6 71 yX6_moveOneWay, Cond.instanceMethod yX6_moveOneWay, Cond.selects RX6 yX6_moveOneWay yX6_moveOneWay, Cond.code yX6_moveOneWay cX6_moveOneWay 4 (some .int), Cond.fieldLink RX6 19 "PartitionedCache" "targets" "LPartitionedCache$Targets;", Cond.fieldLink RX6 79 "PartitionedCache$Places" "owners" "[I", Cond.methodLink RX6 182 yX5_compute, Cond.instanceMethod yX5_compute, Cond.selects RX5 yX5_compute yX5_compute, Cond.initialized RX5, Cond.code yX5_compute cX5_compute 4 none, Cond.fieldLink RX5 9 "PartitionedCache$Targets" "ways" "[I", Cond.fieldLink RX5 15 "PartitionedCache$State" "leasts" "[I", Cond.fieldLink RX5 20 "PartitionedCache$State" "monitors" "LPartitionedCache$Monitors;", Cond.methodLink RX5 24 yX5_growOne, Cond.instanceMethod yX5_growOne, Cond.selects RX5 yX5_growOne yX5_growOne, Cond.code yX5_growOne cX5_growOne 9 (some .int), Cond.fieldLink RX5 28 "PartitionedCache$Monitors" "gains" "[I", Cond.methodLink RX5 33 yX5_lowest]
def wsX6_makeAccess_r4 : List Cond := [Cond.instanceMethod yX5_lowest, Cond.selects RX5 yX5_lowest yX5_lowest, Cond.code yX5_lowest cX5_lowest 3 (some .int), Cond.methodLink RX6 188 yX6_deficitOf, Cond.instanceMethod yX6_deficitOf, Cond.selects RX6 yX6_deficitOf yX6_deficitOf, Cond.code yX6_deficitOf cX6_deficitOf 2 (some .int), Cond.fieldLink RX6 185 "PartitionedCache$Targets" "ways" "[I", Cond.methodLink RX6 144 yX3_ownedWays, Cond.methodLink RX6 225 yX3_wayWithFewestLines, Cond.instanceMethod yX3_wayWithFewestLines, Cond.selects RX3 yX3_wayWithFewestLines yX3_wayWithFewestLines, Cond.code yX3_wayWithFewestLines cX3_wayWithFewestLines 5 (some .int), Cond.methodLink RX3 39 yX3_linesInWay, Cond.instanceMethod yX3_linesInWay, Cond.selects RX3 yX3_linesInWay yX3_linesInWay, Cond.code yX3_linesInWay cX3_linesInWay 5 (some .int), Cond.methodLink RX3 35 yX3_holdsLineOf, Cond.methodLink RX6 94 yX2_halve, Cond.instanceMethod yX2_halve, Cond.selects RX2 yX2_halve yX2_halve, Cond.code yX2_halve cX2_halve 2 none]
def wsX6_makeAccess : List Cond := .code yX6_makeAccess cX6_makeAccess 4 (some .int) :: ((wsX6_makeAccess_r1 ++ (wsX6_makeAccess_r2 ++ (wsX6_makeAccess_r3 ++ wsX6_makeAccess_r4))) ++ wsX60 ++ wsX40 ++ wsX20 ++ wsX30 ++ wsX50)
def wsX6_access_r1 : List Cond := [Cond.fieldLink RX6 26 "PartitionedCache" "history" "LPartitionedCache$History;", Cond.fieldLink RX6 12 "PartitionedCache" "now" "LPartitionedCache$State;", Cond.methodLink RX6 45 yX6_requireTenant, Cond.static yX6_requireTenant, Cond.initialized RX6, Cond.code yX6_requireTenant cX6_requireTenant 1 none, Cond.methodLink RX6 75 yX6_requireIndex, Cond.static yX6_requireIndex, Cond.code yX6_requireIndex cX6_requireIndex 2 none, Cond.classLink RX6 171 "java/lang/IndexOutOfBoundsException", Cond.initialized "java/lang/IndexOutOfBoundsException", Cond.methodLink RX6 49 yX6_requireArgument, Cond.static yX6_requireArgument, Cond.code yX6_requireArgument cX6_requireArgument 3 none, Cond.classLink RX6 204 "java/lang/IllegalArgumentException", Cond.initialized "java/lang/IllegalArgumentException", Cond.methodLink RX6 53 yX1_push, Cond.instanceMethod yX1_push, Cond.selects RX1 yX1_push yX1_push, Cond.initialized RX1, Cond.code yX1_push cX1_push 2 none, Cond.fieldLink RX1 11 "PartitionedCache$History" "ring" "[LPartitionedCache$State;", Cond.fieldLink RX1 17 "PartitionedCache$History" "oldest" "I", Cond.fieldLink RX1 21 "PartitionedCache$History" "size" "I"]
def wsX6_access_r2 : List Cond := [Cond.methodLink RX1 25 yX4_copyFrom, Cond.instanceMethod yX4_copyFrom, Cond.selects RX4 yX4_copyFrom yX4_copyFrom, Cond.initialized RX4, Cond.code yX4_copyFrom cX4_copyFrom 2 none, Cond.fieldLink RX4 12 "PartitionedCache$State" "places" "LPartitionedCache$Places;", Cond.fieldLink RX4 21 "PartitionedCache$State" "monitors" "LPartitionedCache$Monitors;", Cond.fieldLink RX4 25 "PartitionedCache$State" "leasts" "[I", Cond.methodLink RX4 46 arraycopyName, Cond.native arraycopyName, Cond.static arraycopyName, Cond.initialized "java/lang/System", Cond.fieldLink RX4 29 "PartitionedCache$State" "counts" "[I", Cond.fieldLink RX4 32 "PartitionedCache$State" "epoch" "I", Cond.fieldLink RX4 36 "PartitionedCache$State" "accesses" "I", Cond.methodLink RX4 39 yX3_copyFrom, Cond.instanceMethod yX3_copyFrom, Cond.selects RX3 yX3_copyFrom yX3_copyFrom, Cond.initialized RX3, Cond.code yX3_copyFrom cX3_copyFrom 2 none, Cond.fieldLink RX3 9 "PartitionedCache$Places" "owners" "[I", Cond.methodLink RX3 21 arraycopyName, Cond.fieldLink RX3 15 "PartitionedCache$Places" "held" "[I", Cond.fieldLink RX3 18 "PartitionedCache$Places" "stamps" "[I"]
def wsX6_access_r3 : List Cond := [Cond.methodLink RX4 43 yX2_copyFrom, Cond.instanceMethod yX2_copyFrom, Cond.selects RX2 yX2_copyFrom yX2_copyFrom, Cond.initialized RX2, Cond.code yX2_copyFrom cX2_copyFrom 2 none, Cond.fieldLink RX2 9 "PartitionedCache$Monitors" "addresses" "[I", Cond.methodLink RX2 18 arraycopyName, Cond.fieldLink RX2 15 "PartitionedCache$Monitors" "gains" "[I", Cond.methodLink RX6 57 yX6_makeAccess, Cond.instanceMethod yX6_makeAccess, Cond.selects RX6 yX6_makeAccess yX6_makeAccess, Cond.code yX6_makeAccess cX6_makeAccess 4 (some .int), Cond.fieldLink RX6 90 "PartitionedCache$State" "monitors" "LPartitionedCache$Monitors;", Cond.fieldLink RX6 199 "PartitionedCache$State" "accesses" "I", Cond.fieldLink RX6 61 "PartitionedCache$State" "places" "LPartitionedCache$Places;", Cond.fieldLink RX6 196 "PartitionedCache$State" "counts" "[I", Cond.fieldLink RX6 86 "PartitionedCache$State" "epoch" "I", Cond.methodLink RX6 209 yX2_note, Cond.instanceMethod yX2_note, Cond.selects RX2 yX2_note yX2_note, Cond.code yX2_note cX2_note 7 none, Cond.static yX6_isSampled, Cond.code yX6_isSampled cX6_isSampled 1 (some .boolean), Cond.static yX6_listStart]
def wsX6_access_r4 : List Cond := [Cond.code yX6_listStart cX6_listStart 2 (some .int), Cond.methodLink RX6 156 yX3_resultOf, Cond.instanceMethod yX3_resultOf, Cond.selects RX3 yX3_resultOf yX3_resultOf, Cond.code yX3_resultOf cX3_resultOf 3 (some .int), Cond.methodLink RX3 27 yX3_placeOf, Cond.instanceMethod yX3_placeOf, Cond.selects RX3 yX3_placeOf yX3_placeOf, Cond.code yX3_placeOf cX3_placeOf 5 (some .int), Cond.methodLink RX3 31 yX3_ownedWays, Cond.instanceMethod yX3_ownedWays, Cond.selects RX3 yX3_ownedWays yX3_ownedWays, Cond.code yX3_ownedWays cX3_ownedWays 4 (some .int), Cond.methodLink RX6 212 yX3_renew, Cond.instanceMethod yX3_renew, Cond.selects RX3 yX3_renew yX3_renew, Cond.code yX3_renew cX3_renew 5 none, Cond.methodLink RX6 215 yX6_bringIn, Cond.instanceMethod yX6_bringIn, Cond.selects RX6 yX6_bringIn yX6_bringIn, Cond.code yX6_bringIn cX6_bringIn 5 none, Cond.fieldLink RX6 147 "PartitionedCache$Places" "held" "[I", Cond.fieldLink RX6 222 "PartitionedCache$Places" "stamps" "[I", Cond.methodLink RX6 159 yX3_placeToFill]
def wsX6_access_r5 : List Cond := [Cond.instanceMethod yX3_placeToFill, Cond.selects RX3 yX3_placeToFill yX3_placeToFill, Cond.code yX3_placeToFill cX3_placeToFill 7 (some .int), Cond.methodLink RX6 218 yX3_holdsLineOf, Cond.instanceMethod yX3_holdsLineOf, Cond.selects RX3 yX3_holdsLineOf yX3_holdsLineOf, Cond.code yX3_holdsLineOf cX3_holdsLineOf 3 (some .boolean), Cond.methodLink RX6 71 yX6_moveOneWay, Cond.instanceMethod yX6_moveOneWay, Cond.selects RX6 yX6_moveOneWay yX6_moveOneWay, Cond.code yX6_moveOneWay cX6_moveOneWay 4 (some .int), Cond.fieldLink RX6 19 "PartitionedCache" "targets" "LPartitionedCache$Targets;", Cond.fieldLink RX6 79 "PartitionedCache$Places" "owners" "[I", Cond.methodLink RX6 182 yX5_compute, Cond.instanceMethod yX5_compute, Cond.selects RX5 yX5_compute yX5_compute, Cond.initialized RX5, Cond.code yX5_compute cX5_compute 4 none, Cond.fieldLink RX5 9 "PartitionedCache$Targets" "ways" "[I", Cond.fieldLink RX5 15 "PartitionedCache$State" "leasts" "[I", Cond.fieldLink RX5 20 "PartitionedCache$State" "monitors" "LPartitionedCache$Monitors;", Cond.methodLink RX5 24 yX5_growOne, Cond.instanceMethod yX5_growOne, Cond.selects RX5 yX5_growOne yX5_growOne]
def wsX6_access_r6 : List Cond := [Cond.code yX5_growOne cX5_growOne 9 (some .int), Cond.fieldLink RX5 28 "PartitionedCache$Monitors" "gains" "[I", Cond.methodLink RX5 33 yX5_lowest, Cond.instanceMethod yX5_lowest, Cond.selects RX5 yX5_lowest yX5_lowest, Cond.code yX5_lowest cX5_lowest 3 (some .int), Cond.methodLink RX6 188 yX6_deficitOf, Cond.instanceMethod yX6_deficitOf, Cond.selects RX6 yX6_deficitOf yX6_deficitOf, Cond.code yX6_deficitOf cX6_deficitOf 2 (some .int), Cond.fieldLink RX6 185 "PartitionedCache$Targets" "ways" "[I", Cond.methodLink RX6 144 yX3_ownedWays, Cond.methodLink RX6 225 yX3_wayWithFewestLines, Cond.instanceMethod yX3_wayWithFewestLines, Cond.selects RX3 yX3_wayWithFewestLines yX3_wayWithFewestLines, Cond.code yX3_wayWithFewestLines cX3_wayWithFewestLines 5 (some .int), Cond.methodLink RX3 39 yX3_linesInWay, Cond.instanceMethod yX3_linesInWay, Cond.selects RX3 yX3_linesInWay yX3_linesInWay, Cond.code yX3_linesInWay cX3_linesInWay 5 (some .int), Cond.methodLink RX3 35 yX3_holdsLineOf, Cond.methodLink RX6 94 yX2_halve, Cond.instanceMethod yX2_halve, Cond.selects RX2 yX2_halve yX2_halve]
def wsX6_access_r7 : List Cond := [Cond.code yX2_halve cX2_halve 2 none]
def wsX6_access : List Cond := .code yX6_access cX6_access 3 (some .int) :: ((wsX6_access_r1 ++ (wsX6_access_r2 ++ (wsX6_access_r3 ++ (wsX6_access_r4 ++ (wsX6_access_r5 ++ (wsX6_access_r6 ++ wsX6_access_r7)))))) ++ wsX60 ++ wsX10 ++ wsX40 ++ wsX30 ++ wsX20 ++ wsX50 ++ (vx_atS RX6 175 "java/lang/IndexOutOfBoundsException" ["java/lang/RuntimeException", "java/lang/Exception"]).filter goodWord ++ (vx_atS RX6 208 "java/lang/IllegalArgumentException" ["java/lang/RuntimeException", "java/lang/Exception"]).filter goodWord)
def wsX6_stream_r1 : List Cond := [Cond.fieldLink RX6 26 "PartitionedCache" "history" "LPartitionedCache$History;", Cond.fieldLink RX6 12 "PartitionedCache" "now" "LPartitionedCache$State;", Cond.methodLink RX6 45 yX6_requireTenant, Cond.static yX6_requireTenant, Cond.initialized RX6, Cond.code yX6_requireTenant cX6_requireTenant 1 none, Cond.methodLink RX6 75 yX6_requireIndex, Cond.static yX6_requireIndex, Cond.code yX6_requireIndex cX6_requireIndex 2 none, Cond.classLink RX6 171 "java/lang/IndexOutOfBoundsException", Cond.initialized "java/lang/IndexOutOfBoundsException", Cond.methodLink RX6 49 yX6_requireArgument, Cond.static yX6_requireArgument, Cond.code yX6_requireArgument cX6_requireArgument 3 none, Cond.classLink RX6 204 "java/lang/IllegalArgumentException", Cond.initialized "java/lang/IllegalArgumentException", Cond.methodLink RX6 53 yX1_push, Cond.instanceMethod yX1_push, Cond.selects RX1 yX1_push yX1_push, Cond.initialized RX1, Cond.code yX1_push cX1_push 2 none, Cond.fieldLink RX1 11 "PartitionedCache$History" "ring" "[LPartitionedCache$State;", Cond.fieldLink RX1 17 "PartitionedCache$History" "oldest" "I", Cond.fieldLink RX1 21 "PartitionedCache$History" "size" "I"]
def wsX6_stream_r2 : List Cond := [Cond.methodLink RX1 25 yX4_copyFrom, Cond.instanceMethod yX4_copyFrom, Cond.selects RX4 yX4_copyFrom yX4_copyFrom, Cond.initialized RX4, Cond.code yX4_copyFrom cX4_copyFrom 2 none, Cond.fieldLink RX4 12 "PartitionedCache$State" "places" "LPartitionedCache$Places;", Cond.fieldLink RX4 21 "PartitionedCache$State" "monitors" "LPartitionedCache$Monitors;", Cond.fieldLink RX4 25 "PartitionedCache$State" "leasts" "[I", Cond.methodLink RX4 46 arraycopyName, Cond.native arraycopyName, Cond.static arraycopyName, Cond.initialized "java/lang/System", Cond.fieldLink RX4 29 "PartitionedCache$State" "counts" "[I", Cond.fieldLink RX4 32 "PartitionedCache$State" "epoch" "I", Cond.fieldLink RX4 36 "PartitionedCache$State" "accesses" "I", Cond.methodLink RX4 39 yX3_copyFrom, Cond.instanceMethod yX3_copyFrom, Cond.selects RX3 yX3_copyFrom yX3_copyFrom, Cond.initialized RX3, Cond.code yX3_copyFrom cX3_copyFrom 2 none, Cond.fieldLink RX3 9 "PartitionedCache$Places" "owners" "[I", Cond.methodLink RX3 21 arraycopyName, Cond.fieldLink RX3 15 "PartitionedCache$Places" "held" "[I", Cond.fieldLink RX3 18 "PartitionedCache$Places" "stamps" "[I"]
def wsX6_stream_r3 : List Cond := [Cond.methodLink RX4 43 yX2_copyFrom, Cond.instanceMethod yX2_copyFrom, Cond.selects RX2 yX2_copyFrom yX2_copyFrom, Cond.initialized RX2, Cond.code yX2_copyFrom cX2_copyFrom 2 none, Cond.fieldLink RX2 9 "PartitionedCache$Monitors" "addresses" "[I", Cond.methodLink RX2 18 arraycopyName, Cond.fieldLink RX2 15 "PartitionedCache$Monitors" "gains" "[I", Cond.methodLink RX6 57 yX6_makeAccess, Cond.instanceMethod yX6_makeAccess, Cond.selects RX6 yX6_makeAccess yX6_makeAccess, Cond.code yX6_makeAccess cX6_makeAccess 4 (some .int), Cond.fieldLink RX6 90 "PartitionedCache$State" "monitors" "LPartitionedCache$Monitors;", Cond.fieldLink RX6 199 "PartitionedCache$State" "accesses" "I", Cond.fieldLink RX6 61 "PartitionedCache$State" "places" "LPartitionedCache$Places;", Cond.fieldLink RX6 196 "PartitionedCache$State" "counts" "[I", Cond.fieldLink RX6 86 "PartitionedCache$State" "epoch" "I", Cond.methodLink RX6 209 yX2_note, Cond.instanceMethod yX2_note, Cond.selects RX2 yX2_note yX2_note, Cond.code yX2_note cX2_note 7 none, Cond.static yX6_isSampled, Cond.code yX6_isSampled cX6_isSampled 1 (some .boolean), Cond.static yX6_listStart]
def wsX6_stream_r4 : List Cond := [Cond.code yX6_listStart cX6_listStart 2 (some .int), Cond.methodLink RX6 156 yX3_resultOf, Cond.instanceMethod yX3_resultOf, Cond.selects RX3 yX3_resultOf yX3_resultOf, Cond.code yX3_resultOf cX3_resultOf 3 (some .int), Cond.methodLink RX3 27 yX3_placeOf, Cond.instanceMethod yX3_placeOf, Cond.selects RX3 yX3_placeOf yX3_placeOf, Cond.code yX3_placeOf cX3_placeOf 5 (some .int), Cond.methodLink RX3 31 yX3_ownedWays, Cond.instanceMethod yX3_ownedWays, Cond.selects RX3 yX3_ownedWays yX3_ownedWays, Cond.code yX3_ownedWays cX3_ownedWays 4 (some .int), Cond.methodLink RX6 212 yX3_renew, Cond.instanceMethod yX3_renew, Cond.selects RX3 yX3_renew yX3_renew, Cond.code yX3_renew cX3_renew 5 none, Cond.methodLink RX6 215 yX6_bringIn, Cond.instanceMethod yX6_bringIn, Cond.selects RX6 yX6_bringIn yX6_bringIn, Cond.code yX6_bringIn cX6_bringIn 5 none, Cond.fieldLink RX6 147 "PartitionedCache$Places" "held" "[I", Cond.fieldLink RX6 222 "PartitionedCache$Places" "stamps" "[I", Cond.methodLink RX6 159 yX3_placeToFill]
def wsX6_stream_r5 : List Cond := [Cond.instanceMethod yX3_placeToFill, Cond.selects RX3 yX3_placeToFill yX3_placeToFill, Cond.code yX3_placeToFill cX3_placeToFill 7 (some .int), Cond.methodLink RX6 218 yX3_holdsLineOf, Cond.instanceMethod yX3_holdsLineOf, Cond.selects RX3 yX3_holdsLineOf yX3_holdsLineOf, Cond.code yX3_holdsLineOf cX3_holdsLineOf 3 (some .boolean), Cond.methodLink RX6 71 yX6_moveOneWay, Cond.instanceMethod yX6_moveOneWay, Cond.selects RX6 yX6_moveOneWay yX6_moveOneWay, Cond.code yX6_moveOneWay cX6_moveOneWay 4 (some .int), Cond.fieldLink RX6 19 "PartitionedCache" "targets" "LPartitionedCache$Targets;", Cond.fieldLink RX6 79 "PartitionedCache$Places" "owners" "[I", Cond.methodLink RX6 182 yX5_compute, Cond.instanceMethod yX5_compute, Cond.selects RX5 yX5_compute yX5_compute, Cond.initialized RX5, Cond.code yX5_compute cX5_compute 4 none, Cond.fieldLink RX5 9 "PartitionedCache$Targets" "ways" "[I", Cond.fieldLink RX5 15 "PartitionedCache$State" "leasts" "[I", Cond.fieldLink RX5 20 "PartitionedCache$State" "monitors" "LPartitionedCache$Monitors;", Cond.methodLink RX5 24 yX5_growOne, Cond.instanceMethod yX5_growOne, Cond.selects RX5 yX5_growOne yX5_growOne]
def wsX6_stream_r6 : List Cond := [Cond.code yX5_growOne cX5_growOne 9 (some .int), Cond.fieldLink RX5 28 "PartitionedCache$Monitors" "gains" "[I", Cond.methodLink RX5 33 yX5_lowest, Cond.instanceMethod yX5_lowest, Cond.selects RX5 yX5_lowest yX5_lowest, Cond.code yX5_lowest cX5_lowest 3 (some .int), Cond.methodLink RX6 188 yX6_deficitOf, Cond.instanceMethod yX6_deficitOf, Cond.selects RX6 yX6_deficitOf yX6_deficitOf, Cond.code yX6_deficitOf cX6_deficitOf 2 (some .int), Cond.fieldLink RX6 185 "PartitionedCache$Targets" "ways" "[I", Cond.methodLink RX6 144 yX3_ownedWays, Cond.methodLink RX6 225 yX3_wayWithFewestLines, Cond.instanceMethod yX3_wayWithFewestLines, Cond.selects RX3 yX3_wayWithFewestLines yX3_wayWithFewestLines, Cond.code yX3_wayWithFewestLines cX3_wayWithFewestLines 5 (some .int), Cond.methodLink RX3 39 yX3_linesInWay, Cond.instanceMethod yX3_linesInWay, Cond.selects RX3 yX3_linesInWay yX3_linesInWay, Cond.code yX3_linesInWay cX3_linesInWay 5 (some .int), Cond.methodLink RX3 35 yX3_holdsLineOf, Cond.methodLink RX6 94 yX2_halve, Cond.instanceMethod yX2_halve, Cond.selects RX2 yX2_halve yX2_halve]
def wsX6_stream_r7 : List Cond := [Cond.code yX2_halve cX2_halve 2 none]
def wsX6_stream : List Cond := .code yX6_stream cX6_stream 7 (some .int) :: ((wsX6_stream_r1 ++ (wsX6_stream_r2 ++ (wsX6_stream_r3 ++ (wsX6_stream_r4 ++ (wsX6_stream_r5 ++ (wsX6_stream_r6 ++ wsX6_stream_r7)))))) ++ wsX60 ++ wsX10 ++ wsX40 ++ wsX30 ++ wsX20 ++ wsX50 ++ (vx_atS RX6 175 "java/lang/IndexOutOfBoundsException" ["java/lang/RuntimeException", "java/lang/Exception"]).filter goodWord ++ (vx_atS RX6 208 "java/lang/IllegalArgumentException" ["java/lang/RuntimeException", "java/lang/Exception"]).filter goodWord)
def wsX6_flush_r1 : List Cond := [Cond.fieldLink RX6 26 "PartitionedCache" "history" "LPartitionedCache$History;", Cond.fieldLink RX6 12 "PartitionedCache" "now" "LPartitionedCache$State;", Cond.fieldLink RX6 61 "PartitionedCache$State" "places" "LPartitionedCache$Places;", Cond.methodLink RX6 45 yX6_requireTenant, Cond.static yX6_requireTenant, Cond.initialized RX6, Cond.code yX6_requireTenant cX6_requireTenant 1 none, Cond.methodLink RX6 75 yX6_requireIndex, Cond.static yX6_requireIndex, Cond.code yX6_requireIndex cX6_requireIndex 2 none, Cond.classLink RX6 171 "java/lang/IndexOutOfBoundsException", Cond.initialized "java/lang/IndexOutOfBoundsException", Cond.methodLink RX6 53 yX1_push, Cond.instanceMethod yX1_push, Cond.selects RX1 yX1_push yX1_push, Cond.initialized RX1, Cond.code yX1_push cX1_push 2 none, Cond.fieldLink RX1 11 "PartitionedCache$History" "ring" "[LPartitionedCache$State;", Cond.fieldLink RX1 17 "PartitionedCache$History" "oldest" "I", Cond.fieldLink RX1 21 "PartitionedCache$History" "size" "I", Cond.methodLink RX1 25 yX4_copyFrom, Cond.instanceMethod yX4_copyFrom, Cond.selects RX4 yX4_copyFrom yX4_copyFrom, Cond.initialized RX4]
def wsX6_flush_r2 : List Cond := [Cond.code yX4_copyFrom cX4_copyFrom 2 none, Cond.fieldLink RX4 12 "PartitionedCache$State" "places" "LPartitionedCache$Places;", Cond.fieldLink RX4 21 "PartitionedCache$State" "monitors" "LPartitionedCache$Monitors;", Cond.fieldLink RX4 25 "PartitionedCache$State" "leasts" "[I", Cond.methodLink RX4 46 arraycopyName, Cond.native arraycopyName, Cond.static arraycopyName, Cond.initialized "java/lang/System", Cond.fieldLink RX4 29 "PartitionedCache$State" "counts" "[I", Cond.fieldLink RX4 32 "PartitionedCache$State" "epoch" "I", Cond.fieldLink RX4 36 "PartitionedCache$State" "accesses" "I", Cond.methodLink RX4 39 yX3_copyFrom, Cond.instanceMethod yX3_copyFrom, Cond.selects RX3 yX3_copyFrom yX3_copyFrom, Cond.initialized RX3, Cond.code yX3_copyFrom cX3_copyFrom 2 none, Cond.fieldLink RX3 9 "PartitionedCache$Places" "owners" "[I", Cond.methodLink RX3 21 arraycopyName, Cond.fieldLink RX3 15 "PartitionedCache$Places" "held" "[I", Cond.fieldLink RX3 18 "PartitionedCache$Places" "stamps" "[I", Cond.methodLink RX4 43 yX2_copyFrom, Cond.instanceMethod yX2_copyFrom, Cond.selects RX2 yX2_copyFrom yX2_copyFrom, Cond.initialized RX2]
def wsX6_flush_r3 : List Cond := [Cond.code yX2_copyFrom cX2_copyFrom 2 none, Cond.fieldLink RX2 9 "PartitionedCache$Monitors" "addresses" "[I", Cond.methodLink RX2 18 arraycopyName, Cond.fieldLink RX2 15 "PartitionedCache$Monitors" "gains" "[I", Cond.methodLink RX6 65 yX3_removeLinesOf, Cond.instanceMethod yX3_removeLinesOf, Cond.selects RX3 yX3_removeLinesOf yX3_removeLinesOf, Cond.code yX3_removeLinesOf cX3_removeLinesOf 4 (some .int), Cond.methodLink RX3 35 yX3_holdsLineOf, Cond.instanceMethod yX3_holdsLineOf, Cond.selects RX3 yX3_holdsLineOf yX3_holdsLineOf, Cond.code yX3_holdsLineOf cX3_holdsLineOf 3 (some .boolean)]
def wsX6_flush : List Cond := .code yX6_flush cX6_flush 2 (some .int) :: ((wsX6_flush_r1 ++ (wsX6_flush_r2 ++ wsX6_flush_r3)) ++ wsX60 ++ wsX40 ++ wsX10 ++ wsX30 ++ wsX20 ++ (vx_atS RX6 175 "java/lang/IndexOutOfBoundsException" ["java/lang/RuntimeException", "java/lang/Exception"]).filter goodWord)
def wsX6_moveWay_r1 : List Cond := [Cond.fieldLink RX6 26 "PartitionedCache" "history" "LPartitionedCache$History;", Cond.fieldLink RX6 12 "PartitionedCache" "now" "LPartitionedCache$State;", Cond.methodLink RX6 53 yX1_push, Cond.instanceMethod yX1_push, Cond.selects RX1 yX1_push yX1_push, Cond.initialized RX1, Cond.code yX1_push cX1_push 2 none, Cond.fieldLink RX1 11 "PartitionedCache$History" "ring" "[LPartitionedCache$State;", Cond.fieldLink RX1 17 "PartitionedCache$History" "oldest" "I", Cond.fieldLink RX1 21 "PartitionedCache$History" "size" "I", Cond.methodLink RX1 25 yX4_copyFrom, Cond.instanceMethod yX4_copyFrom, Cond.selects RX4 yX4_copyFrom yX4_copyFrom, Cond.initialized RX4, Cond.code yX4_copyFrom cX4_copyFrom 2 none, Cond.fieldLink RX4 12 "PartitionedCache$State" "places" "LPartitionedCache$Places;", Cond.fieldLink RX4 21 "PartitionedCache$State" "monitors" "LPartitionedCache$Monitors;", Cond.fieldLink RX4 25 "PartitionedCache$State" "leasts" "[I", Cond.methodLink RX4 46 arraycopyName, Cond.native arraycopyName, Cond.static arraycopyName, Cond.initialized "java/lang/System", Cond.fieldLink RX4 29 "PartitionedCache$State" "counts" "[I", Cond.fieldLink RX4 32 "PartitionedCache$State" "epoch" "I"]
def wsX6_moveWay_r2 : List Cond := [Cond.fieldLink RX4 36 "PartitionedCache$State" "accesses" "I", Cond.methodLink RX4 39 yX3_copyFrom, Cond.instanceMethod yX3_copyFrom, Cond.selects RX3 yX3_copyFrom yX3_copyFrom, Cond.initialized RX3, Cond.code yX3_copyFrom cX3_copyFrom 2 none, Cond.fieldLink RX3 9 "PartitionedCache$Places" "owners" "[I", Cond.methodLink RX3 21 arraycopyName, Cond.fieldLink RX3 15 "PartitionedCache$Places" "held" "[I", Cond.fieldLink RX3 18 "PartitionedCache$Places" "stamps" "[I", Cond.methodLink RX4 43 yX2_copyFrom, Cond.instanceMethod yX2_copyFrom, Cond.selects RX2 yX2_copyFrom yX2_copyFrom, Cond.initialized RX2, Cond.code yX2_copyFrom cX2_copyFrom 2 none, Cond.fieldLink RX2 9 "PartitionedCache$Monitors" "addresses" "[I", Cond.methodLink RX2 18 arraycopyName, Cond.fieldLink RX2 15 "PartitionedCache$Monitors" "gains" "[I", Cond.methodLink RX6 71 yX6_moveOneWay, Cond.instanceMethod yX6_moveOneWay, Cond.selects RX6 yX6_moveOneWay yX6_moveOneWay, Cond.initialized RX6, Cond.code yX6_moveOneWay cX6_moveOneWay 4 (some .int), Cond.fieldLink RX6 19 "PartitionedCache" "targets" "LPartitionedCache$Targets;"]
def wsX6_moveWay_r3 : List Cond := [Cond.fieldLink RX6 61 "PartitionedCache$State" "places" "LPartitionedCache$Places;", Cond.fieldLink RX6 79 "PartitionedCache$Places" "owners" "[I", Cond.methodLink RX6 182 yX5_compute, Cond.instanceMethod yX5_compute, Cond.selects RX5 yX5_compute yX5_compute, Cond.initialized RX5, Cond.code yX5_compute cX5_compute 4 none, Cond.fieldLink RX5 9 "PartitionedCache$Targets" "ways" "[I", Cond.fieldLink RX5 15 "PartitionedCache$State" "leasts" "[I", Cond.fieldLink RX5 20 "PartitionedCache$State" "monitors" "LPartitionedCache$Monitors;", Cond.methodLink RX5 24 yX5_growOne, Cond.instanceMethod yX5_growOne, Cond.selects RX5 yX5_growOne yX5_growOne, Cond.code yX5_growOne cX5_growOne 9 (some .int), Cond.fieldLink RX5 28 "PartitionedCache$Monitors" "gains" "[I", Cond.methodLink RX5 33 yX5_lowest, Cond.instanceMethod yX5_lowest, Cond.selects RX5 yX5_lowest yX5_lowest, Cond.code yX5_lowest cX5_lowest 3 (some .int), Cond.methodLink RX6 188 yX6_deficitOf, Cond.instanceMethod yX6_deficitOf, Cond.selects RX6 yX6_deficitOf yX6_deficitOf, Cond.code yX6_deficitOf cX6_deficitOf 2 (some .int), Cond.fieldLink RX6 185 "PartitionedCache$Targets" "ways" "[I"]
def wsX6_moveWay_r4 : List Cond := [Cond.methodLink RX6 144 yX3_ownedWays, Cond.instanceMethod yX3_ownedWays, Cond.selects RX3 yX3_ownedWays yX3_ownedWays, Cond.code yX3_ownedWays cX3_ownedWays 4 (some .int), Cond.methodLink RX6 225 yX3_wayWithFewestLines, Cond.instanceMethod yX3_wayWithFewestLines, Cond.selects RX3 yX3_wayWithFewestLines yX3_wayWithFewestLines, Cond.code yX3_wayWithFewestLines cX3_wayWithFewestLines 5 (some .int), Cond.methodLink RX3 39 yX3_linesInWay, Cond.instanceMethod yX3_linesInWay, Cond.selects RX3 yX3_linesInWay yX3_linesInWay, Cond.code yX3_linesInWay cX3_linesInWay 5 (some .int), Cond.methodLink RX3 35 yX3_holdsLineOf, Cond.instanceMethod yX3_holdsLineOf, Cond.selects RX3 yX3_holdsLineOf yX3_holdsLineOf, Cond.code yX3_holdsLineOf cX3_holdsLineOf 3 (some .boolean)]
def wsX6_moveWay : List Cond := .code yX6_moveWay cX6_moveWay 1 (some .int) :: ((wsX6_moveWay_r1 ++ (wsX6_moveWay_r2 ++ (wsX6_moveWay_r3 ++ wsX6_moveWay_r4))) ++ wsX60 ++ wsX10 ++ wsX40 ++ wsX30 ++ wsX20 ++ wsX50)
def wsX6_giveWay_r1 : List Cond := [Cond.fieldLink RX6 26 "PartitionedCache" "history" "LPartitionedCache$History;", Cond.fieldLink RX6 12 "PartitionedCache" "now" "LPartitionedCache$State;", Cond.fieldLink RX6 61 "PartitionedCache$State" "places" "LPartitionedCache$Places;", Cond.fieldLink RX6 79 "PartitionedCache$Places" "owners" "[I", Cond.methodLink RX6 75 yX6_requireIndex, Cond.static yX6_requireIndex, Cond.initialized RX6, Cond.code yX6_requireIndex cX6_requireIndex 2 none, Cond.classLink RX6 171 "java/lang/IndexOutOfBoundsException", Cond.initialized "java/lang/IndexOutOfBoundsException", Cond.methodLink RX6 45 yX6_requireTenant, Cond.static yX6_requireTenant, Cond.code yX6_requireTenant cX6_requireTenant 1 none, Cond.methodLink RX6 53 yX1_push, Cond.instanceMethod yX1_push, Cond.selects RX1 yX1_push yX1_push, Cond.initialized RX1, Cond.code yX1_push cX1_push 2 none, Cond.fieldLink RX1 11 "PartitionedCache$History" "ring" "[LPartitionedCache$State;", Cond.fieldLink RX1 17 "PartitionedCache$History" "oldest" "I", Cond.fieldLink RX1 21 "PartitionedCache$History" "size" "I", Cond.methodLink RX1 25 yX4_copyFrom, Cond.instanceMethod yX4_copyFrom, Cond.selects RX4 yX4_copyFrom yX4_copyFrom]
def wsX6_giveWay_r2 : List Cond := [Cond.initialized RX4, Cond.code yX4_copyFrom cX4_copyFrom 2 none, Cond.fieldLink RX4 12 "PartitionedCache$State" "places" "LPartitionedCache$Places;", Cond.fieldLink RX4 21 "PartitionedCache$State" "monitors" "LPartitionedCache$Monitors;", Cond.fieldLink RX4 25 "PartitionedCache$State" "leasts" "[I", Cond.methodLink RX4 46 arraycopyName, Cond.native arraycopyName, Cond.static arraycopyName, Cond.initialized "java/lang/System", Cond.fieldLink RX4 29 "PartitionedCache$State" "counts" "[I", Cond.fieldLink RX4 32 "PartitionedCache$State" "epoch" "I", Cond.fieldLink RX4 36 "PartitionedCache$State" "accesses" "I", Cond.methodLink RX4 39 yX3_copyFrom, Cond.instanceMethod yX3_copyFrom, Cond.selects RX3 yX3_copyFrom yX3_copyFrom, Cond.initialized RX3, Cond.code yX3_copyFrom cX3_copyFrom 2 none, Cond.fieldLink RX3 9 "PartitionedCache$Places" "owners" "[I", Cond.methodLink RX3 21 arraycopyName, Cond.fieldLink RX3 15 "PartitionedCache$Places" "held" "[I", Cond.fieldLink RX3 18 "PartitionedCache$Places" "stamps" "[I", Cond.methodLink RX4 43 yX2_copyFrom, Cond.instanceMethod yX2_copyFrom, Cond.selects RX2 yX2_copyFrom yX2_copyFrom]
def wsX6_giveWay_r3 : List Cond := [Cond.initialized RX2, Cond.code yX2_copyFrom cX2_copyFrom 2 none, Cond.fieldLink RX2 9 "PartitionedCache$Monitors" "addresses" "[I", Cond.methodLink RX2 18 arraycopyName, Cond.fieldLink RX2 15 "PartitionedCache$Monitors" "gains" "[I"]
def wsX6_giveWay : List Cond := .code yX6_giveWay cX6_giveWay 4 (some .int) :: ((wsX6_giveWay_r1 ++ (wsX6_giveWay_r2 ++ wsX6_giveWay_r3)) ++ wsX60 ++ wsX40 ++ wsX30 ++ wsX10 ++ wsX20 ++ (vx_atS RX6 175 "java/lang/IndexOutOfBoundsException" ["java/lang/RuntimeException", "java/lang/Exception"]).filter goodWord)
def wsX6_setLeast_r1 : List Cond := [Cond.fieldLink RX6 26 "PartitionedCache" "history" "LPartitionedCache$History;", Cond.fieldLink RX6 12 "PartitionedCache" "now" "LPartitionedCache$State;", Cond.fieldLink RX6 83 "PartitionedCache$State" "leasts" "[I", Cond.methodLink RX6 45 yX6_requireTenant, Cond.static yX6_requireTenant, Cond.initialized RX6, Cond.code yX6_requireTenant cX6_requireTenant 1 none, Cond.methodLink RX6 75 yX6_requireIndex, Cond.static yX6_requireIndex, Cond.code yX6_requireIndex cX6_requireIndex 2 none, Cond.classLink RX6 171 "java/lang/IndexOutOfBoundsException", Cond.initialized "java/lang/IndexOutOfBoundsException", Cond.methodLink RX6 49 yX6_requireArgument, Cond.static yX6_requireArgument, Cond.code yX6_requireArgument cX6_requireArgument 3 none, Cond.classLink RX6 204 "java/lang/IllegalArgumentException", Cond.initialized "java/lang/IllegalArgumentException", Cond.methodLink RX6 53 yX1_push, Cond.instanceMethod yX1_push, Cond.selects RX1 yX1_push yX1_push, Cond.initialized RX1, Cond.code yX1_push cX1_push 2 none, Cond.fieldLink RX1 11 "PartitionedCache$History" "ring" "[LPartitionedCache$State;", Cond.fieldLink RX1 17 "PartitionedCache$History" "oldest" "I"]
def wsX6_setLeast_r2 : List Cond := [Cond.fieldLink RX1 21 "PartitionedCache$History" "size" "I", Cond.methodLink RX1 25 yX4_copyFrom, Cond.instanceMethod yX4_copyFrom, Cond.selects RX4 yX4_copyFrom yX4_copyFrom, Cond.initialized RX4, Cond.code yX4_copyFrom cX4_copyFrom 2 none, Cond.fieldLink RX4 12 "PartitionedCache$State" "places" "LPartitionedCache$Places;", Cond.fieldLink RX4 21 "PartitionedCache$State" "monitors" "LPartitionedCache$Monitors;", Cond.fieldLink RX4 25 "PartitionedCache$State" "leasts" "[I", Cond.methodLink RX4 46 arraycopyName, Cond.native arraycopyName, Cond.static arraycopyName, Cond.initialized "java/lang/System", Cond.fieldLink RX4 29 "PartitionedCache$State" "counts" "[I", Cond.fieldLink RX4 32 "PartitionedCache$State" "epoch" "I", Cond.fieldLink RX4 36 "PartitionedCache$State" "accesses" "I", Cond.methodLink RX4 39 yX3_copyFrom, Cond.instanceMethod yX3_copyFrom, Cond.selects RX3 yX3_copyFrom yX3_copyFrom, Cond.initialized RX3, Cond.code yX3_copyFrom cX3_copyFrom 2 none, Cond.fieldLink RX3 9 "PartitionedCache$Places" "owners" "[I", Cond.methodLink RX3 21 arraycopyName, Cond.fieldLink RX3 15 "PartitionedCache$Places" "held" "[I"]
def wsX6_setLeast_r3 : List Cond := [Cond.fieldLink RX3 18 "PartitionedCache$Places" "stamps" "[I", Cond.methodLink RX4 43 yX2_copyFrom, Cond.instanceMethod yX2_copyFrom, Cond.selects RX2 yX2_copyFrom yX2_copyFrom, Cond.initialized RX2, Cond.code yX2_copyFrom cX2_copyFrom 2 none, Cond.fieldLink RX2 9 "PartitionedCache$Monitors" "addresses" "[I", Cond.methodLink RX2 18 arraycopyName, Cond.fieldLink RX2 15 "PartitionedCache$Monitors" "gains" "[I"]
def wsX6_setLeast : List Cond := .code yX6_setLeast cX6_setLeast 4 (some .int) :: ((wsX6_setLeast_r1 ++ (wsX6_setLeast_r2 ++ wsX6_setLeast_r3)) ++ wsX60 ++ wsX40 ++ wsX10 ++ wsX30 ++ wsX20 ++ (vx_atS RX6 175 "java/lang/IndexOutOfBoundsException" ["java/lang/RuntimeException", "java/lang/Exception"]).filter goodWord ++ (vx_atS RX6 208 "java/lang/IllegalArgumentException" ["java/lang/RuntimeException", "java/lang/Exception"]).filter goodWord)
def wsX6_setEpoch_r1 : List Cond := [Cond.fieldLink RX6 26 "PartitionedCache" "history" "LPartitionedCache$History;", Cond.fieldLink RX6 12 "PartitionedCache" "now" "LPartitionedCache$State;", Cond.fieldLink RX6 86 "PartitionedCache$State" "epoch" "I", Cond.methodLink RX6 49 yX6_requireArgument, Cond.static yX6_requireArgument, Cond.initialized RX6, Cond.code yX6_requireArgument cX6_requireArgument 3 none, Cond.classLink RX6 204 "java/lang/IllegalArgumentException", Cond.initialized "java/lang/IllegalArgumentException", Cond.methodLink RX6 53 yX1_push, Cond.instanceMethod yX1_push, Cond.selects RX1 yX1_push yX1_push, Cond.initialized RX1, Cond.code yX1_push cX1_push 2 none, Cond.fieldLink RX1 11 "PartitionedCache$History" "ring" "[LPartitionedCache$State;", Cond.fieldLink RX1 17 "PartitionedCache$History" "oldest" "I", Cond.fieldLink RX1 21 "PartitionedCache$History" "size" "I", Cond.methodLink RX1 25 yX4_copyFrom, Cond.instanceMethod yX4_copyFrom, Cond.selects RX4 yX4_copyFrom yX4_copyFrom, Cond.initialized RX4, Cond.code yX4_copyFrom cX4_copyFrom 2 none, Cond.fieldLink RX4 12 "PartitionedCache$State" "places" "LPartitionedCache$Places;", Cond.fieldLink RX4 21 "PartitionedCache$State" "monitors" "LPartitionedCache$Monitors;"]
def wsX6_setEpoch_r2 : List Cond := [Cond.fieldLink RX4 25 "PartitionedCache$State" "leasts" "[I", Cond.methodLink RX4 46 arraycopyName, Cond.native arraycopyName, Cond.static arraycopyName, Cond.initialized "java/lang/System", Cond.fieldLink RX4 29 "PartitionedCache$State" "counts" "[I", Cond.fieldLink RX4 32 "PartitionedCache$State" "epoch" "I", Cond.fieldLink RX4 36 "PartitionedCache$State" "accesses" "I", Cond.methodLink RX4 39 yX3_copyFrom, Cond.instanceMethod yX3_copyFrom, Cond.selects RX3 yX3_copyFrom yX3_copyFrom, Cond.initialized RX3, Cond.code yX3_copyFrom cX3_copyFrom 2 none, Cond.fieldLink RX3 9 "PartitionedCache$Places" "owners" "[I", Cond.methodLink RX3 21 arraycopyName, Cond.fieldLink RX3 15 "PartitionedCache$Places" "held" "[I", Cond.fieldLink RX3 18 "PartitionedCache$Places" "stamps" "[I", Cond.methodLink RX4 43 yX2_copyFrom, Cond.instanceMethod yX2_copyFrom, Cond.selects RX2 yX2_copyFrom yX2_copyFrom, Cond.initialized RX2, Cond.code yX2_copyFrom cX2_copyFrom 2 none, Cond.fieldLink RX2 9 "PartitionedCache$Monitors" "addresses" "[I", Cond.methodLink RX2 18 arraycopyName]
def wsX6_setEpoch_r3 : List Cond := [Cond.fieldLink RX2 15 "PartitionedCache$Monitors" "gains" "[I"]
def wsX6_setEpoch : List Cond := .code yX6_setEpoch cX6_setEpoch 3 (some .int) :: ((wsX6_setEpoch_r1 ++ (wsX6_setEpoch_r2 ++ wsX6_setEpoch_r3)) ++ wsX60 ++ wsX40 ++ wsX10 ++ wsX30 ++ wsX20 ++ (vx_atS RX6 208 "java/lang/IllegalArgumentException" ["java/lang/RuntimeException", "java/lang/Exception"]).filter goodWord)
def wsX6_halveGains_r1 : List Cond := [Cond.fieldLink RX6 26 "PartitionedCache" "history" "LPartitionedCache$History;", Cond.fieldLink RX6 12 "PartitionedCache" "now" "LPartitionedCache$State;", Cond.fieldLink RX6 90 "PartitionedCache$State" "monitors" "LPartitionedCache$Monitors;", Cond.methodLink RX6 53 yX1_push, Cond.instanceMethod yX1_push, Cond.selects RX1 yX1_push yX1_push, Cond.initialized RX1, Cond.code yX1_push cX1_push 2 none, Cond.fieldLink RX1 11 "PartitionedCache$History" "ring" "[LPartitionedCache$State;", Cond.fieldLink RX1 17 "PartitionedCache$History" "oldest" "I", Cond.fieldLink RX1 21 "PartitionedCache$History" "size" "I", Cond.methodLink RX1 25 yX4_copyFrom, Cond.instanceMethod yX4_copyFrom, Cond.selects RX4 yX4_copyFrom yX4_copyFrom, Cond.initialized RX4, Cond.code yX4_copyFrom cX4_copyFrom 2 none, Cond.fieldLink RX4 12 "PartitionedCache$State" "places" "LPartitionedCache$Places;", Cond.fieldLink RX4 21 "PartitionedCache$State" "monitors" "LPartitionedCache$Monitors;", Cond.fieldLink RX4 25 "PartitionedCache$State" "leasts" "[I", Cond.methodLink RX4 46 arraycopyName, Cond.native arraycopyName, Cond.static arraycopyName, Cond.initialized "java/lang/System", Cond.fieldLink RX4 29 "PartitionedCache$State" "counts" "[I"]
def wsX6_halveGains_r2 : List Cond := [Cond.fieldLink RX4 32 "PartitionedCache$State" "epoch" "I", Cond.fieldLink RX4 36 "PartitionedCache$State" "accesses" "I", Cond.methodLink RX4 39 yX3_copyFrom, Cond.instanceMethod yX3_copyFrom, Cond.selects RX3 yX3_copyFrom yX3_copyFrom, Cond.initialized RX3, Cond.code yX3_copyFrom cX3_copyFrom 2 none, Cond.fieldLink RX3 9 "PartitionedCache$Places" "owners" "[I", Cond.methodLink RX3 21 arraycopyName, Cond.fieldLink RX3 15 "PartitionedCache$Places" "held" "[I", Cond.fieldLink RX3 18 "PartitionedCache$Places" "stamps" "[I", Cond.methodLink RX4 43 yX2_copyFrom, Cond.instanceMethod yX2_copyFrom, Cond.selects RX2 yX2_copyFrom yX2_copyFrom, Cond.initialized RX2, Cond.code yX2_copyFrom cX2_copyFrom 2 none, Cond.fieldLink RX2 9 "PartitionedCache$Monitors" "addresses" "[I", Cond.methodLink RX2 18 arraycopyName, Cond.fieldLink RX2 15 "PartitionedCache$Monitors" "gains" "[I", Cond.methodLink RX6 94 yX2_halve, Cond.instanceMethod yX2_halve, Cond.selects RX2 yX2_halve yX2_halve, Cond.code yX2_halve cX2_halve 2 none, Cond.methodLink RX6 99 yX2_sumOfGains]
def wsX6_halveGains_r3 : List Cond := [Cond.instanceMethod yX2_sumOfGains, Cond.selects RX2 yX2_sumOfGains yX2_sumOfGains, Cond.code yX2_sumOfGains cX2_sumOfGains 3 (some .int)]
def wsX6_halveGains : List Cond := .code yX6_halveGains cX6_halveGains 1 (some .int) :: ((wsX6_halveGains_r1 ++ (wsX6_halveGains_r2 ++ wsX6_halveGains_r3)) ++ wsX60 ++ wsX40 ++ wsX10 ++ wsX30 ++ wsX20)
def wsX6_appendText : List Cond := .code yX6_appendText cX6_appendText 2 (some .int) :: ([.classLink RX6 105 "java/lang/IllegalStateException", .initialized "java/lang/IllegalStateException", .fieldLink RX6 33 "PartitionedCache" "text" "LPartitionedCache$CommandText;", .fieldLink RX6 102 "PartitionedCache$CommandText" "length" "I", .methodLink RX6 49 yX6_requireArgument, .static yX6_requireArgument, .initialized RX6, .code yX6_requireArgument cX6_requireArgument 3 none, .classLink RX6 204 "java/lang/IllegalArgumentException", .initialized "java/lang/IllegalArgumentException", .methodLink RX6 112 yX0_append, .instanceMethod yX0_append, .selects RX0 yX0_append yX0_append, .initialized RX0, .code yX0_append cX0_append 2 none, .fieldLink RX0 15 "PartitionedCache$CommandText" "length" "I", .fieldLink RX0 9 "PartitionedCache$CommandText" "signs" "[C"] ++ wsX60 ++ wsX00 ++ (vx_atS RX6 109 "java/lang/IllegalStateException" ["java/lang/RuntimeException", "java/lang/Exception"]).filter goodWord ++ (vx_atS RX6 208 "java/lang/IllegalArgumentException" ["java/lang/RuntimeException", "java/lang/Exception"]).filter goodWord)
def wsX6_clearText : List Cond := .code yX6_clearText cX6_clearText 2 (some .int) :: ([.fieldLink RX6 33 "PartitionedCache" "text" "LPartitionedCache$CommandText;", .fieldLink RX6 102 "PartitionedCache$CommandText" "length" "I"] ++ wsX60 ++ wsX00)
def wsX6_errorPosition_r1 : List Cond := [Cond.fieldLink RX6 33 "PartitionedCache" "text" "LPartitionedCache$CommandText;", Cond.methodLink RX6 116 yX0_firstError, Cond.instanceMethod yX0_firstError, Cond.selects RX0 yX0_firstError yX0_firstError, Cond.initialized RX0, Cond.code yX0_firstError cX0_firstError 6 (some .int), Cond.fieldLink RX0 15 "PartitionedCache$CommandText" "length" "I", Cond.methodLink RX0 19 yX0_signAt, Cond.instanceMethod yX0_signAt, Cond.selects RX0 yX0_signAt yX0_signAt, Cond.code yX0_signAt cX0_signAt 2 (some .int), Cond.fieldLink RX0 9 "PartitionedCache$CommandText" "signs" "[C", Cond.methodLink RX0 27 yX0_stageAfter, Cond.static yX0_stageAfter, Cond.code yX0_stageAfter cX0_stageAfter 3 (some .int), Cond.methodLink RX0 31 yX0_stageAfterFirst, Cond.static yX0_stageAfterFirst, Cond.code yX0_stageAfterFirst cX0_stageAfterFirst 1 (some .int), Cond.methodLink RX0 38 yX0_isTenantDigit, Cond.static yX0_isTenantDigit, Cond.code yX0_isTenantDigit cX0_isTenantDigit 1 (some .boolean), Cond.methodLink RX0 23 yX0_isDigit, Cond.static yX0_isDigit, Cond.code yX0_isDigit cX0_isDigit 1 (some .boolean)]
def wsX6_errorPosition_r2 : List Cond := [Cond.methodLink RX0 34 yX0_mayGoOn, Cond.static yX0_mayGoOn, Cond.code yX0_mayGoOn cX0_mayGoOn 2 (some .boolean)]
def wsX6_errorPosition : List Cond := .code yX6_errorPosition cX6_errorPosition 1 (some .int) :: ((wsX6_errorPosition_r1 ++ wsX6_errorPosition_r2) ++ wsX60 ++ wsX00)
def wsX6_runCommand_r1 : List Cond := [Cond.fieldLink RX6 33 "PartitionedCache" "text" "LPartitionedCache$CommandText;", Cond.fieldLink RX6 12 "PartitionedCache" "now" "LPartitionedCache$State;", Cond.fieldLink RX6 90 "PartitionedCache$State" "monitors" "LPartitionedCache$Monitors;", Cond.fieldLink RX6 61 "PartitionedCache$State" "places" "LPartitionedCache$Places;", Cond.methodLink RX6 228 yX0_signAt, Cond.instanceMethod yX0_signAt, Cond.selects RX0 yX0_signAt yX0_signAt, Cond.initialized RX0, Cond.code yX0_signAt cX0_signAt 2 (some .int), Cond.fieldLink RX0 15 "PartitionedCache$CommandText" "length" "I", Cond.fieldLink RX0 9 "PartitionedCache$CommandText" "signs" "[C", Cond.methodLink RX6 71 yX6_moveOneWay, Cond.instanceMethod yX6_moveOneWay, Cond.selects RX6 yX6_moveOneWay yX6_moveOneWay, Cond.initialized RX6, Cond.code yX6_moveOneWay cX6_moveOneWay 4 (some .int), Cond.fieldLink RX6 19 "PartitionedCache" "targets" "LPartitionedCache$Targets;", Cond.fieldLink RX6 79 "PartitionedCache$Places" "owners" "[I", Cond.methodLink RX6 182 yX5_compute, Cond.instanceMethod yX5_compute, Cond.selects RX5 yX5_compute yX5_compute, Cond.initialized RX5, Cond.code yX5_compute cX5_compute 4 none, Cond.fieldLink RX5 9 "PartitionedCache$Targets" "ways" "[I"]
def wsX6_runCommand_r2 : List Cond := [Cond.fieldLink RX5 15 "PartitionedCache$State" "leasts" "[I", Cond.fieldLink RX5 20 "PartitionedCache$State" "monitors" "LPartitionedCache$Monitors;", Cond.methodLink RX5 24 yX5_growOne, Cond.instanceMethod yX5_growOne, Cond.selects RX5 yX5_growOne yX5_growOne, Cond.code yX5_growOne cX5_growOne 9 (some .int), Cond.fieldLink RX5 28 "PartitionedCache$Monitors" "gains" "[I", Cond.methodLink RX5 33 yX5_lowest, Cond.instanceMethod yX5_lowest, Cond.selects RX5 yX5_lowest yX5_lowest, Cond.code yX5_lowest cX5_lowest 3 (some .int), Cond.methodLink RX6 188 yX6_deficitOf, Cond.instanceMethod yX6_deficitOf, Cond.selects RX6 yX6_deficitOf yX6_deficitOf, Cond.code yX6_deficitOf cX6_deficitOf 2 (some .int), Cond.fieldLink RX6 185 "PartitionedCache$Targets" "ways" "[I", Cond.methodLink RX6 144 yX3_ownedWays, Cond.instanceMethod yX3_ownedWays, Cond.selects RX3 yX3_ownedWays yX3_ownedWays, Cond.initialized RX3, Cond.code yX3_ownedWays cX3_ownedWays 4 (some .int), Cond.fieldLink RX3 9 "PartitionedCache$Places" "owners" "[I", Cond.methodLink RX6 225 yX3_wayWithFewestLines, Cond.instanceMethod yX3_wayWithFewestLines]
def wsX6_runCommand_r3 : List Cond := [Cond.selects RX3 yX3_wayWithFewestLines yX3_wayWithFewestLines, Cond.code yX3_wayWithFewestLines cX3_wayWithFewestLines 5 (some .int), Cond.methodLink RX3 39 yX3_linesInWay, Cond.instanceMethod yX3_linesInWay, Cond.selects RX3 yX3_linesInWay yX3_linesInWay, Cond.code yX3_linesInWay cX3_linesInWay 5 (some .int), Cond.methodLink RX3 35 yX3_holdsLineOf, Cond.instanceMethod yX3_holdsLineOf, Cond.selects RX3 yX3_holdsLineOf yX3_holdsLineOf, Cond.code yX3_holdsLineOf cX3_holdsLineOf 3 (some .boolean), Cond.fieldLink RX3 15 "PartitionedCache$Places" "held" "[I", Cond.methodLink RX6 94 yX2_halve, Cond.instanceMethod yX2_halve, Cond.selects RX2 yX2_halve yX2_halve, Cond.initialized RX2, Cond.code yX2_halve cX2_halve 2 none, Cond.fieldLink RX2 15 "PartitionedCache$Monitors" "gains" "[I", Cond.methodLink RX6 65 yX3_removeLinesOf, Cond.instanceMethod yX3_removeLinesOf, Cond.selects RX3 yX3_removeLinesOf yX3_removeLinesOf, Cond.code yX3_removeLinesOf cX3_removeLinesOf 4 (some .int), Cond.methodLink RX6 231 yX0_numberAt, Cond.instanceMethod yX0_numberAt, Cond.selects RX0 yX0_numberAt yX0_numberAt]
def wsX6_runCommand_r4 : List Cond := [Cond.code yX0_numberAt cX0_numberAt 4 (some .int), Cond.methodLink RX0 19 yX0_signAt, Cond.methodLink RX0 23 yX0_isDigit, Cond.static yX0_isDigit, Cond.code yX0_isDigit cX0_isDigit 1 (some .boolean), Cond.methodLink RX6 57 yX6_makeAccess, Cond.instanceMethod yX6_makeAccess, Cond.selects RX6 yX6_makeAccess yX6_makeAccess, Cond.code yX6_makeAccess cX6_makeAccess 4 (some .int), Cond.fieldLink RX6 199 "PartitionedCache$State" "accesses" "I", Cond.fieldLink RX6 196 "PartitionedCache$State" "counts" "[I", Cond.fieldLink RX6 86 "PartitionedCache$State" "epoch" "I", Cond.methodLink RX6 209 yX2_note, Cond.instanceMethod yX2_note, Cond.selects RX2 yX2_note yX2_note, Cond.code yX2_note cX2_note 7 none, Cond.fieldLink RX2 9 "PartitionedCache$Monitors" "addresses" "[I", Cond.static yX6_isSampled, Cond.code yX6_isSampled cX6_isSampled 1 (some .boolean), Cond.static yX6_listStart, Cond.code yX6_listStart cX6_listStart 2 (some .int), Cond.methodLink RX6 156 yX3_resultOf, Cond.instanceMethod yX3_resultOf, Cond.selects RX3 yX3_resultOf yX3_resultOf]
def wsX6_runCommand_r5 : List Cond := [Cond.code yX3_resultOf cX3_resultOf 3 (some .int), Cond.methodLink RX3 27 yX3_placeOf, Cond.instanceMethod yX3_placeOf, Cond.selects RX3 yX3_placeOf yX3_placeOf, Cond.code yX3_placeOf cX3_placeOf 5 (some .int), Cond.methodLink RX3 31 yX3_ownedWays, Cond.methodLink RX6 212 yX3_renew, Cond.instanceMethod yX3_renew, Cond.selects RX3 yX3_renew yX3_renew, Cond.code yX3_renew cX3_renew 5 none, Cond.fieldLink RX3 18 "PartitionedCache$Places" "stamps" "[I", Cond.methodLink RX6 215 yX6_bringIn, Cond.instanceMethod yX6_bringIn, Cond.selects RX6 yX6_bringIn yX6_bringIn, Cond.code yX6_bringIn cX6_bringIn 5 none, Cond.fieldLink RX6 147 "PartitionedCache$Places" "held" "[I", Cond.fieldLink RX6 222 "PartitionedCache$Places" "stamps" "[I", Cond.methodLink RX6 159 yX3_placeToFill, Cond.instanceMethod yX3_placeToFill, Cond.selects RX3 yX3_placeToFill yX3_placeToFill, Cond.code yX3_placeToFill cX3_placeToFill 7 (some .int), Cond.methodLink RX6 218 yX3_holdsLineOf]
def wsX6_runCommand : List Cond := .code yX6_runCommand cX6_runCommand 5 (some .int) :: ((wsX6_runCommand_r1 ++ (wsX6_runCommand_r2 ++ (wsX6_runCommand_r3 ++ (wsX6_runCommand_r4 ++ wsX6_runCommand_r5)))) ++ wsX60 ++ wsX40 ++ wsX00 ++ wsX30 ++ wsX50 ++ wsX20)
def wsX6_runText_r1 : List Cond := [Cond.classLink RX6 105 "java/lang/IllegalStateException", Cond.initialized "java/lang/IllegalStateException", Cond.fieldLink RX6 33 "PartitionedCache" "text" "LPartitionedCache$CommandText;", Cond.fieldLink RX6 26 "PartitionedCache" "history" "LPartitionedCache$History;", Cond.fieldLink RX6 12 "PartitionedCache" "now" "LPartitionedCache$State;", Cond.fieldLink RX6 102 "PartitionedCache$CommandText" "length" "I", Cond.methodLink RX6 116 yX0_firstError, Cond.instanceMethod yX0_firstError, Cond.selects RX0 yX0_firstError yX0_firstError, Cond.initialized RX0, Cond.code yX0_firstError cX0_firstError 6 (some .int), Cond.fieldLink RX0 15 "PartitionedCache$CommandText" "length" "I", Cond.methodLink RX0 19 yX0_signAt, Cond.instanceMethod yX0_signAt, Cond.selects RX0 yX0_signAt yX0_signAt, Cond.code yX0_signAt cX0_signAt 2 (some .int), Cond.fieldLink RX0 9 "PartitionedCache$CommandText" "signs" "[C", Cond.methodLink RX0 27 yX0_stageAfter, Cond.static yX0_stageAfter, Cond.code yX0_stageAfter cX0_stageAfter 3 (some .int), Cond.methodLink RX0 31 yX0_stageAfterFirst, Cond.static yX0_stageAfterFirst, Cond.code yX0_stageAfterFirst cX0_stageAfterFirst 1 (some .int), Cond.methodLink RX0 38 yX0_isTenantDigit]
def wsX6_runText_r2 : List Cond := [Cond.static yX0_isTenantDigit, Cond.code yX0_isTenantDigit cX0_isTenantDigit 1 (some .boolean), Cond.methodLink RX0 23 yX0_isDigit, Cond.static yX0_isDigit, Cond.code yX0_isDigit cX0_isDigit 1 (some .boolean), Cond.methodLink RX0 34 yX0_mayGoOn, Cond.static yX0_mayGoOn, Cond.code yX0_mayGoOn cX0_mayGoOn 2 (some .boolean), Cond.methodLink RX6 53 yX1_push, Cond.instanceMethod yX1_push, Cond.selects RX1 yX1_push yX1_push, Cond.initialized RX1, Cond.code yX1_push cX1_push 2 none, Cond.fieldLink RX1 11 "PartitionedCache$History" "ring" "[LPartitionedCache$State;", Cond.fieldLink RX1 17 "PartitionedCache$History" "oldest" "I", Cond.fieldLink RX1 21 "PartitionedCache$History" "size" "I", Cond.methodLink RX1 25 yX4_copyFrom, Cond.instanceMethod yX4_copyFrom, Cond.selects RX4 yX4_copyFrom yX4_copyFrom, Cond.initialized RX4, Cond.code yX4_copyFrom cX4_copyFrom 2 none, Cond.fieldLink RX4 12 "PartitionedCache$State" "places" "LPartitionedCache$Places;", Cond.fieldLink RX4 21 "PartitionedCache$State" "monitors" "LPartitionedCache$Monitors;", Cond.fieldLink RX4 25 "PartitionedCache$State" "leasts" "[I"]
def wsX6_runText_r3 : List Cond := [Cond.methodLink RX4 46 arraycopyName, Cond.native arraycopyName, Cond.static arraycopyName, Cond.initialized "java/lang/System", Cond.fieldLink RX4 29 "PartitionedCache$State" "counts" "[I", Cond.fieldLink RX4 32 "PartitionedCache$State" "epoch" "I", Cond.fieldLink RX4 36 "PartitionedCache$State" "accesses" "I", Cond.methodLink RX4 39 yX3_copyFrom, Cond.instanceMethod yX3_copyFrom, Cond.selects RX3 yX3_copyFrom yX3_copyFrom, Cond.initialized RX3, Cond.code yX3_copyFrom cX3_copyFrom 2 none, Cond.fieldLink RX3 9 "PartitionedCache$Places" "owners" "[I", Cond.methodLink RX3 21 arraycopyName, Cond.fieldLink RX3 15 "PartitionedCache$Places" "held" "[I", Cond.fieldLink RX3 18 "PartitionedCache$Places" "stamps" "[I", Cond.methodLink RX4 43 yX2_copyFrom, Cond.instanceMethod yX2_copyFrom, Cond.selects RX2 yX2_copyFrom yX2_copyFrom, Cond.initialized RX2, Cond.code yX2_copyFrom cX2_copyFrom 2 none, Cond.fieldLink RX2 9 "PartitionedCache$Monitors" "addresses" "[I", Cond.methodLink RX2 18 arraycopyName, Cond.fieldLink RX2 15 "PartitionedCache$Monitors" "gains" "[I"]
def wsX6_runText_r4 : List Cond := [Cond.methodLink RX6 121 yX0_commandBeginsAt, Cond.instanceMethod yX0_commandBeginsAt, Cond.selects RX0 yX0_commandBeginsAt yX0_commandBeginsAt, Cond.code yX0_commandBeginsAt cX0_commandBeginsAt 2 (some .boolean), Cond.methodLink RX6 125 yX6_runCommand, Cond.instanceMethod yX6_runCommand, Cond.selects RX6 yX6_runCommand yX6_runCommand, Cond.initialized RX6, Cond.code yX6_runCommand cX6_runCommand 5 (some .int), Cond.fieldLink RX6 90 "PartitionedCache$State" "monitors" "LPartitionedCache$Monitors;", Cond.fieldLink RX6 61 "PartitionedCache$State" "places" "LPartitionedCache$Places;", Cond.methodLink RX6 228 yX0_signAt, Cond.methodLink RX6 71 yX6_moveOneWay, Cond.instanceMethod yX6_moveOneWay, Cond.selects RX6 yX6_moveOneWay yX6_moveOneWay, Cond.code yX6_moveOneWay cX6_moveOneWay 4 (some .int), Cond.fieldLink RX6 19 "PartitionedCache" "targets" "LPartitionedCache$Targets;", Cond.fieldLink RX6 79 "PartitionedCache$Places" "owners" "[I", Cond.methodLink RX6 182 yX5_compute, Cond.instanceMethod yX5_compute, Cond.selects RX5 yX5_compute yX5_compute, Cond.initialized RX5, Cond.code yX5_compute cX5_compute 4 none, Cond.fieldLink RX5 9 "PartitionedCache$Targets" "ways" "[I"]
def wsX6_runText_r5 : List Cond := [Cond.fieldLink RX5 15 "PartitionedCache$State" "leasts" "[I", Cond.fieldLink RX5 20 "PartitionedCache$State" "monitors" "LPartitionedCache$Monitors;", Cond.methodLink RX5 24 yX5_growOne, Cond.instanceMethod yX5_growOne, Cond.selects RX5 yX5_growOne yX5_growOne, Cond.code yX5_growOne cX5_growOne 9 (some .int), Cond.fieldLink RX5 28 "PartitionedCache$Monitors" "gains" "[I", Cond.methodLink RX5 33 yX5_lowest, Cond.instanceMethod yX5_lowest, Cond.selects RX5 yX5_lowest yX5_lowest, Cond.code yX5_lowest cX5_lowest 3 (some .int), Cond.methodLink RX6 188 yX6_deficitOf, Cond.instanceMethod yX6_deficitOf, Cond.selects RX6 yX6_deficitOf yX6_deficitOf, Cond.code yX6_deficitOf cX6_deficitOf 2 (some .int), Cond.fieldLink RX6 185 "PartitionedCache$Targets" "ways" "[I", Cond.methodLink RX6 144 yX3_ownedWays, Cond.instanceMethod yX3_ownedWays, Cond.selects RX3 yX3_ownedWays yX3_ownedWays, Cond.code yX3_ownedWays cX3_ownedWays 4 (some .int), Cond.methodLink RX6 225 yX3_wayWithFewestLines, Cond.instanceMethod yX3_wayWithFewestLines, Cond.selects RX3 yX3_wayWithFewestLines yX3_wayWithFewestLines, Cond.code yX3_wayWithFewestLines cX3_wayWithFewestLines 5 (some .int)]
def wsX6_runText_r6 : List Cond := [Cond.methodLink RX3 39 yX3_linesInWay, Cond.instanceMethod yX3_linesInWay, Cond.selects RX3 yX3_linesInWay yX3_linesInWay, Cond.code yX3_linesInWay cX3_linesInWay 5 (some .int), Cond.methodLink RX3 35 yX3_holdsLineOf, Cond.instanceMethod yX3_holdsLineOf, Cond.selects RX3 yX3_holdsLineOf yX3_holdsLineOf, Cond.code yX3_holdsLineOf cX3_holdsLineOf 3 (some .boolean), Cond.methodLink RX6 94 yX2_halve, Cond.instanceMethod yX2_halve, Cond.selects RX2 yX2_halve yX2_halve, Cond.code yX2_halve cX2_halve 2 none, Cond.methodLink RX6 65 yX3_removeLinesOf, Cond.instanceMethod yX3_removeLinesOf, Cond.selects RX3 yX3_removeLinesOf yX3_removeLinesOf, Cond.code yX3_removeLinesOf cX3_removeLinesOf 4 (some .int), Cond.methodLink RX6 231 yX0_numberAt, Cond.instanceMethod yX0_numberAt, Cond.selects RX0 yX0_numberAt yX0_numberAt, Cond.code yX0_numberAt cX0_numberAt 4 (some .int), Cond.methodLink RX6 57 yX6_makeAccess, Cond.instanceMethod yX6_makeAccess, Cond.selects RX6 yX6_makeAccess yX6_makeAccess, Cond.code yX6_makeAccess cX6_makeAccess 4 (some .int)]
def wsX6_runText_r7 : List Cond := [Cond.fieldLink RX6 199 "PartitionedCache$State" "accesses" "I", Cond.fieldLink RX6 196 "PartitionedCache$State" "counts" "[I", Cond.fieldLink RX6 86 "PartitionedCache$State" "epoch" "I", Cond.methodLink RX6 209 yX2_note, Cond.instanceMethod yX2_note, Cond.selects RX2 yX2_note yX2_note, Cond.code yX2_note cX2_note 7 none, Cond.static yX6_isSampled, Cond.code yX6_isSampled cX6_isSampled 1 (some .boolean), Cond.static yX6_listStart, Cond.code yX6_listStart cX6_listStart 2 (some .int), Cond.methodLink RX6 156 yX3_resultOf, Cond.instanceMethod yX3_resultOf, Cond.selects RX3 yX3_resultOf yX3_resultOf, Cond.code yX3_resultOf cX3_resultOf 3 (some .int), Cond.methodLink RX3 27 yX3_placeOf, Cond.instanceMethod yX3_placeOf, Cond.selects RX3 yX3_placeOf yX3_placeOf, Cond.code yX3_placeOf cX3_placeOf 5 (some .int), Cond.methodLink RX3 31 yX3_ownedWays, Cond.methodLink RX6 212 yX3_renew, Cond.instanceMethod yX3_renew, Cond.selects RX3 yX3_renew yX3_renew, Cond.code yX3_renew cX3_renew 5 none]
def wsX6_runText_r8 : List Cond := [Cond.methodLink RX6 215 yX6_bringIn, Cond.instanceMethod yX6_bringIn, Cond.selects RX6 yX6_bringIn yX6_bringIn, Cond.code yX6_bringIn cX6_bringIn 5 none, Cond.fieldLink RX6 147 "PartitionedCache$Places" "held" "[I", Cond.fieldLink RX6 222 "PartitionedCache$Places" "stamps" "[I", Cond.methodLink RX6 159 yX3_placeToFill, Cond.instanceMethod yX3_placeToFill, Cond.selects RX3 yX3_placeToFill yX3_placeToFill, Cond.code yX3_placeToFill cX3_placeToFill 7 (some .int), Cond.methodLink RX6 218 yX3_holdsLineOf]
def wsX6_runText : List Cond := .code yX6_runText cX6_runText 3 (some .int) :: ((wsX6_runText_r1 ++ (wsX6_runText_r2 ++ (wsX6_runText_r3 ++ (wsX6_runText_r4 ++ (wsX6_runText_r5 ++ (wsX6_runText_r6 ++ (wsX6_runText_r7 ++ wsX6_runText_r8))))))) ++ wsX60 ++ wsX00 ++ wsX10 ++ wsX40 ++ wsX30 ++ wsX20 ++ wsX50 ++ (vx_atS RX6 109 "java/lang/IllegalStateException" ["java/lang/RuntimeException", "java/lang/Exception"]).filter goodWord)
def wsX6_undo_r1 : List Cond := [Cond.classLink RX6 105 "java/lang/IllegalStateException", Cond.initialized "java/lang/IllegalStateException", Cond.fieldLink RX6 26 "PartitionedCache" "history" "LPartitionedCache$History;", Cond.fieldLink RX6 128 "PartitionedCache$History" "size" "I", Cond.fieldLink RX6 12 "PartitionedCache" "now" "LPartitionedCache$State;", Cond.methodLink RX6 133 yX1_popInto, Cond.instanceMethod yX1_popInto, Cond.selects RX1 yX1_popInto yX1_popInto, Cond.initialized RX1, Cond.code yX1_popInto cX1_popInto 2 none, Cond.fieldLink RX1 21 "PartitionedCache$History" "size" "I", Cond.fieldLink RX1 11 "PartitionedCache$History" "ring" "[LPartitionedCache$State;", Cond.fieldLink RX1 17 "PartitionedCache$History" "oldest" "I", Cond.methodLink RX1 25 yX4_copyFrom, Cond.instanceMethod yX4_copyFrom, Cond.selects RX4 yX4_copyFrom yX4_copyFrom, Cond.initialized RX4, Cond.code yX4_copyFrom cX4_copyFrom 2 none, Cond.fieldLink RX4 12 "PartitionedCache$State" "places" "LPartitionedCache$Places;", Cond.fieldLink RX4 21 "PartitionedCache$State" "monitors" "LPartitionedCache$Monitors;", Cond.fieldLink RX4 25 "PartitionedCache$State" "leasts" "[I", Cond.methodLink RX4 46 arraycopyName, Cond.native arraycopyName, Cond.static arraycopyName]
def wsX6_undo_r2 : List Cond := [Cond.initialized "java/lang/System", Cond.fieldLink RX4 29 "PartitionedCache$State" "counts" "[I", Cond.fieldLink RX4 32 "PartitionedCache$State" "epoch" "I", Cond.fieldLink RX4 36 "PartitionedCache$State" "accesses" "I", Cond.methodLink RX4 39 yX3_copyFrom, Cond.instanceMethod yX3_copyFrom, Cond.selects RX3 yX3_copyFrom yX3_copyFrom, Cond.initialized RX3, Cond.code yX3_copyFrom cX3_copyFrom 2 none, Cond.fieldLink RX3 9 "PartitionedCache$Places" "owners" "[I", Cond.methodLink RX3 21 arraycopyName, Cond.fieldLink RX3 15 "PartitionedCache$Places" "held" "[I", Cond.fieldLink RX3 18 "PartitionedCache$Places" "stamps" "[I", Cond.methodLink RX4 43 yX2_copyFrom, Cond.instanceMethod yX2_copyFrom, Cond.selects RX2 yX2_copyFrom yX2_copyFrom, Cond.initialized RX2, Cond.code yX2_copyFrom cX2_copyFrom 2 none, Cond.fieldLink RX2 9 "PartitionedCache$Monitors" "addresses" "[I", Cond.methodLink RX2 18 arraycopyName, Cond.fieldLink RX2 15 "PartitionedCache$Monitors" "gains" "[I"]
def wsX6_undo : List Cond := .code yX6_undo cX6_undo 1 (some .int) :: ((wsX6_undo_r1 ++ wsX6_undo_r2) ++ wsX60 ++ wsX10 ++ wsX40 ++ wsX30 ++ wsX20 ++ (vx_atS RX6 109 "java/lang/IllegalStateException" ["java/lang/RuntimeException", "java/lang/Exception"]).filter goodWord)
def wsX6_save_r1 : List Cond := [Cond.fieldLink RX6 37 "PartitionedCache" "slots" "[LPartitionedCache$State;", Cond.fieldLink RX6 12 "PartitionedCache" "now" "LPartitionedCache$State;", Cond.fieldLink RX6 41 "PartitionedCache" "slotFilled" "[Z", Cond.fieldLink RX6 61 "PartitionedCache$State" "places" "LPartitionedCache$Places;", Cond.methodLink RX6 75 yX6_requireIndex, Cond.static yX6_requireIndex, Cond.initialized RX6, Cond.code yX6_requireIndex cX6_requireIndex 2 none, Cond.classLink RX6 171 "java/lang/IndexOutOfBoundsException", Cond.initialized "java/lang/IndexOutOfBoundsException", Cond.methodLink RX6 136 yX4_copyFrom, Cond.instanceMethod yX4_copyFrom, Cond.selects RX4 yX4_copyFrom yX4_copyFrom, Cond.initialized RX4, Cond.code yX4_copyFrom cX4_copyFrom 2 none, Cond.fieldLink RX4 12 "PartitionedCache$State" "places" "LPartitionedCache$Places;", Cond.fieldLink RX4 21 "PartitionedCache$State" "monitors" "LPartitionedCache$Monitors;", Cond.fieldLink RX4 25 "PartitionedCache$State" "leasts" "[I", Cond.methodLink RX4 46 arraycopyName, Cond.native arraycopyName, Cond.static arraycopyName, Cond.initialized "java/lang/System", Cond.fieldLink RX4 29 "PartitionedCache$State" "counts" "[I", Cond.fieldLink RX4 32 "PartitionedCache$State" "epoch" "I"]
def wsX6_save_r2 : List Cond := [Cond.fieldLink RX4 36 "PartitionedCache$State" "accesses" "I", Cond.methodLink RX4 39 yX3_copyFrom, Cond.instanceMethod yX3_copyFrom, Cond.selects RX3 yX3_copyFrom yX3_copyFrom, Cond.initialized RX3, Cond.code yX3_copyFrom cX3_copyFrom 2 none, Cond.fieldLink RX3 9 "PartitionedCache$Places" "owners" "[I", Cond.methodLink RX3 21 arraycopyName, Cond.fieldLink RX3 15 "PartitionedCache$Places" "held" "[I", Cond.fieldLink RX3 18 "PartitionedCache$Places" "stamps" "[I", Cond.methodLink RX4 43 yX2_copyFrom, Cond.instanceMethod yX2_copyFrom, Cond.selects RX2 yX2_copyFrom yX2_copyFrom, Cond.initialized RX2, Cond.code yX2_copyFrom cX2_copyFrom 2 none, Cond.fieldLink RX2 9 "PartitionedCache$Monitors" "addresses" "[I", Cond.methodLink RX2 18 arraycopyName, Cond.fieldLink RX2 15 "PartitionedCache$Monitors" "gains" "[I", Cond.methodLink RX6 139 yX3_allLines, Cond.instanceMethod yX3_allLines, Cond.selects RX3 yX3_allLines yX3_allLines, Cond.code yX3_allLines cX3_allLines 3 (some .int), Cond.methodLink RX3 42 yX3_linesOf, Cond.instanceMethod yX3_linesOf]
def wsX6_save_r3 : List Cond := [Cond.selects RX3 yX3_linesOf yX3_linesOf, Cond.code yX3_linesOf cX3_linesOf 4 (some .int), Cond.methodLink RX3 39 yX3_linesInWay, Cond.instanceMethod yX3_linesInWay, Cond.selects RX3 yX3_linesInWay yX3_linesInWay, Cond.code yX3_linesInWay cX3_linesInWay 5 (some .int), Cond.methodLink RX3 35 yX3_holdsLineOf, Cond.instanceMethod yX3_holdsLineOf, Cond.selects RX3 yX3_holdsLineOf yX3_holdsLineOf, Cond.code yX3_holdsLineOf cX3_holdsLineOf 3 (some .boolean)]
def wsX6_save : List Cond := .code yX6_save cX6_save 2 (some .int) :: ((wsX6_save_r1 ++ (wsX6_save_r2 ++ wsX6_save_r3)) ++ wsX60 ++ wsX40 ++ wsX30 ++ wsX20 ++ (vx_atS RX6 175 "java/lang/IndexOutOfBoundsException" ["java/lang/RuntimeException", "java/lang/Exception"]).filter goodWord)
def wsX6_restore_r1 : List Cond := [Cond.classLink RX6 105 "java/lang/IllegalStateException", Cond.initialized "java/lang/IllegalStateException", Cond.fieldLink RX6 41 "PartitionedCache" "slotFilled" "[Z", Cond.fieldLink RX6 26 "PartitionedCache" "history" "LPartitionedCache$History;", Cond.fieldLink RX6 12 "PartitionedCache" "now" "LPartitionedCache$State;", Cond.fieldLink RX6 37 "PartitionedCache" "slots" "[LPartitionedCache$State;", Cond.fieldLink RX6 61 "PartitionedCache$State" "places" "LPartitionedCache$Places;", Cond.methodLink RX6 75 yX6_requireIndex, Cond.static yX6_requireIndex, Cond.initialized RX6, Cond.code yX6_requireIndex cX6_requireIndex 2 none, Cond.classLink RX6 171 "java/lang/IndexOutOfBoundsException", Cond.initialized "java/lang/IndexOutOfBoundsException", Cond.methodLink RX6 53 yX1_push, Cond.instanceMethod yX1_push, Cond.selects RX1 yX1_push yX1_push, Cond.initialized RX1, Cond.code yX1_push cX1_push 2 none, Cond.fieldLink RX1 11 "PartitionedCache$History" "ring" "[LPartitionedCache$State;", Cond.fieldLink RX1 17 "PartitionedCache$History" "oldest" "I", Cond.fieldLink RX1 21 "PartitionedCache$History" "size" "I", Cond.methodLink RX1 25 yX4_copyFrom, Cond.instanceMethod yX4_copyFrom, Cond.selects RX4 yX4_copyFrom yX4_copyFrom]
def wsX6_restore_r2 : List Cond := [Cond.initialized RX4, Cond.code yX4_copyFrom cX4_copyFrom 2 none, Cond.fieldLink RX4 12 "PartitionedCache$State" "places" "LPartitionedCache$Places;", Cond.fieldLink RX4 21 "PartitionedCache$State" "monitors" "LPartitionedCache$Monitors;", Cond.fieldLink RX4 25 "PartitionedCache$State" "leasts" "[I", Cond.methodLink RX4 46 arraycopyName, Cond.native arraycopyName, Cond.static arraycopyName, Cond.initialized "java/lang/System", Cond.fieldLink RX4 29 "PartitionedCache$State" "counts" "[I", Cond.fieldLink RX4 32 "PartitionedCache$State" "epoch" "I", Cond.fieldLink RX4 36 "PartitionedCache$State" "accesses" "I", Cond.methodLink RX4 39 yX3_copyFrom, Cond.instanceMethod yX3_copyFrom, Cond.selects RX3 yX3_copyFrom yX3_copyFrom, Cond.initialized RX3, Cond.code yX3_copyFrom cX3_copyFrom 2 none, Cond.fieldLink RX3 9 "PartitionedCache$Places" "owners" "[I", Cond.methodLink RX3 21 arraycopyName, Cond.fieldLink RX3 15 "PartitionedCache$Places" "held" "[I", Cond.fieldLink RX3 18 "PartitionedCache$Places" "stamps" "[I", Cond.methodLink RX4 43 yX2_copyFrom, Cond.instanceMethod yX2_copyFrom, Cond.selects RX2 yX2_copyFrom yX2_copyFrom]
def wsX6_restore_r3 : List Cond := [Cond.initialized RX2, Cond.code yX2_copyFrom cX2_copyFrom 2 none, Cond.fieldLink RX2 9 "PartitionedCache$Monitors" "addresses" "[I", Cond.methodLink RX2 18 arraycopyName, Cond.fieldLink RX2 15 "PartitionedCache$Monitors" "gains" "[I", Cond.methodLink RX6 136 yX4_copyFrom, Cond.methodLink RX6 139 yX3_allLines, Cond.instanceMethod yX3_allLines, Cond.selects RX3 yX3_allLines yX3_allLines, Cond.code yX3_allLines cX3_allLines 3 (some .int), Cond.methodLink RX3 42 yX3_linesOf, Cond.instanceMethod yX3_linesOf, Cond.selects RX3 yX3_linesOf yX3_linesOf, Cond.code yX3_linesOf cX3_linesOf 4 (some .int), Cond.methodLink RX3 39 yX3_linesInWay, Cond.instanceMethod yX3_linesInWay, Cond.selects RX3 yX3_linesInWay yX3_linesInWay, Cond.code yX3_linesInWay cX3_linesInWay 5 (some .int), Cond.methodLink RX3 35 yX3_holdsLineOf, Cond.instanceMethod yX3_holdsLineOf, Cond.selects RX3 yX3_holdsLineOf yX3_holdsLineOf, Cond.code yX3_holdsLineOf cX3_holdsLineOf 3 (some .boolean)]
def wsX6_restore : List Cond := .code yX6_restore cX6_restore 2 (some .int) :: ((wsX6_restore_r1 ++ (wsX6_restore_r2 ++ wsX6_restore_r3)) ++ wsX60 ++ wsX40 ++ wsX10 ++ wsX30 ++ wsX20 ++ (vx_atS RX6 109 "java/lang/IllegalStateException" ["java/lang/RuntimeException", "java/lang/Exception"]).filter goodWord ++ (vx_atS RX6 175 "java/lang/IndexOutOfBoundsException" ["java/lang/RuntimeException", "java/lang/Exception"]).filter goodWord)
def wsX6_owner : List Cond := .code yX6_owner cX6_owner 2 (some .int) :: ([.fieldLink RX6 12 "PartitionedCache" "now" "LPartitionedCache$State;", .fieldLink RX6 61 "PartitionedCache$State" "places" "LPartitionedCache$Places;", .fieldLink RX6 79 "PartitionedCache$Places" "owners" "[I", .methodLink RX6 75 yX6_requireIndex, .static yX6_requireIndex, .initialized RX6, .code yX6_requireIndex cX6_requireIndex 2 none, .classLink RX6 171 "java/lang/IndexOutOfBoundsException", .initialized "java/lang/IndexOutOfBoundsException"] ++ wsX60 ++ wsX40 ++ wsX30 ++ (vx_atS RX6 175 "java/lang/IndexOutOfBoundsException" ["java/lang/RuntimeException", "java/lang/Exception"]).filter goodWord)
def wsX6_waysOf : List Cond := .code yX6_waysOf cX6_waysOf 2 (some .int) :: ([.fieldLink RX6 12 "PartitionedCache" "now" "LPartitionedCache$State;", .fieldLink RX6 61 "PartitionedCache$State" "places" "LPartitionedCache$Places;", .methodLink RX6 45 yX6_requireTenant, .static yX6_requireTenant, .initialized RX6, .code yX6_requireTenant cX6_requireTenant 1 none, .methodLink RX6 75 yX6_requireIndex, .static yX6_requireIndex, .code yX6_requireIndex cX6_requireIndex 2 none, .classLink RX6 171 "java/lang/IndexOutOfBoundsException", .initialized "java/lang/IndexOutOfBoundsException", .methodLink RX6 144 yX3_ownedWays, .instanceMethod yX3_ownedWays, .selects RX3 yX3_ownedWays yX3_ownedWays, .initialized RX3, .code yX3_ownedWays cX3_ownedWays 4 (some .int), .fieldLink RX3 9 "PartitionedCache$Places" "owners" "[I"] ++ wsX60 ++ wsX40 ++ wsX30 ++ (vx_atS RX6 175 "java/lang/IndexOutOfBoundsException" ["java/lang/RuntimeException", "java/lang/Exception"]).filter goodWord)
def wsX6_line : List Cond := .code yX6_line cX6_line 3 (some .int) :: ([.fieldLink RX6 12 "PartitionedCache" "now" "LPartitionedCache$State;", .fieldLink RX6 61 "PartitionedCache$State" "places" "LPartitionedCache$Places;", .fieldLink RX6 147 "PartitionedCache$Places" "held" "[I", .methodLink RX6 75 yX6_requireIndex, .static yX6_requireIndex, .initialized RX6, .code yX6_requireIndex cX6_requireIndex 2 none, .classLink RX6 171 "java/lang/IndexOutOfBoundsException", .initialized "java/lang/IndexOutOfBoundsException"] ++ wsX60 ++ wsX40 ++ wsX30 ++ (vx_atS RX6 175 "java/lang/IndexOutOfBoundsException" ["java/lang/RuntimeException", "java/lang/Exception"]).filter goodWord)
def wsX6_lines_r1 : List Cond := [Cond.fieldLink RX6 12 "PartitionedCache" "now" "LPartitionedCache$State;", Cond.fieldLink RX6 61 "PartitionedCache$State" "places" "LPartitionedCache$Places;", Cond.methodLink RX6 45 yX6_requireTenant, Cond.static yX6_requireTenant, Cond.initialized RX6, Cond.code yX6_requireTenant cX6_requireTenant 1 none, Cond.methodLink RX6 75 yX6_requireIndex, Cond.static yX6_requireIndex, Cond.code yX6_requireIndex cX6_requireIndex 2 none, Cond.classLink RX6 171 "java/lang/IndexOutOfBoundsException", Cond.initialized "java/lang/IndexOutOfBoundsException", Cond.methodLink RX6 150 yX3_linesInOwnWays, Cond.instanceMethod yX3_linesInOwnWays, Cond.selects RX3 yX3_linesInOwnWays yX3_linesInOwnWays, Cond.initialized RX3, Cond.code yX3_linesInOwnWays cX3_linesInOwnWays 4 (some .int), Cond.fieldLink RX3 9 "PartitionedCache$Places" "owners" "[I", Cond.methodLink RX3 39 yX3_linesInWay, Cond.instanceMethod yX3_linesInWay, Cond.selects RX3 yX3_linesInWay yX3_linesInWay, Cond.code yX3_linesInWay cX3_linesInWay 5 (some .int), Cond.methodLink RX3 35 yX3_holdsLineOf, Cond.instanceMethod yX3_holdsLineOf, Cond.selects RX3 yX3_holdsLineOf yX3_holdsLineOf]
def wsX6_lines_r2 : List Cond := [Cond.code yX3_holdsLineOf cX3_holdsLineOf 3 (some .boolean), Cond.fieldLink RX3 15 "PartitionedCache$Places" "held" "[I", Cond.methodLink RX6 153 yX3_linesOf, Cond.instanceMethod yX3_linesOf, Cond.selects RX3 yX3_linesOf yX3_linesOf, Cond.code yX3_linesOf cX3_linesOf 4 (some .int)]
def wsX6_lines : List Cond := .code yX6_lines cX6_lines 4 (some .int) :: ((wsX6_lines_r1 ++ wsX6_lines_r2) ++ wsX60 ++ wsX40 ++ wsX30 ++ (vx_atS RX6 175 "java/lang/IndexOutOfBoundsException" ["java/lang/RuntimeException", "java/lang/Exception"]).filter goodWord)
def wsX6_ifAccessed_r1 : List Cond := [Cond.fieldLink RX6 12 "PartitionedCache" "now" "LPartitionedCache$State;", Cond.fieldLink RX6 61 "PartitionedCache$State" "places" "LPartitionedCache$Places;", Cond.methodLink RX6 45 yX6_requireTenant, Cond.static yX6_requireTenant, Cond.initialized RX6, Cond.code yX6_requireTenant cX6_requireTenant 1 none, Cond.methodLink RX6 75 yX6_requireIndex, Cond.static yX6_requireIndex, Cond.code yX6_requireIndex cX6_requireIndex 2 none, Cond.classLink RX6 171 "java/lang/IndexOutOfBoundsException", Cond.initialized "java/lang/IndexOutOfBoundsException", Cond.methodLink RX6 49 yX6_requireArgument, Cond.static yX6_requireArgument, Cond.code yX6_requireArgument cX6_requireArgument 3 none, Cond.classLink RX6 204 "java/lang/IllegalArgumentException", Cond.initialized "java/lang/IllegalArgumentException", Cond.methodLink RX6 156 yX3_resultOf, Cond.instanceMethod yX3_resultOf, Cond.selects RX3 yX3_resultOf yX3_resultOf, Cond.initialized RX3, Cond.code yX3_resultOf cX3_resultOf 3 (some .int), Cond.methodLink RX3 27 yX3_placeOf, Cond.instanceMethod yX3_placeOf, Cond.selects RX3 yX3_placeOf yX3_placeOf]
def wsX6_ifAccessed_r2 : List Cond := [Cond.code yX3_placeOf cX3_placeOf 5 (some .int), Cond.fieldLink RX3 15 "PartitionedCache$Places" "held" "[I", Cond.methodLink RX3 31 yX3_ownedWays, Cond.instanceMethod yX3_ownedWays, Cond.selects RX3 yX3_ownedWays yX3_ownedWays, Cond.code yX3_ownedWays cX3_ownedWays 4 (some .int), Cond.fieldLink RX3 9 "PartitionedCache$Places" "owners" "[I"]
def wsX6_ifAccessed : List Cond := .code yX6_ifAccessed cX6_ifAccessed 3 (some .int) :: ((wsX6_ifAccessed_r1 ++ wsX6_ifAccessed_r2) ++ wsX60 ++ wsX40 ++ wsX30 ++ (vx_atS RX6 175 "java/lang/IndexOutOfBoundsException" ["java/lang/RuntimeException", "java/lang/Exception"]).filter goodWord ++ (vx_atS RX6 208 "java/lang/IllegalArgumentException" ["java/lang/RuntimeException", "java/lang/Exception"]).filter goodWord)
def wsX6_victim_r1 : List Cond := [Cond.fieldLink RX6 12 "PartitionedCache" "now" "LPartitionedCache$State;", Cond.fieldLink RX6 61 "PartitionedCache$State" "places" "LPartitionedCache$Places;", Cond.fieldLink RX6 147 "PartitionedCache$Places" "held" "[I", Cond.methodLink RX6 45 yX6_requireTenant, Cond.static yX6_requireTenant, Cond.initialized RX6, Cond.code yX6_requireTenant cX6_requireTenant 1 none, Cond.methodLink RX6 75 yX6_requireIndex, Cond.static yX6_requireIndex, Cond.code yX6_requireIndex cX6_requireIndex 2 none, Cond.classLink RX6 171 "java/lang/IndexOutOfBoundsException", Cond.initialized "java/lang/IndexOutOfBoundsException", Cond.methodLink RX6 49 yX6_requireArgument, Cond.static yX6_requireArgument, Cond.code yX6_requireArgument cX6_requireArgument 3 none, Cond.classLink RX6 204 "java/lang/IllegalArgumentException", Cond.initialized "java/lang/IllegalArgumentException", Cond.methodLink RX6 156 yX3_resultOf, Cond.instanceMethod yX3_resultOf, Cond.selects RX3 yX3_resultOf yX3_resultOf, Cond.initialized RX3, Cond.code yX3_resultOf cX3_resultOf 3 (some .int), Cond.methodLink RX3 27 yX3_placeOf, Cond.instanceMethod yX3_placeOf]
def wsX6_victim_r2 : List Cond := [Cond.selects RX3 yX3_placeOf yX3_placeOf, Cond.code yX3_placeOf cX3_placeOf 5 (some .int), Cond.fieldLink RX3 15 "PartitionedCache$Places" "held" "[I", Cond.methodLink RX3 31 yX3_ownedWays, Cond.instanceMethod yX3_ownedWays, Cond.selects RX3 yX3_ownedWays yX3_ownedWays, Cond.code yX3_ownedWays cX3_ownedWays 4 (some .int), Cond.fieldLink RX3 9 "PartitionedCache$Places" "owners" "[I", Cond.methodLink RX6 159 yX3_placeToFill, Cond.instanceMethod yX3_placeToFill, Cond.selects RX3 yX3_placeToFill yX3_placeToFill, Cond.code yX3_placeToFill cX3_placeToFill 7 (some .int), Cond.fieldLink RX3 18 "PartitionedCache$Places" "stamps" "[I"]
def wsX6_victim : List Cond := .code yX6_victim cX6_victim 4 (some .int) :: ((wsX6_victim_r1 ++ wsX6_victim_r2) ++ wsX60 ++ wsX40 ++ wsX30 ++ (vx_atS RX6 175 "java/lang/IndexOutOfBoundsException" ["java/lang/RuntimeException", "java/lang/Exception"]).filter goodWord ++ (vx_atS RX6 208 "java/lang/IllegalArgumentException" ["java/lang/RuntimeException", "java/lang/Exception"]).filter goodWord)
def wsX6_gain : List Cond := .code yX6_gain cX6_gain 3 (some .int) :: ([.fieldLink RX6 12 "PartitionedCache" "now" "LPartitionedCache$State;", .fieldLink RX6 90 "PartitionedCache$State" "monitors" "LPartitionedCache$Monitors;", .fieldLink RX6 162 "PartitionedCache$Monitors" "gains" "[I", .methodLink RX6 45 yX6_requireTenant, .static yX6_requireTenant, .initialized RX6, .code yX6_requireTenant cX6_requireTenant 1 none, .methodLink RX6 75 yX6_requireIndex, .static yX6_requireIndex, .code yX6_requireIndex cX6_requireIndex 2 none, .classLink RX6 171 "java/lang/IndexOutOfBoundsException", .initialized "java/lang/IndexOutOfBoundsException"] ++ wsX60 ++ wsX40 ++ wsX20 ++ (vx_atS RX6 175 "java/lang/IndexOutOfBoundsException" ["java/lang/RuntimeException", "java/lang/Exception"]).filter goodWord)
def wsX6_utility : List Cond := .code yX6_utility cX6_utility 3 (some .int) :: ([.fieldLink RX6 12 "PartitionedCache" "now" "LPartitionedCache$State;", .fieldLink RX6 90 "PartitionedCache$State" "monitors" "LPartitionedCache$Monitors;", .methodLink RX6 45 yX6_requireTenant, .static yX6_requireTenant, .initialized RX6, .code yX6_requireTenant cX6_requireTenant 1 none, .methodLink RX6 75 yX6_requireIndex, .static yX6_requireIndex, .code yX6_requireIndex cX6_requireIndex 2 none, .classLink RX6 171 "java/lang/IndexOutOfBoundsException", .initialized "java/lang/IndexOutOfBoundsException", .methodLink RX6 49 yX6_requireArgument, .static yX6_requireArgument, .code yX6_requireArgument cX6_requireArgument 3 none, .classLink RX6 204 "java/lang/IllegalArgumentException", .initialized "java/lang/IllegalArgumentException", .methodLink RX6 165 yX2_utilityOf, .instanceMethod yX2_utilityOf, .selects RX2 yX2_utilityOf yX2_utilityOf, .initialized RX2, .code yX2_utilityOf cX2_utilityOf 5 (some .int), .fieldLink RX2 15 "PartitionedCache$Monitors" "gains" "[I"] ++ wsX60 ++ wsX40 ++ wsX20 ++ (vx_atS RX6 175 "java/lang/IndexOutOfBoundsException" ["java/lang/RuntimeException", "java/lang/Exception"]).filter goodWord ++ (vx_atS RX6 208 "java/lang/IllegalArgumentException" ["java/lang/RuntimeException", "java/lang/Exception"]).filter goodWord)
def wsX6_monitored : List Cond := .code yX6_monitored cX6_monitored 4 (some .int) :: ([.classLink RX6 171 "java/lang/IndexOutOfBoundsException", .initialized "java/lang/IndexOutOfBoundsException", .fieldLink RX6 12 "PartitionedCache" "now" "LPartitionedCache$State;", .fieldLink RX6 90 "PartitionedCache$State" "monitors" "LPartitionedCache$Monitors;", .fieldLink RX6 176 "PartitionedCache$Monitors" "addresses" "[I", .methodLink RX6 45 yX6_requireTenant, .static yX6_requireTenant, .initialized RX6, .code yX6_requireTenant cX6_requireTenant 1 none, .methodLink RX6 75 yX6_requireIndex, .static yX6_requireIndex, .code yX6_requireIndex cX6_requireIndex 2 none, .methodLink RX6 168 yX6_isSampled, .static yX6_isSampled, .code yX6_isSampled cX6_isSampled 1 (some .boolean), .methodLink RX6 179 yX6_listStart, .static yX6_listStart, .code yX6_listStart cX6_listStart 2 (some .int)] ++ wsX60 ++ wsX40 ++ wsX20 ++ (vx_atS RX6 175 "java/lang/IndexOutOfBoundsException" ["java/lang/RuntimeException", "java/lang/Exception"]).filter goodWord)
def wsX6_target_r1 : List Cond := [Cond.fieldLink RX6 19 "PartitionedCache" "targets" "LPartitionedCache$Targets;", Cond.fieldLink RX6 12 "PartitionedCache" "now" "LPartitionedCache$State;", Cond.fieldLink RX6 185 "PartitionedCache$Targets" "ways" "[I", Cond.methodLink RX6 45 yX6_requireTenant, Cond.static yX6_requireTenant, Cond.initialized RX6, Cond.code yX6_requireTenant cX6_requireTenant 1 none, Cond.methodLink RX6 75 yX6_requireIndex, Cond.static yX6_requireIndex, Cond.code yX6_requireIndex cX6_requireIndex 2 none, Cond.classLink RX6 171 "java/lang/IndexOutOfBoundsException", Cond.initialized "java/lang/IndexOutOfBoundsException", Cond.methodLink RX6 182 yX5_compute, Cond.instanceMethod yX5_compute, Cond.selects RX5 yX5_compute yX5_compute, Cond.initialized RX5, Cond.code yX5_compute cX5_compute 4 none, Cond.fieldLink RX5 9 "PartitionedCache$Targets" "ways" "[I", Cond.fieldLink RX5 15 "PartitionedCache$State" "leasts" "[I", Cond.fieldLink RX5 20 "PartitionedCache$State" "monitors" "LPartitionedCache$Monitors;", Cond.methodLink RX5 24 yX5_growOne, Cond.instanceMethod yX5_growOne, Cond.selects RX5 yX5_growOne yX5_growOne, Cond.code yX5_growOne cX5_growOne 9 (some .int)]
def wsX6_target_r2 : List Cond := [Cond.fieldLink RX5 28 "PartitionedCache$Monitors" "gains" "[I", Cond.methodLink RX5 33 yX5_lowest, Cond.instanceMethod yX5_lowest, Cond.selects RX5 yX5_lowest yX5_lowest, Cond.code yX5_lowest cX5_lowest 3 (some .int)]
def wsX6_target : List Cond := .code yX6_target cX6_target 2 (some .int) :: ((wsX6_target_r1 ++ wsX6_target_r2) ++ wsX60 ++ wsX50 ++ wsX40 ++ wsX20 ++ (vx_atS RX6 175 "java/lang/IndexOutOfBoundsException" ["java/lang/RuntimeException", "java/lang/Exception"]).filter goodWord)
def wsX6_movesLeft_r1 : List Cond := [Cond.fieldLink RX6 19 "PartitionedCache" "targets" "LPartitionedCache$Targets;", Cond.fieldLink RX6 12 "PartitionedCache" "now" "LPartitionedCache$State;", Cond.methodLink RX6 191 Lib.Math.max.name, Cond.static Lib.Math.max.name, Cond.initialized "java/lang/Math", Cond.code Lib.Math.max.name Lib.Math.max.code 2 (some .int), Cond.methodLink RX6 182 yX5_compute, Cond.instanceMethod yX5_compute, Cond.selects RX5 yX5_compute yX5_compute, Cond.initialized RX5, Cond.code yX5_compute cX5_compute 4 none, Cond.fieldLink RX5 9 "PartitionedCache$Targets" "ways" "[I", Cond.fieldLink RX5 15 "PartitionedCache$State" "leasts" "[I", Cond.fieldLink RX5 20 "PartitionedCache$State" "monitors" "LPartitionedCache$Monitors;", Cond.methodLink RX5 24 yX5_growOne, Cond.instanceMethod yX5_growOne, Cond.selects RX5 yX5_growOne yX5_growOne, Cond.code yX5_growOne cX5_growOne 9 (some .int), Cond.fieldLink RX5 28 "PartitionedCache$Monitors" "gains" "[I", Cond.methodLink RX5 33 yX5_lowest, Cond.instanceMethod yX5_lowest, Cond.selects RX5 yX5_lowest yX5_lowest, Cond.code yX5_lowest cX5_lowest 3 (some .int), Cond.methodLink RX6 188 yX6_deficitOf]
def wsX6_movesLeft_r2 : List Cond := [Cond.instanceMethod yX6_deficitOf, Cond.selects RX6 yX6_deficitOf yX6_deficitOf, Cond.initialized RX6, Cond.code yX6_deficitOf cX6_deficitOf 2 (some .int), Cond.fieldLink RX6 185 "PartitionedCache$Targets" "ways" "[I", Cond.fieldLink RX6 61 "PartitionedCache$State" "places" "LPartitionedCache$Places;", Cond.methodLink RX6 144 yX3_ownedWays, Cond.instanceMethod yX3_ownedWays, Cond.selects RX3 yX3_ownedWays yX3_ownedWays, Cond.initialized RX3, Cond.code yX3_ownedWays cX3_ownedWays 4 (some .int), Cond.fieldLink RX3 9 "PartitionedCache$Places" "owners" "[I"]
def wsX6_movesLeft : List Cond := .code yX6_movesLeft cX6_movesLeft 3 (some .int) :: ((wsX6_movesLeft_r1 ++ wsX6_movesLeft_r2) ++ wsX60 ++ wsX50 ++ wsX40 ++ wsX20 ++ wsX30)
def wsX6_totalUtility : List Cond := .code yX6_totalUtility cX6_totalUtility 3 (some .int) :: ([.fieldLink RX6 12 "PartitionedCache" "now" "LPartitionedCache$State;", .fieldLink RX6 90 "PartitionedCache$State" "monitors" "LPartitionedCache$Monitors;", .fieldLink RX6 61 "PartitionedCache$State" "places" "LPartitionedCache$Places;", .methodLink RX6 144 yX3_ownedWays, .instanceMethod yX3_ownedWays, .selects RX3 yX3_ownedWays yX3_ownedWays, .initialized RX3, .code yX3_ownedWays cX3_ownedWays 4 (some .int), .fieldLink RX3 9 "PartitionedCache$Places" "owners" "[I", .methodLink RX6 165 yX2_utilityOf, .instanceMethod yX2_utilityOf, .selects RX2 yX2_utilityOf yX2_utilityOf, .initialized RX2, .code yX2_utilityOf cX2_utilityOf 5 (some .int), .fieldLink RX2 15 "PartitionedCache$Monitors" "gains" "[I"] ++ wsX60 ++ wsX40 ++ wsX30 ++ wsX20)
def wsX6_count : List Cond := .code yX6_count cX6_count 3 (some .int) :: ([.fieldLink RX6 12 "PartitionedCache" "now" "LPartitionedCache$State;", .fieldLink RX6 196 "PartitionedCache$State" "counts" "[I", .methodLink RX6 45 yX6_requireTenant, .static yX6_requireTenant, .initialized RX6, .code yX6_requireTenant cX6_requireTenant 1 none, .methodLink RX6 75 yX6_requireIndex, .static yX6_requireIndex, .code yX6_requireIndex cX6_requireIndex 2 none, .classLink RX6 171 "java/lang/IndexOutOfBoundsException", .initialized "java/lang/IndexOutOfBoundsException", .methodLink RX6 49 yX6_requireArgument, .static yX6_requireArgument, .code yX6_requireArgument cX6_requireArgument 3 none, .classLink RX6 204 "java/lang/IllegalArgumentException", .initialized "java/lang/IllegalArgumentException"] ++ wsX60 ++ wsX40 ++ (vx_atS RX6 175 "java/lang/IndexOutOfBoundsException" ["java/lang/RuntimeException", "java/lang/Exception"]).filter goodWord ++ (vx_atS RX6 208 "java/lang/IllegalArgumentException" ["java/lang/RuntimeException", "java/lang/Exception"]).filter goodWord)
def wsX6_accesses : List Cond := .code yX6_accesses cX6_accesses 1 (some .int) :: ([.fieldLink RX6 12 "PartitionedCache" "now" "LPartitionedCache$State;", .fieldLink RX6 199 "PartitionedCache$State" "accesses" "I"] ++ wsX60 ++ wsX40)
def wsX6_hitRate : List Cond := .code yX6_hitRate cX6_hitRate 5 (some .double) :: ([.fieldLink RX6 12 "PartitionedCache" "now" "LPartitionedCache$State;", .fieldLink RX6 196 "PartitionedCache$State" "counts" "[I", .methodLink RX6 45 yX6_requireTenant, .static yX6_requireTenant, .initialized RX6, .code yX6_requireTenant cX6_requireTenant 1 none, .methodLink RX6 75 yX6_requireIndex, .static yX6_requireIndex, .code yX6_requireIndex cX6_requireIndex 2 none, .classLink RX6 171 "java/lang/IndexOutOfBoundsException", .initialized "java/lang/IndexOutOfBoundsException"] ++ wsX60 ++ wsX40 ++ (vx_atS RX6 175 "java/lang/IndexOutOfBoundsException" ["java/lang/RuntimeException", "java/lang/Exception"]).filter goodWord)
def wsX6_savedStates : List Cond := .code yX6_savedStates cX6_savedStates 1 (some .int) :: ([.fieldLink RX6 26 "PartitionedCache" "history" "LPartitionedCache$History;", .fieldLink RX6 128 "PartitionedCache$History" "size" "I"] ++ wsX60 ++ wsX10)
def wsX6_textLength : List Cond := .code yX6_textLength cX6_textLength 1 (some .int) :: ([.fieldLink RX6 33 "PartitionedCache" "text" "LPartitionedCache$CommandText;", .fieldLink RX6 102 "PartitionedCache$CommandText" "length" "I"] ++ wsX60 ++ wsX00)
def wsX7_init : List Cond := .code yX7_init cX7_init 2 none :: ([.methodLink RX7 1 objectInit, .instanceMethod objectInit, .code objectInit ⟨#[0xb1]⟩ 1 none, .arrayClass .int, .fieldLink RX7 7 "PartitionedCacheModel" "row" "[I", .fieldLink RX7 13 "PartitionedCacheModel" "past" "[I", .fieldLink RX7 16 "PartitionedCacheModel" "slots" "[I", .arrayClass .boolean, .fieldLink RX7 19 "PartitionedCacheModel" "has" "[Z", .fieldLink RX7 23 "PartitionedCacheModel" "targets" "[I", .fieldLink RX7 26 "PartitionedCacheModel" "buffer" "[I"] ++ wsX70)
def wsX7_thrown : List Cond := .code yX7_thrown cX7_thrown 1 (some .int) :: ([.fieldLink RX7 29 "PartitionedCacheModel" "thrown" "I"] ++ wsX70)
def wsX7_fails : List Cond := .code yX7_fails cX7_fails 2 (some .int) :: ([.fieldLink RX7 29 "PartitionedCacheModel" "thrown" "I"] ++ wsX70)
def wsX7_in : List Cond := .code yX7_in cX7_in 3 (some .boolean) :: ([])
def wsX7_record : List Cond := .code yX7_record cX7_record 2 none :: ([.fieldLink RX7 33 "PartitionedCacheModel" "states" "I", .fieldLink RX7 13 "PartitionedCacheModel" "past" "[I", .fieldLink RX7 7 "PartitionedCacheModel" "row" "[I"] ++ wsX70)
def wsX7_owned : List Cond := .code yX7_owned cX7_owned 4 (some .int) :: ([.fieldLink RX7 7 "PartitionedCacheModel" "row" "[I"] ++ wsX70)
def wsX7_linesOf : List Cond := .code yX7_linesOf cX7_linesOf 6 (some .int) :: ([.fieldLink RX7 7 "PartitionedCacheModel" "row" "[I"] ++ wsX70)
def wsX7_allLines : List Cond := .code yX7_allLines cX7_allLines 1 (some .int) :: ([.methodLink RX7 36 yX7_linesOf, .instanceMethod yX7_linesOf, .selects RX7 yX7_linesOf yX7_linesOf, .initialized RX7, .code yX7_linesOf cX7_linesOf 6 (some .int), .fieldLink RX7 7 "PartitionedCacheModel" "row" "[I"] ++ wsX70)
def wsX7_find : List Cond := .code yX7_find cX7_find 5 (some .int) :: ([.fieldLink RX7 7 "PartitionedCacheModel" "row" "[I"] ++ wsX70)
def wsX7_placeFor : List Cond := .code yX7_placeFor cX7_placeFor 7 (some .int) :: ([.fieldLink RX7 7 "PartitionedCacheModel" "row" "[I"] ++ wsX70)
def wsX7_wouldBe : List Cond := .code yX7_wouldBe cX7_wouldBe 3 (some .int) :: ([.methodLink RX7 40 yX7_find, .instanceMethod yX7_find, .selects RX7 yX7_find yX7_find, .initialized RX7, .code yX7_find cX7_find 5 (some .int), .fieldLink RX7 7 "PartitionedCacheModel" "row" "[I", .methodLink RX7 44 yX7_owned, .instanceMethod yX7_owned, .selects RX7 yX7_owned yX7_owned, .code yX7_owned cX7_owned 4 (some .int)] ++ wsX70)
def wsX7_watch : List Cond := .code yX7_watch cX7_watch 8 none :: ([.fieldLink RX7 7 "PartitionedCacheModel" "row" "[I"] ++ wsX70)
def wsX7_halve : List Cond := .code yX7_halve cX7_halve 3 (some .int) :: ([.fieldLink RX7 7 "PartitionedCacheModel" "row" "[I"] ++ wsX70)
def wsX7_gained : List Cond := .code yX7_gained cX7_gained 5 (some .int) :: ([.fieldLink RX7 7 "PartitionedCacheModel" "row" "[I"] ++ wsX70)
def wsX7_lowestTarget : List Cond := .code yX7_lowestTarget cX7_lowestTarget 3 (some .int) :: ([.fieldLink RX7 23 "PartitionedCacheModel" "targets" "[I"] ++ wsX70)
def wsX7_giveSome : List Cond := .code yX7_giveSome cX7_giveSome 9 (some .int) :: ([.fieldLink RX7 23 "PartitionedCacheModel" "targets" "[I", .methodLink RX7 48 yX7_gained, .instanceMethod yX7_gained, .selects RX7 yX7_gained yX7_gained, .initialized RX7, .code yX7_gained cX7_gained 5 (some .int), .fieldLink RX7 7 "PartitionedCacheModel" "row" "[I", .methodLink RX7 51 yX7_lowestTarget, .instanceMethod yX7_lowestTarget, .selects RX7 yX7_lowestTarget yX7_lowestTarget, .code yX7_lowestTarget cX7_lowestTarget 3 (some .int)] ++ wsX70)
def wsX7_findTargets : List Cond := .code yX7_findTargets cX7_findTargets 3 none :: ([.fieldLink RX7 23 "PartitionedCacheModel" "targets" "[I", .fieldLink RX7 7 "PartitionedCacheModel" "row" "[I", .methodLink RX7 55 yX7_giveSome, .instanceMethod yX7_giveSome, .selects RX7 yX7_giveSome yX7_giveSome, .initialized RX7, .code yX7_giveSome cX7_giveSome 9 (some .int), .methodLink RX7 48 yX7_gained, .instanceMethod yX7_gained, .selects RX7 yX7_gained yX7_gained, .code yX7_gained cX7_gained 5 (some .int), .methodLink RX7 51 yX7_lowestTarget, .instanceMethod yX7_lowestTarget, .selects RX7 yX7_lowestTarget yX7_lowestTarget, .code yX7_lowestTarget cX7_lowestTarget 3 (some .int)] ++ wsX70)
def wsX7_deficit : List Cond := .code yX7_deficit cX7_deficit 2 (some .int) :: ([.fieldLink RX7 23 "PartitionedCacheModel" "targets" "[I", .methodLink RX7 44 yX7_owned, .instanceMethod yX7_owned, .selects RX7 yX7_owned yX7_owned, .initialized RX7, .code yX7_owned cX7_owned 4 (some .int), .fieldLink RX7 7 "PartitionedCacheModel" "row" "[I"] ++ wsX70)
def wsX7_linesIn : List Cond := .code yX7_linesIn cX7_linesIn 6 (some .int) :: ([.fieldLink RX7 7 "PartitionedCacheModel" "row" "[I"] ++ wsX70)
def wsX7_move_r1 : List Cond := [Cond.fieldLink RX7 7 "PartitionedCacheModel" "row" "[I", Cond.methodLink RX7 58 yX7_findTargets, Cond.instanceMethod yX7_findTargets, Cond.selects RX7 yX7_findTargets yX7_findTargets, Cond.initialized RX7, Cond.code yX7_findTargets cX7_findTargets 3 none, Cond.fieldLink RX7 23 "PartitionedCacheModel" "targets" "[I", Cond.methodLink RX7 55 yX7_giveSome, Cond.instanceMethod yX7_giveSome, Cond.selects RX7 yX7_giveSome yX7_giveSome, Cond.code yX7_giveSome cX7_giveSome 9 (some .int), Cond.methodLink RX7 48 yX7_gained, Cond.instanceMethod yX7_gained, Cond.selects RX7 yX7_gained yX7_gained, Cond.code yX7_gained cX7_gained 5 (some .int), Cond.methodLink RX7 51 yX7_lowestTarget, Cond.instanceMethod yX7_lowestTarget, Cond.selects RX7 yX7_lowestTarget yX7_lowestTarget, Cond.code yX7_lowestTarget cX7_lowestTarget 3 (some .int), Cond.methodLink RX7 61 yX7_deficit, Cond.instanceMethod yX7_deficit, Cond.selects RX7 yX7_deficit yX7_deficit, Cond.code yX7_deficit cX7_deficit 2 (some .int), Cond.methodLink RX7 44 yX7_owned]
def wsX7_move_r2 : List Cond := [Cond.instanceMethod yX7_owned, Cond.selects RX7 yX7_owned yX7_owned, Cond.code yX7_owned cX7_owned 4 (some .int), Cond.methodLink RX7 64 yX7_linesIn, Cond.instanceMethod yX7_linesIn, Cond.selects RX7 yX7_linesIn yX7_linesIn, Cond.code yX7_linesIn cX7_linesIn 6 (some .int)]
def wsX7_move : List Cond := .code yX7_move cX7_move 6 (some .int) :: ((wsX7_move_r1 ++ wsX7_move_r2) ++ wsX70)
def wsX7_put : List Cond := .code yX7_put cX7_put 4 none :: ([.fieldLink RX7 7 "PartitionedCacheModel" "row" "[I", .methodLink RX7 67 yX7_placeFor, .instanceMethod yX7_placeFor, .selects RX7 yX7_placeFor yX7_placeFor, .initialized RX7, .code yX7_placeFor cX7_placeFor 7 (some .int)] ++ wsX70)
def wsX7_visits_r1 : List Cond := [Cond.fieldLink RX7 7 "PartitionedCacheModel" "row" "[I", Cond.methodLink RX7 70 yX7_watch, Cond.instanceMethod yX7_watch, Cond.selects RX7 yX7_watch yX7_watch, Cond.initialized RX7, Cond.code yX7_watch cX7_watch 8 none, Cond.methodLink RX7 74 yX7_wouldBe, Cond.instanceMethod yX7_wouldBe, Cond.selects RX7 yX7_wouldBe yX7_wouldBe, Cond.code yX7_wouldBe cX7_wouldBe 3 (some .int), Cond.methodLink RX7 40 yX7_find, Cond.instanceMethod yX7_find, Cond.selects RX7 yX7_find yX7_find, Cond.code yX7_find cX7_find 5 (some .int), Cond.methodLink RX7 44 yX7_owned, Cond.instanceMethod yX7_owned, Cond.selects RX7 yX7_owned yX7_owned, Cond.code yX7_owned cX7_owned 4 (some .int), Cond.methodLink RX7 77 yX7_put, Cond.instanceMethod yX7_put, Cond.selects RX7 yX7_put yX7_put, Cond.code yX7_put cX7_put 4 none, Cond.methodLink RX7 67 yX7_placeFor, Cond.instanceMethod yX7_placeFor]
def wsX7_visits_r2 : List Cond := [Cond.selects RX7 yX7_placeFor yX7_placeFor, Cond.code yX7_placeFor cX7_placeFor 7 (some .int), Cond.methodLink RX7 80 yX7_move, Cond.instanceMethod yX7_move, Cond.selects RX7 yX7_move yX7_move, Cond.code yX7_move cX7_move 6 (some .int), Cond.methodLink RX7 58 yX7_findTargets, Cond.instanceMethod yX7_findTargets, Cond.selects RX7 yX7_findTargets yX7_findTargets, Cond.code yX7_findTargets cX7_findTargets 3 none, Cond.fieldLink RX7 23 "PartitionedCacheModel" "targets" "[I", Cond.methodLink RX7 55 yX7_giveSome, Cond.instanceMethod yX7_giveSome, Cond.selects RX7 yX7_giveSome yX7_giveSome, Cond.code yX7_giveSome cX7_giveSome 9 (some .int), Cond.methodLink RX7 48 yX7_gained, Cond.instanceMethod yX7_gained, Cond.selects RX7 yX7_gained yX7_gained, Cond.code yX7_gained cX7_gained 5 (some .int), Cond.methodLink RX7 51 yX7_lowestTarget, Cond.instanceMethod yX7_lowestTarget, Cond.selects RX7 yX7_lowestTarget yX7_lowestTarget, Cond.code yX7_lowestTarget cX7_lowestTarget 3 (some .int), Cond.methodLink RX7 61 yX7_deficit]
def wsX7_visits_r3 : List Cond := [Cond.instanceMethod yX7_deficit, Cond.selects RX7 yX7_deficit yX7_deficit, Cond.code yX7_deficit cX7_deficit 2 (some .int), Cond.methodLink RX7 64 yX7_linesIn, Cond.instanceMethod yX7_linesIn, Cond.selects RX7 yX7_linesIn yX7_linesIn, Cond.code yX7_linesIn cX7_linesIn 6 (some .int), Cond.methodLink RX7 83 yX7_halve, Cond.instanceMethod yX7_halve, Cond.selects RX7 yX7_halve yX7_halve, Cond.code yX7_halve cX7_halve 3 (some .int)]
def wsX7_visits : List Cond := .code yX7_visits cX7_visits 5 (some .int) :: ((wsX7_visits_r1 ++ (wsX7_visits_r2 ++ wsX7_visits_r3)) ++ wsX70)
def wsX7_flushes : List Cond := .code yX7_flushes cX7_flushes 4 (some .int) :: ([.fieldLink RX7 7 "PartitionedCacheModel" "row" "[I"] ++ wsX70)
def wsX7_access_r1 : List Cond := [Cond.fieldLink RX7 29 "PartitionedCacheModel" "thrown" "I", Cond.methodLink RX7 86 yX7_in, Cond.static yX7_in, Cond.initialized RX7, Cond.code yX7_in cX7_in 3 (some .boolean), Cond.methodLink RX7 90 yX7_fails, Cond.instanceMethod yX7_fails, Cond.selects RX7 yX7_fails yX7_fails, Cond.code yX7_fails cX7_fails 2 (some .int), Cond.methodLink RX7 93 yX7_record, Cond.instanceMethod yX7_record, Cond.selects RX7 yX7_record yX7_record, Cond.code yX7_record cX7_record 2 none, Cond.fieldLink RX7 33 "PartitionedCacheModel" "states" "I", Cond.fieldLink RX7 13 "PartitionedCacheModel" "past" "[I", Cond.fieldLink RX7 7 "PartitionedCacheModel" "row" "[I", Cond.methodLink RX7 96 yX7_visits, Cond.instanceMethod yX7_visits, Cond.selects RX7 yX7_visits yX7_visits, Cond.code yX7_visits cX7_visits 5 (some .int), Cond.methodLink RX7 70 yX7_watch, Cond.instanceMethod yX7_watch, Cond.selects RX7 yX7_watch yX7_watch, Cond.code yX7_watch cX7_watch 8 none]
def wsX7_access_r2 : List Cond := [Cond.methodLink RX7 74 yX7_wouldBe, Cond.instanceMethod yX7_wouldBe, Cond.selects RX7 yX7_wouldBe yX7_wouldBe, Cond.code yX7_wouldBe cX7_wouldBe 3 (some .int), Cond.methodLink RX7 40 yX7_find, Cond.instanceMethod yX7_find, Cond.selects RX7 yX7_find yX7_find, Cond.code yX7_find cX7_find 5 (some .int), Cond.methodLink RX7 44 yX7_owned, Cond.instanceMethod yX7_owned, Cond.selects RX7 yX7_owned yX7_owned, Cond.code yX7_owned cX7_owned 4 (some .int), Cond.methodLink RX7 77 yX7_put, Cond.instanceMethod yX7_put, Cond.selects RX7 yX7_put yX7_put, Cond.code yX7_put cX7_put 4 none, Cond.methodLink RX7 67 yX7_placeFor, Cond.instanceMethod yX7_placeFor, Cond.selects RX7 yX7_placeFor yX7_placeFor, Cond.code yX7_placeFor cX7_placeFor 7 (some .int), Cond.methodLink RX7 80 yX7_move, Cond.instanceMethod yX7_move, Cond.selects RX7 yX7_move yX7_move, Cond.code yX7_move cX7_move 6 (some .int)]
def wsX7_access_r3 : List Cond := [Cond.methodLink RX7 58 yX7_findTargets, Cond.instanceMethod yX7_findTargets, Cond.selects RX7 yX7_findTargets yX7_findTargets, Cond.code yX7_findTargets cX7_findTargets 3 none, Cond.fieldLink RX7 23 "PartitionedCacheModel" "targets" "[I", Cond.methodLink RX7 55 yX7_giveSome, Cond.instanceMethod yX7_giveSome, Cond.selects RX7 yX7_giveSome yX7_giveSome, Cond.code yX7_giveSome cX7_giveSome 9 (some .int), Cond.methodLink RX7 48 yX7_gained, Cond.instanceMethod yX7_gained, Cond.selects RX7 yX7_gained yX7_gained, Cond.code yX7_gained cX7_gained 5 (some .int), Cond.methodLink RX7 51 yX7_lowestTarget, Cond.instanceMethod yX7_lowestTarget, Cond.selects RX7 yX7_lowestTarget yX7_lowestTarget, Cond.code yX7_lowestTarget cX7_lowestTarget 3 (some .int), Cond.methodLink RX7 61 yX7_deficit, Cond.instanceMethod yX7_deficit, Cond.selects RX7 yX7_deficit yX7_deficit, Cond.code yX7_deficit cX7_deficit 2 (some .int), Cond.methodLink RX7 64 yX7_linesIn, Cond.instanceMethod yX7_linesIn, Cond.selects RX7 yX7_linesIn yX7_linesIn]
def wsX7_access_r4 : List Cond := [Cond.code yX7_linesIn cX7_linesIn 6 (some .int), Cond.methodLink RX7 83 yX7_halve, Cond.instanceMethod yX7_halve, Cond.selects RX7 yX7_halve yX7_halve, Cond.code yX7_halve cX7_halve 3 (some .int)]
def wsX7_access : List Cond := .code yX7_access cX7_access 3 (some .int) :: ((wsX7_access_r1 ++ (wsX7_access_r2 ++ (wsX7_access_r3 ++ wsX7_access_r4))) ++ wsX70)
def wsX7_stream_r1 : List Cond := [Cond.fieldLink RX7 29 "PartitionedCacheModel" "thrown" "I", Cond.methodLink RX7 86 yX7_in, Cond.static yX7_in, Cond.initialized RX7, Cond.code yX7_in cX7_in 3 (some .boolean), Cond.methodLink RX7 90 yX7_fails, Cond.instanceMethod yX7_fails, Cond.selects RX7 yX7_fails yX7_fails, Cond.code yX7_fails cX7_fails 2 (some .int), Cond.methodLink RX7 93 yX7_record, Cond.instanceMethod yX7_record, Cond.selects RX7 yX7_record yX7_record, Cond.code yX7_record cX7_record 2 none, Cond.fieldLink RX7 33 "PartitionedCacheModel" "states" "I", Cond.fieldLink RX7 13 "PartitionedCacheModel" "past" "[I", Cond.fieldLink RX7 7 "PartitionedCacheModel" "row" "[I", Cond.methodLink RX7 96 yX7_visits, Cond.instanceMethod yX7_visits, Cond.selects RX7 yX7_visits yX7_visits, Cond.code yX7_visits cX7_visits 5 (some .int), Cond.methodLink RX7 70 yX7_watch, Cond.instanceMethod yX7_watch, Cond.selects RX7 yX7_watch yX7_watch, Cond.code yX7_watch cX7_watch 8 none]
def wsX7_stream_r2 : List Cond := [Cond.methodLink RX7 74 yX7_wouldBe, Cond.instanceMethod yX7_wouldBe, Cond.selects RX7 yX7_wouldBe yX7_wouldBe, Cond.code yX7_wouldBe cX7_wouldBe 3 (some .int), Cond.methodLink RX7 40 yX7_find, Cond.instanceMethod yX7_find, Cond.selects RX7 yX7_find yX7_find, Cond.code yX7_find cX7_find 5 (some .int), Cond.methodLink RX7 44 yX7_owned, Cond.instanceMethod yX7_owned, Cond.selects RX7 yX7_owned yX7_owned, Cond.code yX7_owned cX7_owned 4 (some .int), Cond.methodLink RX7 77 yX7_put, Cond.instanceMethod yX7_put, Cond.selects RX7 yX7_put yX7_put, Cond.code yX7_put cX7_put 4 none, Cond.methodLink RX7 67 yX7_placeFor, Cond.instanceMethod yX7_placeFor, Cond.selects RX7 yX7_placeFor yX7_placeFor, Cond.code yX7_placeFor cX7_placeFor 7 (some .int), Cond.methodLink RX7 80 yX7_move, Cond.instanceMethod yX7_move, Cond.selects RX7 yX7_move yX7_move, Cond.code yX7_move cX7_move 6 (some .int)]
def wsX7_stream_r3 : List Cond := [Cond.methodLink RX7 58 yX7_findTargets, Cond.instanceMethod yX7_findTargets, Cond.selects RX7 yX7_findTargets yX7_findTargets, Cond.code yX7_findTargets cX7_findTargets 3 none, Cond.fieldLink RX7 23 "PartitionedCacheModel" "targets" "[I", Cond.methodLink RX7 55 yX7_giveSome, Cond.instanceMethod yX7_giveSome, Cond.selects RX7 yX7_giveSome yX7_giveSome, Cond.code yX7_giveSome cX7_giveSome 9 (some .int), Cond.methodLink RX7 48 yX7_gained, Cond.instanceMethod yX7_gained, Cond.selects RX7 yX7_gained yX7_gained, Cond.code yX7_gained cX7_gained 5 (some .int), Cond.methodLink RX7 51 yX7_lowestTarget, Cond.instanceMethod yX7_lowestTarget, Cond.selects RX7 yX7_lowestTarget yX7_lowestTarget, Cond.code yX7_lowestTarget cX7_lowestTarget 3 (some .int), Cond.methodLink RX7 61 yX7_deficit, Cond.instanceMethod yX7_deficit, Cond.selects RX7 yX7_deficit yX7_deficit, Cond.code yX7_deficit cX7_deficit 2 (some .int), Cond.methodLink RX7 64 yX7_linesIn, Cond.instanceMethod yX7_linesIn, Cond.selects RX7 yX7_linesIn yX7_linesIn]
def wsX7_stream_r4 : List Cond := [Cond.code yX7_linesIn cX7_linesIn 6 (some .int), Cond.methodLink RX7 83 yX7_halve, Cond.instanceMethod yX7_halve, Cond.selects RX7 yX7_halve yX7_halve, Cond.code yX7_halve cX7_halve 3 (some .int)]
def wsX7_stream : List Cond := .code yX7_stream cX7_stream 7 (some .int) :: ((wsX7_stream_r1 ++ (wsX7_stream_r2 ++ (wsX7_stream_r3 ++ wsX7_stream_r4))) ++ wsX70)
def wsX7_flush : List Cond := .code yX7_flush cX7_flush 2 (some .int) :: ([.fieldLink RX7 29 "PartitionedCacheModel" "thrown" "I", .methodLink RX7 86 yX7_in, .static yX7_in, .initialized RX7, .code yX7_in cX7_in 3 (some .boolean), .methodLink RX7 90 yX7_fails, .instanceMethod yX7_fails, .selects RX7 yX7_fails yX7_fails, .code yX7_fails cX7_fails 2 (some .int), .methodLink RX7 93 yX7_record, .instanceMethod yX7_record, .selects RX7 yX7_record yX7_record, .code yX7_record cX7_record 2 none, .fieldLink RX7 33 "PartitionedCacheModel" "states" "I", .fieldLink RX7 13 "PartitionedCacheModel" "past" "[I", .fieldLink RX7 7 "PartitionedCacheModel" "row" "[I", .methodLink RX7 99 yX7_flushes, .instanceMethod yX7_flushes, .selects RX7 yX7_flushes yX7_flushes, .code yX7_flushes cX7_flushes 4 (some .int)] ++ wsX70)
def wsX7_moveWay_r1 : List Cond := [Cond.fieldLink RX7 29 "PartitionedCacheModel" "thrown" "I", Cond.methodLink RX7 93 yX7_record, Cond.instanceMethod yX7_record, Cond.selects RX7 yX7_record yX7_record, Cond.initialized RX7, Cond.code yX7_record cX7_record 2 none, Cond.fieldLink RX7 33 "PartitionedCacheModel" "states" "I", Cond.fieldLink RX7 13 "PartitionedCacheModel" "past" "[I", Cond.fieldLink RX7 7 "PartitionedCacheModel" "row" "[I", Cond.methodLink RX7 80 yX7_move, Cond.instanceMethod yX7_move, Cond.selects RX7 yX7_move yX7_move, Cond.code yX7_move cX7_move 6 (some .int), Cond.methodLink RX7 58 yX7_findTargets, Cond.instanceMethod yX7_findTargets, Cond.selects RX7 yX7_findTargets yX7_findTargets, Cond.code yX7_findTargets cX7_findTargets 3 none, Cond.fieldLink RX7 23 "PartitionedCacheModel" "targets" "[I", Cond.methodLink RX7 55 yX7_giveSome, Cond.instanceMethod yX7_giveSome, Cond.selects RX7 yX7_giveSome yX7_giveSome, Cond.code yX7_giveSome cX7_giveSome 9 (some .int), Cond.methodLink RX7 48 yX7_gained, Cond.instanceMethod yX7_gained]
def wsX7_moveWay_r2 : List Cond := [Cond.selects RX7 yX7_gained yX7_gained, Cond.code yX7_gained cX7_gained 5 (some .int), Cond.methodLink RX7 51 yX7_lowestTarget, Cond.instanceMethod yX7_lowestTarget, Cond.selects RX7 yX7_lowestTarget yX7_lowestTarget, Cond.code yX7_lowestTarget cX7_lowestTarget 3 (some .int), Cond.methodLink RX7 61 yX7_deficit, Cond.instanceMethod yX7_deficit, Cond.selects RX7 yX7_deficit yX7_deficit, Cond.code yX7_deficit cX7_deficit 2 (some .int), Cond.methodLink RX7 44 yX7_owned, Cond.instanceMethod yX7_owned, Cond.selects RX7 yX7_owned yX7_owned, Cond.code yX7_owned cX7_owned 4 (some .int), Cond.methodLink RX7 64 yX7_linesIn, Cond.instanceMethod yX7_linesIn, Cond.selects RX7 yX7_linesIn yX7_linesIn, Cond.code yX7_linesIn cX7_linesIn 6 (some .int)]
def wsX7_moveWay : List Cond := .code yX7_moveWay cX7_moveWay 1 (some .int) :: ((wsX7_moveWay_r1 ++ wsX7_moveWay_r2) ++ wsX70)
def wsX7_giveWay : List Cond := .code yX7_giveWay cX7_giveWay 4 (some .int) :: ([.fieldLink RX7 29 "PartitionedCacheModel" "thrown" "I", .fieldLink RX7 7 "PartitionedCacheModel" "row" "[I", .methodLink RX7 86 yX7_in, .static yX7_in, .initialized RX7, .code yX7_in cX7_in 3 (some .boolean), .methodLink RX7 90 yX7_fails, .instanceMethod yX7_fails, .selects RX7 yX7_fails yX7_fails, .code yX7_fails cX7_fails 2 (some .int), .methodLink RX7 93 yX7_record, .instanceMethod yX7_record, .selects RX7 yX7_record yX7_record, .code yX7_record cX7_record 2 none, .fieldLink RX7 33 "PartitionedCacheModel" "states" "I", .fieldLink RX7 13 "PartitionedCacheModel" "past" "[I"] ++ wsX70)
def wsX7_setLeast : List Cond := .code yX7_setLeast cX7_setLeast 4 (some .int) :: ([.fieldLink RX7 29 "PartitionedCacheModel" "thrown" "I", .fieldLink RX7 7 "PartitionedCacheModel" "row" "[I", .methodLink RX7 86 yX7_in, .static yX7_in, .initialized RX7, .code yX7_in cX7_in 3 (some .boolean), .methodLink RX7 90 yX7_fails, .instanceMethod yX7_fails, .selects RX7 yX7_fails yX7_fails, .code yX7_fails cX7_fails 2 (some .int), .methodLink RX7 93 yX7_record, .instanceMethod yX7_record, .selects RX7 yX7_record yX7_record, .code yX7_record cX7_record 2 none, .fieldLink RX7 33 "PartitionedCacheModel" "states" "I", .fieldLink RX7 13 "PartitionedCacheModel" "past" "[I"] ++ wsX70)
def wsX7_setEpoch : List Cond := .code yX7_setEpoch cX7_setEpoch 3 (some .int) :: ([.fieldLink RX7 29 "PartitionedCacheModel" "thrown" "I", .fieldLink RX7 7 "PartitionedCacheModel" "row" "[I", .methodLink RX7 86 yX7_in, .static yX7_in, .initialized RX7, .code yX7_in cX7_in 3 (some .boolean), .methodLink RX7 90 yX7_fails, .instanceMethod yX7_fails, .selects RX7 yX7_fails yX7_fails, .code yX7_fails cX7_fails 2 (some .int), .methodLink RX7 93 yX7_record, .instanceMethod yX7_record, .selects RX7 yX7_record yX7_record, .code yX7_record cX7_record 2 none, .fieldLink RX7 33 "PartitionedCacheModel" "states" "I", .fieldLink RX7 13 "PartitionedCacheModel" "past" "[I"] ++ wsX70)
def wsX7_halveGains : List Cond := .code yX7_halveGains cX7_halveGains 1 (some .int) :: ([.fieldLink RX7 29 "PartitionedCacheModel" "thrown" "I", .methodLink RX7 93 yX7_record, .instanceMethod yX7_record, .selects RX7 yX7_record yX7_record, .initialized RX7, .code yX7_record cX7_record 2 none, .fieldLink RX7 33 "PartitionedCacheModel" "states" "I", .fieldLink RX7 13 "PartitionedCacheModel" "past" "[I", .fieldLink RX7 7 "PartitionedCacheModel" "row" "[I", .methodLink RX7 83 yX7_halve, .instanceMethod yX7_halve, .selects RX7 yX7_halve yX7_halve, .code yX7_halve cX7_halve 3 (some .int)] ++ wsX70)
def wsX7_appendText : List Cond := .code yX7_appendText cX7_appendText 2 (some .int) :: ([.fieldLink RX7 29 "PartitionedCacheModel" "thrown" "I", .fieldLink RX7 102 "PartitionedCacheModel" "length" "I", .fieldLink RX7 26 "PartitionedCacheModel" "buffer" "[I", .methodLink RX7 86 yX7_in, .static yX7_in, .initialized RX7, .code yX7_in cX7_in 3 (some .boolean), .methodLink RX7 90 yX7_fails, .instanceMethod yX7_fails, .selects RX7 yX7_fails yX7_fails, .code yX7_fails cX7_fails 2 (some .int)] ++ wsX70)
def wsX7_clearText : List Cond := .code yX7_clearText cX7_clearText 2 (some .int) :: ([.fieldLink RX7 29 "PartitionedCacheModel" "thrown" "I", .fieldLink RX7 102 "PartitionedCacheModel" "length" "I"] ++ wsX70)
def wsX7_sees : List Cond := .code yX7_sees cX7_sees 3 (some .boolean) :: ([.fieldLink RX7 105 "PartitionedCacheModel" "at" "I", .fieldLink RX7 102 "PartitionedCacheModel" "length" "I", .fieldLink RX7 26 "PartitionedCacheModel" "buffer" "[I", .methodLink RX7 86 yX7_in, .static yX7_in, .initialized RX7, .code yX7_in cX7_in 3 (some .boolean)] ++ wsX70)
def wsX7_takes : List Cond := .code yX7_takes cX7_takes 3 (some .boolean) :: ([.fieldLink RX7 105 "PartitionedCacheModel" "at" "I", .methodLink RX7 108 yX7_sees, .instanceMethod yX7_sees, .selects RX7 yX7_sees yX7_sees, .initialized RX7, .code yX7_sees cX7_sees 3 (some .boolean), .fieldLink RX7 102 "PartitionedCacheModel" "length" "I", .fieldLink RX7 26 "PartitionedCacheModel" "buffer" "[I", .methodLink RX7 86 yX7_in, .static yX7_in, .code yX7_in cX7_in 3 (some .boolean)] ++ wsX70)
def wsX7_reads : List Cond := .code yX7_reads cX7_reads 1 (some .boolean) :: ([.fieldLink RX7 26 "PartitionedCacheModel" "buffer" "[I", .fieldLink RX7 105 "PartitionedCacheModel" "at" "I", .fieldLink RX7 112 "PartitionedCacheModel" "number" "I", .methodLink RX7 108 yX7_sees, .instanceMethod yX7_sees, .selects RX7 yX7_sees yX7_sees, .initialized RX7, .code yX7_sees cX7_sees 3 (some .boolean), .fieldLink RX7 102 "PartitionedCacheModel" "length" "I", .methodLink RX7 86 yX7_in, .static yX7_in, .code yX7_in cX7_in 3 (some .boolean)] ++ wsX70)
def wsX7_command : List Cond := .code yX7_command cX7_command 3 (some .int) :: ([.fieldLink RX7 26 "PartitionedCacheModel" "buffer" "[I", .fieldLink RX7 105 "PartitionedCacheModel" "at" "I", .methodLink RX7 115 yX7_takes, .instanceMethod yX7_takes, .selects RX7 yX7_takes yX7_takes, .initialized RX7, .code yX7_takes cX7_takes 3 (some .boolean), .methodLink RX7 108 yX7_sees, .instanceMethod yX7_sees, .selects RX7 yX7_sees yX7_sees, .code yX7_sees cX7_sees 3 (some .boolean), .fieldLink RX7 102 "PartitionedCacheModel" "length" "I", .methodLink RX7 86 yX7_in, .static yX7_in, .code yX7_in cX7_in 3 (some .boolean), .methodLink RX7 119 yX7_reads, .instanceMethod yX7_reads, .selects RX7 yX7_reads yX7_reads, .code yX7_reads cX7_reads 1 (some .boolean), .fieldLink RX7 112 "PartitionedCacheModel" "number" "I"] ++ wsX70)
def wsX7_isValid : List Cond := .code yX7_isValid cX7_isValid 2 (some .boolean) :: ([.fieldLink RX7 105 "PartitionedCacheModel" "at" "I", .fieldLink RX7 102 "PartitionedCacheModel" "length" "I", .methodLink RX7 123 yX7_command, .instanceMethod yX7_command, .selects RX7 yX7_command yX7_command, .initialized RX7, .code yX7_command cX7_command 3 (some .int), .fieldLink RX7 26 "PartitionedCacheModel" "buffer" "[I", .methodLink RX7 115 yX7_takes, .instanceMethod yX7_takes, .selects RX7 yX7_takes yX7_takes, .code yX7_takes cX7_takes 3 (some .boolean), .methodLink RX7 108 yX7_sees, .instanceMethod yX7_sees, .selects RX7 yX7_sees yX7_sees, .code yX7_sees cX7_sees 3 (some .boolean), .methodLink RX7 86 yX7_in, .static yX7_in, .code yX7_in cX7_in 3 (some .boolean), .methodLink RX7 119 yX7_reads, .instanceMethod yX7_reads, .selects RX7 yX7_reads yX7_reads, .code yX7_reads cX7_reads 1 (some .boolean), .fieldLink RX7 112 "PartitionedCacheModel" "number" "I"] ++ wsX70)
def wsX7_errorPosition_r1 : List Cond := [Cond.fieldLink RX7 29 "PartitionedCacheModel" "thrown" "I", Cond.fieldLink RX7 105 "PartitionedCacheModel" "at" "I", Cond.methodLink RX7 126 yX7_isValid, Cond.instanceMethod yX7_isValid, Cond.selects RX7 yX7_isValid yX7_isValid, Cond.initialized RX7, Cond.code yX7_isValid cX7_isValid 2 (some .boolean), Cond.fieldLink RX7 102 "PartitionedCacheModel" "length" "I", Cond.methodLink RX7 123 yX7_command, Cond.instanceMethod yX7_command, Cond.selects RX7 yX7_command yX7_command, Cond.code yX7_command cX7_command 3 (some .int), Cond.fieldLink RX7 26 "PartitionedCacheModel" "buffer" "[I", Cond.methodLink RX7 115 yX7_takes, Cond.instanceMethod yX7_takes, Cond.selects RX7 yX7_takes yX7_takes, Cond.code yX7_takes cX7_takes 3 (some .boolean), Cond.methodLink RX7 108 yX7_sees, Cond.instanceMethod yX7_sees, Cond.selects RX7 yX7_sees yX7_sees, Cond.code yX7_sees cX7_sees 3 (some .boolean), Cond.methodLink RX7 86 yX7_in, Cond.static yX7_in, Cond.code yX7_in cX7_in 3 (some .boolean)]
def wsX7_errorPosition_r2 : List Cond := [Cond.methodLink RX7 119 yX7_reads, Cond.instanceMethod yX7_reads, Cond.selects RX7 yX7_reads yX7_reads, Cond.code yX7_reads cX7_reads 1 (some .boolean), Cond.fieldLink RX7 112 "PartitionedCacheModel" "number" "I"]
def wsX7_errorPosition : List Cond := .code yX7_errorPosition cX7_errorPosition 1 (some .int) :: ((wsX7_errorPosition_r1 ++ wsX7_errorPosition_r2) ++ wsX70)
def wsX7_does_r1 : List Cond := [Cond.fieldLink RX7 112 "PartitionedCacheModel" "number" "I", Cond.methodLink RX7 80 yX7_move, Cond.instanceMethod yX7_move, Cond.selects RX7 yX7_move yX7_move, Cond.initialized RX7, Cond.code yX7_move cX7_move 6 (some .int), Cond.fieldLink RX7 7 "PartitionedCacheModel" "row" "[I", Cond.methodLink RX7 58 yX7_findTargets, Cond.instanceMethod yX7_findTargets, Cond.selects RX7 yX7_findTargets yX7_findTargets, Cond.code yX7_findTargets cX7_findTargets 3 none, Cond.fieldLink RX7 23 "PartitionedCacheModel" "targets" "[I", Cond.methodLink RX7 55 yX7_giveSome, Cond.instanceMethod yX7_giveSome, Cond.selects RX7 yX7_giveSome yX7_giveSome, Cond.code yX7_giveSome cX7_giveSome 9 (some .int), Cond.methodLink RX7 48 yX7_gained, Cond.instanceMethod yX7_gained, Cond.selects RX7 yX7_gained yX7_gained, Cond.code yX7_gained cX7_gained 5 (some .int), Cond.methodLink RX7 51 yX7_lowestTarget, Cond.instanceMethod yX7_lowestTarget, Cond.selects RX7 yX7_lowestTarget yX7_lowestTarget, Cond.code yX7_lowestTarget cX7_lowestTarget 3 (some .int)]
def wsX7_does_r2 : List Cond := [Cond.methodLink RX7 61 yX7_deficit, Cond.instanceMethod yX7_deficit, Cond.selects RX7 yX7_deficit yX7_deficit, Cond.code yX7_deficit cX7_deficit 2 (some .int), Cond.methodLink RX7 44 yX7_owned, Cond.instanceMethod yX7_owned, Cond.selects RX7 yX7_owned yX7_owned, Cond.code yX7_owned cX7_owned 4 (some .int), Cond.methodLink RX7 64 yX7_linesIn, Cond.instanceMethod yX7_linesIn, Cond.selects RX7 yX7_linesIn yX7_linesIn, Cond.code yX7_linesIn cX7_linesIn 6 (some .int), Cond.methodLink RX7 83 yX7_halve, Cond.instanceMethod yX7_halve, Cond.selects RX7 yX7_halve yX7_halve, Cond.code yX7_halve cX7_halve 3 (some .int), Cond.methodLink RX7 99 yX7_flushes, Cond.instanceMethod yX7_flushes, Cond.selects RX7 yX7_flushes yX7_flushes, Cond.code yX7_flushes cX7_flushes 4 (some .int), Cond.methodLink RX7 96 yX7_visits, Cond.instanceMethod yX7_visits, Cond.selects RX7 yX7_visits yX7_visits, Cond.code yX7_visits cX7_visits 5 (some .int)]
def wsX7_does_r3 : List Cond := [Cond.methodLink RX7 70 yX7_watch, Cond.instanceMethod yX7_watch, Cond.selects RX7 yX7_watch yX7_watch, Cond.code yX7_watch cX7_watch 8 none, Cond.methodLink RX7 74 yX7_wouldBe, Cond.instanceMethod yX7_wouldBe, Cond.selects RX7 yX7_wouldBe yX7_wouldBe, Cond.code yX7_wouldBe cX7_wouldBe 3 (some .int), Cond.methodLink RX7 40 yX7_find, Cond.instanceMethod yX7_find, Cond.selects RX7 yX7_find yX7_find, Cond.code yX7_find cX7_find 5 (some .int), Cond.methodLink RX7 77 yX7_put, Cond.instanceMethod yX7_put, Cond.selects RX7 yX7_put yX7_put, Cond.code yX7_put cX7_put 4 none, Cond.methodLink RX7 67 yX7_placeFor, Cond.instanceMethod yX7_placeFor, Cond.selects RX7 yX7_placeFor yX7_placeFor, Cond.code yX7_placeFor cX7_placeFor 7 (some .int)]
def wsX7_does : List Cond := .code yX7_does cX7_does 3 (some .int) :: ((wsX7_does_r1 ++ (wsX7_does_r2 ++ wsX7_does_r3)) ++ wsX70)
def wsX7_runText_r1 : List Cond := [Cond.fieldLink RX7 29 "PartitionedCacheModel" "thrown" "I", Cond.fieldLink RX7 105 "PartitionedCacheModel" "at" "I", Cond.fieldLink RX7 102 "PartitionedCacheModel" "length" "I", Cond.methodLink RX7 126 yX7_isValid, Cond.instanceMethod yX7_isValid, Cond.selects RX7 yX7_isValid yX7_isValid, Cond.initialized RX7, Cond.code yX7_isValid cX7_isValid 2 (some .boolean), Cond.methodLink RX7 123 yX7_command, Cond.instanceMethod yX7_command, Cond.selects RX7 yX7_command yX7_command, Cond.code yX7_command cX7_command 3 (some .int), Cond.fieldLink RX7 26 "PartitionedCacheModel" "buffer" "[I", Cond.methodLink RX7 115 yX7_takes, Cond.instanceMethod yX7_takes, Cond.selects RX7 yX7_takes yX7_takes, Cond.code yX7_takes cX7_takes 3 (some .boolean), Cond.methodLink RX7 108 yX7_sees, Cond.instanceMethod yX7_sees, Cond.selects RX7 yX7_sees yX7_sees, Cond.code yX7_sees cX7_sees 3 (some .boolean), Cond.methodLink RX7 86 yX7_in, Cond.static yX7_in, Cond.code yX7_in cX7_in 3 (some .boolean)]
def wsX7_runText_r2 : List Cond := [Cond.methodLink RX7 119 yX7_reads, Cond.instanceMethod yX7_reads, Cond.selects RX7 yX7_reads yX7_reads, Cond.code yX7_reads cX7_reads 1 (some .boolean), Cond.fieldLink RX7 112 "PartitionedCacheModel" "number" "I", Cond.methodLink RX7 90 yX7_fails, Cond.instanceMethod yX7_fails, Cond.selects RX7 yX7_fails yX7_fails, Cond.code yX7_fails cX7_fails 2 (some .int), Cond.methodLink RX7 93 yX7_record, Cond.instanceMethod yX7_record, Cond.selects RX7 yX7_record yX7_record, Cond.code yX7_record cX7_record 2 none, Cond.fieldLink RX7 33 "PartitionedCacheModel" "states" "I", Cond.fieldLink RX7 13 "PartitionedCacheModel" "past" "[I", Cond.fieldLink RX7 7 "PartitionedCacheModel" "row" "[I", Cond.methodLink RX7 129 yX7_does, Cond.instanceMethod yX7_does, Cond.selects RX7 yX7_does yX7_does, Cond.code yX7_does cX7_does 3 (some .int), Cond.methodLink RX7 80 yX7_move, Cond.instanceMethod yX7_move, Cond.selects RX7 yX7_move yX7_move, Cond.code yX7_move cX7_move 6 (some .int)]
def wsX7_runText_r3 : List Cond := [Cond.methodLink RX7 58 yX7_findTargets, Cond.instanceMethod yX7_findTargets, Cond.selects RX7 yX7_findTargets yX7_findTargets, Cond.code yX7_findTargets cX7_findTargets 3 none, Cond.fieldLink RX7 23 "PartitionedCacheModel" "targets" "[I", Cond.methodLink RX7 55 yX7_giveSome, Cond.instanceMethod yX7_giveSome, Cond.selects RX7 yX7_giveSome yX7_giveSome, Cond.code yX7_giveSome cX7_giveSome 9 (some .int), Cond.methodLink RX7 48 yX7_gained, Cond.instanceMethod yX7_gained, Cond.selects RX7 yX7_gained yX7_gained, Cond.code yX7_gained cX7_gained 5 (some .int), Cond.methodLink RX7 51 yX7_lowestTarget, Cond.instanceMethod yX7_lowestTarget, Cond.selects RX7 yX7_lowestTarget yX7_lowestTarget, Cond.code yX7_lowestTarget cX7_lowestTarget 3 (some .int), Cond.methodLink RX7 61 yX7_deficit, Cond.instanceMethod yX7_deficit, Cond.selects RX7 yX7_deficit yX7_deficit, Cond.code yX7_deficit cX7_deficit 2 (some .int), Cond.methodLink RX7 44 yX7_owned, Cond.instanceMethod yX7_owned, Cond.selects RX7 yX7_owned yX7_owned]
def wsX7_runText_r4 : List Cond := [Cond.code yX7_owned cX7_owned 4 (some .int), Cond.methodLink RX7 64 yX7_linesIn, Cond.instanceMethod yX7_linesIn, Cond.selects RX7 yX7_linesIn yX7_linesIn, Cond.code yX7_linesIn cX7_linesIn 6 (some .int), Cond.methodLink RX7 83 yX7_halve, Cond.instanceMethod yX7_halve, Cond.selects RX7 yX7_halve yX7_halve, Cond.code yX7_halve cX7_halve 3 (some .int), Cond.methodLink RX7 99 yX7_flushes, Cond.instanceMethod yX7_flushes, Cond.selects RX7 yX7_flushes yX7_flushes, Cond.code yX7_flushes cX7_flushes 4 (some .int), Cond.methodLink RX7 96 yX7_visits, Cond.instanceMethod yX7_visits, Cond.selects RX7 yX7_visits yX7_visits, Cond.code yX7_visits cX7_visits 5 (some .int), Cond.methodLink RX7 70 yX7_watch, Cond.instanceMethod yX7_watch, Cond.selects RX7 yX7_watch yX7_watch, Cond.code yX7_watch cX7_watch 8 none, Cond.methodLink RX7 74 yX7_wouldBe, Cond.instanceMethod yX7_wouldBe, Cond.selects RX7 yX7_wouldBe yX7_wouldBe]
def wsX7_runText_r5 : List Cond := [Cond.code yX7_wouldBe cX7_wouldBe 3 (some .int), Cond.methodLink RX7 40 yX7_find, Cond.instanceMethod yX7_find, Cond.selects RX7 yX7_find yX7_find, Cond.code yX7_find cX7_find 5 (some .int), Cond.methodLink RX7 77 yX7_put, Cond.instanceMethod yX7_put, Cond.selects RX7 yX7_put yX7_put, Cond.code yX7_put cX7_put 4 none, Cond.methodLink RX7 67 yX7_placeFor, Cond.instanceMethod yX7_placeFor, Cond.selects RX7 yX7_placeFor yX7_placeFor, Cond.code yX7_placeFor cX7_placeFor 7 (some .int)]
def wsX7_runText : List Cond := .code yX7_runText cX7_runText 2 (some .int) :: ((wsX7_runText_r1 ++ (wsX7_runText_r2 ++ (wsX7_runText_r3 ++ (wsX7_runText_r4 ++ wsX7_runText_r5)))) ++ wsX70)
def wsX7_undo : List Cond := .code yX7_undo cX7_undo 2 (some .int) :: ([.fieldLink RX7 29 "PartitionedCacheModel" "thrown" "I", .fieldLink RX7 33 "PartitionedCacheModel" "states" "I", .fieldLink RX7 7 "PartitionedCacheModel" "row" "[I", .fieldLink RX7 13 "PartitionedCacheModel" "past" "[I", .methodLink RX7 90 yX7_fails, .instanceMethod yX7_fails, .selects RX7 yX7_fails yX7_fails, .initialized RX7, .code yX7_fails cX7_fails 2 (some .int)] ++ wsX70)
def wsX7_save : List Cond := .code yX7_save cX7_save 3 (some .int) :: ([.fieldLink RX7 29 "PartitionedCacheModel" "thrown" "I", .fieldLink RX7 16 "PartitionedCacheModel" "slots" "[I", .fieldLink RX7 7 "PartitionedCacheModel" "row" "[I", .fieldLink RX7 19 "PartitionedCacheModel" "has" "[Z", .methodLink RX7 86 yX7_in, .static yX7_in, .initialized RX7, .code yX7_in cX7_in 3 (some .boolean), .methodLink RX7 90 yX7_fails, .instanceMethod yX7_fails, .selects RX7 yX7_fails yX7_fails, .code yX7_fails cX7_fails 2 (some .int), .methodLink RX7 132 yX7_allLines, .instanceMethod yX7_allLines, .selects RX7 yX7_allLines yX7_allLines, .code yX7_allLines cX7_allLines 1 (some .int), .methodLink RX7 36 yX7_linesOf, .instanceMethod yX7_linesOf, .selects RX7 yX7_linesOf yX7_linesOf, .code yX7_linesOf cX7_linesOf 6 (some .int)] ++ wsX70)
def wsX7_restore_r1 : List Cond := [Cond.fieldLink RX7 29 "PartitionedCacheModel" "thrown" "I", Cond.fieldLink RX7 19 "PartitionedCacheModel" "has" "[Z", Cond.fieldLink RX7 7 "PartitionedCacheModel" "row" "[I", Cond.fieldLink RX7 16 "PartitionedCacheModel" "slots" "[I", Cond.methodLink RX7 86 yX7_in, Cond.static yX7_in, Cond.initialized RX7, Cond.code yX7_in cX7_in 3 (some .boolean), Cond.methodLink RX7 90 yX7_fails, Cond.instanceMethod yX7_fails, Cond.selects RX7 yX7_fails yX7_fails, Cond.code yX7_fails cX7_fails 2 (some .int), Cond.methodLink RX7 93 yX7_record, Cond.instanceMethod yX7_record, Cond.selects RX7 yX7_record yX7_record, Cond.code yX7_record cX7_record 2 none, Cond.fieldLink RX7 33 "PartitionedCacheModel" "states" "I", Cond.fieldLink RX7 13 "PartitionedCacheModel" "past" "[I", Cond.methodLink RX7 132 yX7_allLines, Cond.instanceMethod yX7_allLines, Cond.selects RX7 yX7_allLines yX7_allLines, Cond.code yX7_allLines cX7_allLines 1 (some .int), Cond.methodLink RX7 36 yX7_linesOf, Cond.instanceMethod yX7_linesOf]
def wsX7_restore_r2 : List Cond := [Cond.selects RX7 yX7_linesOf yX7_linesOf, Cond.code yX7_linesOf cX7_linesOf 6 (some .int)]
def wsX7_restore : List Cond := .code yX7_restore cX7_restore 3 (some .int) :: ((wsX7_restore_r1 ++ wsX7_restore_r2) ++ wsX70)
def wsX7_owner : List Cond := .code yX7_owner cX7_owner 2 (some .int) :: ([.fieldLink RX7 29 "PartitionedCacheModel" "thrown" "I", .fieldLink RX7 7 "PartitionedCacheModel" "row" "[I", .methodLink RX7 86 yX7_in, .static yX7_in, .initialized RX7, .code yX7_in cX7_in 3 (some .boolean), .methodLink RX7 90 yX7_fails, .instanceMethod yX7_fails, .selects RX7 yX7_fails yX7_fails, .code yX7_fails cX7_fails 2 (some .int)] ++ wsX70)
def wsX7_waysOf : List Cond := .code yX7_waysOf cX7_waysOf 2 (some .int) :: ([.fieldLink RX7 29 "PartitionedCacheModel" "thrown" "I", .methodLink RX7 86 yX7_in, .static yX7_in, .initialized RX7, .code yX7_in cX7_in 3 (some .boolean), .methodLink RX7 44 yX7_owned, .instanceMethod yX7_owned, .selects RX7 yX7_owned yX7_owned, .code yX7_owned cX7_owned 4 (some .int), .fieldLink RX7 7 "PartitionedCacheModel" "row" "[I", .methodLink RX7 90 yX7_fails, .instanceMethod yX7_fails, .selects RX7 yX7_fails yX7_fails, .code yX7_fails cX7_fails 2 (some .int)] ++ wsX70)
def wsX7_line : List Cond := .code yX7_line cX7_line 3 (some .int) :: ([.fieldLink RX7 29 "PartitionedCacheModel" "thrown" "I", .fieldLink RX7 7 "PartitionedCacheModel" "row" "[I", .methodLink RX7 86 yX7_in, .static yX7_in, .initialized RX7, .code yX7_in cX7_in 3 (some .boolean), .methodLink RX7 90 yX7_fails, .instanceMethod yX7_fails, .selects RX7 yX7_fails yX7_fails, .code yX7_fails cX7_fails 2 (some .int)] ++ wsX70)
def wsX7_lines : List Cond := .code yX7_lines cX7_lines 3 (some .int) :: ([.fieldLink RX7 29 "PartitionedCacheModel" "thrown" "I", .methodLink RX7 86 yX7_in, .static yX7_in, .initialized RX7, .code yX7_in cX7_in 3 (some .boolean), .methodLink RX7 36 yX7_linesOf, .instanceMethod yX7_linesOf, .selects RX7 yX7_linesOf yX7_linesOf, .code yX7_linesOf cX7_linesOf 6 (some .int), .fieldLink RX7 7 "PartitionedCacheModel" "row" "[I", .methodLink RX7 90 yX7_fails, .instanceMethod yX7_fails, .selects RX7 yX7_fails yX7_fails, .code yX7_fails cX7_fails 2 (some .int)] ++ wsX70)
def wsX7_ifAccessed : List Cond := .code yX7_ifAccessed cX7_ifAccessed 3 (some .int) :: ([.fieldLink RX7 29 "PartitionedCacheModel" "thrown" "I", .methodLink RX7 86 yX7_in, .static yX7_in, .initialized RX7, .code yX7_in cX7_in 3 (some .boolean), .methodLink RX7 90 yX7_fails, .instanceMethod yX7_fails, .selects RX7 yX7_fails yX7_fails, .code yX7_fails cX7_fails 2 (some .int), .methodLink RX7 74 yX7_wouldBe, .instanceMethod yX7_wouldBe, .selects RX7 yX7_wouldBe yX7_wouldBe, .code yX7_wouldBe cX7_wouldBe 3 (some .int), .methodLink RX7 40 yX7_find, .instanceMethod yX7_find, .selects RX7 yX7_find yX7_find, .code yX7_find cX7_find 5 (some .int), .fieldLink RX7 7 "PartitionedCacheModel" "row" "[I", .methodLink RX7 44 yX7_owned, .instanceMethod yX7_owned, .selects RX7 yX7_owned yX7_owned, .code yX7_owned cX7_owned 4 (some .int)] ++ wsX70)
def wsX7_victim_r1 : List Cond := [Cond.fieldLink RX7 29 "PartitionedCacheModel" "thrown" "I", Cond.fieldLink RX7 7 "PartitionedCacheModel" "row" "[I", Cond.methodLink RX7 86 yX7_in, Cond.static yX7_in, Cond.initialized RX7, Cond.code yX7_in cX7_in 3 (some .boolean), Cond.methodLink RX7 90 yX7_fails, Cond.instanceMethod yX7_fails, Cond.selects RX7 yX7_fails yX7_fails, Cond.code yX7_fails cX7_fails 2 (some .int), Cond.methodLink RX7 74 yX7_wouldBe, Cond.instanceMethod yX7_wouldBe, Cond.selects RX7 yX7_wouldBe yX7_wouldBe, Cond.code yX7_wouldBe cX7_wouldBe 3 (some .int), Cond.methodLink RX7 40 yX7_find, Cond.instanceMethod yX7_find, Cond.selects RX7 yX7_find yX7_find, Cond.code yX7_find cX7_find 5 (some .int), Cond.methodLink RX7 44 yX7_owned, Cond.instanceMethod yX7_owned, Cond.selects RX7 yX7_owned yX7_owned, Cond.code yX7_owned cX7_owned 4 (some .int), Cond.methodLink RX7 67 yX7_placeFor, Cond.instanceMethod yX7_placeFor]
def wsX7_victim_r2 : List Cond := [Cond.selects RX7 yX7_placeFor yX7_placeFor, Cond.code yX7_placeFor cX7_placeFor 7 (some .int)]
def wsX7_victim : List Cond := .code yX7_victim cX7_victim 3 (some .int) :: ((wsX7_victim_r1 ++ wsX7_victim_r2) ++ wsX70)
def wsX7_gain : List Cond := .code yX7_gain cX7_gain 3 (some .int) :: ([.fieldLink RX7 29 "PartitionedCacheModel" "thrown" "I", .fieldLink RX7 7 "PartitionedCacheModel" "row" "[I", .methodLink RX7 86 yX7_in, .static yX7_in, .initialized RX7, .code yX7_in cX7_in 3 (some .boolean), .methodLink RX7 90 yX7_fails, .instanceMethod yX7_fails, .selects RX7 yX7_fails yX7_fails, .code yX7_fails cX7_fails 2 (some .int)] ++ wsX70)
def wsX7_utility : List Cond := .code yX7_utility cX7_utility 3 (some .int) :: ([.fieldLink RX7 29 "PartitionedCacheModel" "thrown" "I", .methodLink RX7 86 yX7_in, .static yX7_in, .initialized RX7, .code yX7_in cX7_in 3 (some .boolean), .methodLink RX7 90 yX7_fails, .instanceMethod yX7_fails, .selects RX7 yX7_fails yX7_fails, .code yX7_fails cX7_fails 2 (some .int), .methodLink RX7 48 yX7_gained, .instanceMethod yX7_gained, .selects RX7 yX7_gained yX7_gained, .code yX7_gained cX7_gained 5 (some .int), .fieldLink RX7 7 "PartitionedCacheModel" "row" "[I"] ++ wsX70)
def wsX7_monitored : List Cond := .code yX7_monitored cX7_monitored 5 (some .int) :: ([.fieldLink RX7 29 "PartitionedCacheModel" "thrown" "I", .fieldLink RX7 7 "PartitionedCacheModel" "row" "[I", .methodLink RX7 86 yX7_in, .static yX7_in, .initialized RX7, .code yX7_in cX7_in 3 (some .boolean), .methodLink RX7 90 yX7_fails, .instanceMethod yX7_fails, .selects RX7 yX7_fails yX7_fails, .code yX7_fails cX7_fails 2 (some .int)] ++ wsX70)
def wsX7_target_r1 : List Cond := [Cond.fieldLink RX7 29 "PartitionedCacheModel" "thrown" "I", Cond.fieldLink RX7 23 "PartitionedCacheModel" "targets" "[I", Cond.methodLink RX7 58 yX7_findTargets, Cond.instanceMethod yX7_findTargets, Cond.selects RX7 yX7_findTargets yX7_findTargets, Cond.initialized RX7, Cond.code yX7_findTargets cX7_findTargets 3 none, Cond.fieldLink RX7 7 "PartitionedCacheModel" "row" "[I", Cond.methodLink RX7 55 yX7_giveSome, Cond.instanceMethod yX7_giveSome, Cond.selects RX7 yX7_giveSome yX7_giveSome, Cond.code yX7_giveSome cX7_giveSome 9 (some .int), Cond.methodLink RX7 48 yX7_gained, Cond.instanceMethod yX7_gained, Cond.selects RX7 yX7_gained yX7_gained, Cond.code yX7_gained cX7_gained 5 (some .int), Cond.methodLink RX7 51 yX7_lowestTarget, Cond.instanceMethod yX7_lowestTarget, Cond.selects RX7 yX7_lowestTarget yX7_lowestTarget, Cond.code yX7_lowestTarget cX7_lowestTarget 3 (some .int), Cond.methodLink RX7 86 yX7_in, Cond.static yX7_in, Cond.code yX7_in cX7_in 3 (some .boolean), Cond.methodLink RX7 90 yX7_fails]
def wsX7_target_r2 : List Cond := [Cond.instanceMethod yX7_fails, Cond.selects RX7 yX7_fails yX7_fails, Cond.code yX7_fails cX7_fails 2 (some .int)]
def wsX7_target : List Cond := .code yX7_target cX7_target 2 (some .int) :: ((wsX7_target_r1 ++ wsX7_target_r2) ++ wsX70)
def wsX7_movesLeft_r1 : List Cond := [Cond.fieldLink RX7 29 "PartitionedCacheModel" "thrown" "I", Cond.methodLink RX7 58 yX7_findTargets, Cond.instanceMethod yX7_findTargets, Cond.selects RX7 yX7_findTargets yX7_findTargets, Cond.initialized RX7, Cond.code yX7_findTargets cX7_findTargets 3 none, Cond.fieldLink RX7 23 "PartitionedCacheModel" "targets" "[I", Cond.fieldLink RX7 7 "PartitionedCacheModel" "row" "[I", Cond.methodLink RX7 55 yX7_giveSome, Cond.instanceMethod yX7_giveSome, Cond.selects RX7 yX7_giveSome yX7_giveSome, Cond.code yX7_giveSome cX7_giveSome 9 (some .int), Cond.methodLink RX7 48 yX7_gained, Cond.instanceMethod yX7_gained, Cond.selects RX7 yX7_gained yX7_gained, Cond.code yX7_gained cX7_gained 5 (some .int), Cond.methodLink RX7 51 yX7_lowestTarget, Cond.instanceMethod yX7_lowestTarget, Cond.selects RX7 yX7_lowestTarget yX7_lowestTarget, Cond.code yX7_lowestTarget cX7_lowestTarget 3 (some .int), Cond.methodLink RX7 61 yX7_deficit, Cond.instanceMethod yX7_deficit, Cond.selects RX7 yX7_deficit yX7_deficit, Cond.code yX7_deficit cX7_deficit 2 (some .int)]
def wsX7_movesLeft_r2 : List Cond := [Cond.methodLink RX7 44 yX7_owned, Cond.instanceMethod yX7_owned, Cond.selects RX7 yX7_owned yX7_owned, Cond.code yX7_owned cX7_owned 4 (some .int)]
def wsX7_movesLeft : List Cond := .code yX7_movesLeft cX7_movesLeft 3 (some .int) :: ((wsX7_movesLeft_r1 ++ wsX7_movesLeft_r2) ++ wsX70)
def wsX7_totalUtility : List Cond := .code yX7_totalUtility cX7_totalUtility 3 (some .int) :: ([.fieldLink RX7 29 "PartitionedCacheModel" "thrown" "I", .methodLink RX7 44 yX7_owned, .instanceMethod yX7_owned, .selects RX7 yX7_owned yX7_owned, .initialized RX7, .code yX7_owned cX7_owned 4 (some .int), .fieldLink RX7 7 "PartitionedCacheModel" "row" "[I", .methodLink RX7 48 yX7_gained, .instanceMethod yX7_gained, .selects RX7 yX7_gained yX7_gained, .code yX7_gained cX7_gained 5 (some .int)] ++ wsX70)
def wsX7_count : List Cond := .code yX7_count cX7_count 3 (some .int) :: ([.fieldLink RX7 29 "PartitionedCacheModel" "thrown" "I", .fieldLink RX7 7 "PartitionedCacheModel" "row" "[I", .methodLink RX7 86 yX7_in, .static yX7_in, .initialized RX7, .code yX7_in cX7_in 3 (some .boolean), .methodLink RX7 90 yX7_fails, .instanceMethod yX7_fails, .selects RX7 yX7_fails yX7_fails, .code yX7_fails cX7_fails 2 (some .int)] ++ wsX70)
def wsX7_accesses : List Cond := .code yX7_accesses cX7_accesses 1 (some .int) :: ([.fieldLink RX7 29 "PartitionedCacheModel" "thrown" "I", .fieldLink RX7 7 "PartitionedCacheModel" "row" "[I"] ++ wsX70)
def wsX7_hitRate : List Cond := .code yX7_hitRate cX7_hitRate 3 (some .double) :: ([.fieldLink RX7 29 "PartitionedCacheModel" "thrown" "I", .fieldLink RX7 7 "PartitionedCacheModel" "row" "[I", .methodLink RX7 86 yX7_in, .static yX7_in, .initialized RX7, .code yX7_in cX7_in 3 (some .boolean), .methodLink RX7 90 yX7_fails, .instanceMethod yX7_fails, .selects RX7 yX7_fails yX7_fails, .code yX7_fails cX7_fails 2 (some .int)] ++ wsX70)
def wsX7_savedStates : List Cond := .code yX7_savedStates cX7_savedStates 1 (some .int) :: ([.fieldLink RX7 29 "PartitionedCacheModel" "thrown" "I", .fieldLink RX7 33 "PartitionedCacheModel" "states" "I"] ++ wsX70)
def wsX7_textLength : List Cond := .code yX7_textLength cX7_textLength 1 (some .int) :: ([.fieldLink RX7 29 "PartitionedCacheModel" "thrown" "I", .fieldLink RX7 102 "PartitionedCacheModel" "length" "I"] ++ wsX70)
def wsJ9_max_7cf53 : List Cond := .code yJ9_max_7cf53 cJ9_max_7cf53 2 (some .int) :: ([])
def wsL_access_r1 : List Cond := [Cond.classLink RL 13 "java/lang/IndexOutOfBoundsException", Cond.classLink RL 15 "java/lang/IllegalArgumentException", Cond.methodLink RL 7 yX6_access, Cond.instanceMethod yX6_access, Cond.selects RX6 yX6_access yX6_access, Cond.initialized RX6, Cond.code yX6_access cX6_access 3 (some .int), Cond.fieldLink RX6 26 "PartitionedCache" "history" "LPartitionedCache$History;", Cond.fieldLink RX6 12 "PartitionedCache" "now" "LPartitionedCache$State;", Cond.methodLink RX6 45 yX6_requireTenant, Cond.static yX6_requireTenant, Cond.code yX6_requireTenant cX6_requireTenant 1 none, Cond.methodLink RX6 75 yX6_requireIndex, Cond.static yX6_requireIndex, Cond.code yX6_requireIndex cX6_requireIndex 2 none, Cond.classLink RX6 171 "java/lang/IndexOutOfBoundsException", Cond.initialized "java/lang/IndexOutOfBoundsException", Cond.methodLink RX6 49 yX6_requireArgument, Cond.static yX6_requireArgument, Cond.code yX6_requireArgument cX6_requireArgument 3 none, Cond.classLink RX6 204 "java/lang/IllegalArgumentException", Cond.initialized "java/lang/IllegalArgumentException", Cond.methodLink RX6 53 yX1_push, Cond.instanceMethod yX1_push]
def wsL_access_r2 : List Cond := [Cond.selects RX1 yX1_push yX1_push, Cond.initialized RX1, Cond.code yX1_push cX1_push 2 none, Cond.fieldLink RX1 11 "PartitionedCache$History" "ring" "[LPartitionedCache$State;", Cond.fieldLink RX1 17 "PartitionedCache$History" "oldest" "I", Cond.fieldLink RX1 21 "PartitionedCache$History" "size" "I", Cond.methodLink RX1 25 yX4_copyFrom, Cond.instanceMethod yX4_copyFrom, Cond.selects RX4 yX4_copyFrom yX4_copyFrom, Cond.initialized RX4, Cond.code yX4_copyFrom cX4_copyFrom 2 none, Cond.fieldLink RX4 12 "PartitionedCache$State" "places" "LPartitionedCache$Places;", Cond.fieldLink RX4 21 "PartitionedCache$State" "monitors" "LPartitionedCache$Monitors;", Cond.fieldLink RX4 25 "PartitionedCache$State" "leasts" "[I", Cond.methodLink RX4 46 arraycopyName, Cond.native arraycopyName, Cond.static arraycopyName, Cond.initialized "java/lang/System", Cond.fieldLink RX4 29 "PartitionedCache$State" "counts" "[I", Cond.fieldLink RX4 32 "PartitionedCache$State" "epoch" "I", Cond.fieldLink RX4 36 "PartitionedCache$State" "accesses" "I", Cond.methodLink RX4 39 yX3_copyFrom, Cond.instanceMethod yX3_copyFrom, Cond.selects RX3 yX3_copyFrom yX3_copyFrom]
def wsL_access_r3 : List Cond := [Cond.initialized RX3, Cond.code yX3_copyFrom cX3_copyFrom 2 none, Cond.fieldLink RX3 9 "PartitionedCache$Places" "owners" "[I", Cond.methodLink RX3 21 arraycopyName, Cond.fieldLink RX3 15 "PartitionedCache$Places" "held" "[I", Cond.fieldLink RX3 18 "PartitionedCache$Places" "stamps" "[I", Cond.methodLink RX4 43 yX2_copyFrom, Cond.instanceMethod yX2_copyFrom, Cond.selects RX2 yX2_copyFrom yX2_copyFrom, Cond.initialized RX2, Cond.code yX2_copyFrom cX2_copyFrom 2 none, Cond.fieldLink RX2 9 "PartitionedCache$Monitors" "addresses" "[I", Cond.methodLink RX2 18 arraycopyName, Cond.fieldLink RX2 15 "PartitionedCache$Monitors" "gains" "[I", Cond.methodLink RX6 57 yX6_makeAccess, Cond.instanceMethod yX6_makeAccess, Cond.selects RX6 yX6_makeAccess yX6_makeAccess, Cond.code yX6_makeAccess cX6_makeAccess 4 (some .int), Cond.fieldLink RX6 90 "PartitionedCache$State" "monitors" "LPartitionedCache$Monitors;", Cond.fieldLink RX6 199 "PartitionedCache$State" "accesses" "I", Cond.fieldLink RX6 61 "PartitionedCache$State" "places" "LPartitionedCache$Places;", Cond.fieldLink RX6 196 "PartitionedCache$State" "counts" "[I", Cond.fieldLink RX6 86 "PartitionedCache$State" "epoch" "I", Cond.methodLink RX6 209 yX2_note]
def wsL_access_r4 : List Cond := [Cond.instanceMethod yX2_note, Cond.selects RX2 yX2_note yX2_note, Cond.code yX2_note cX2_note 7 none, Cond.static yX6_isSampled, Cond.code yX6_isSampled cX6_isSampled 1 (some .boolean), Cond.static yX6_listStart, Cond.code yX6_listStart cX6_listStart 2 (some .int), Cond.methodLink RX6 156 yX3_resultOf, Cond.instanceMethod yX3_resultOf, Cond.selects RX3 yX3_resultOf yX3_resultOf, Cond.code yX3_resultOf cX3_resultOf 3 (some .int), Cond.methodLink RX3 27 yX3_placeOf, Cond.instanceMethod yX3_placeOf, Cond.selects RX3 yX3_placeOf yX3_placeOf, Cond.code yX3_placeOf cX3_placeOf 5 (some .int), Cond.methodLink RX3 31 yX3_ownedWays, Cond.instanceMethod yX3_ownedWays, Cond.selects RX3 yX3_ownedWays yX3_ownedWays, Cond.code yX3_ownedWays cX3_ownedWays 4 (some .int), Cond.methodLink RX6 212 yX3_renew, Cond.instanceMethod yX3_renew, Cond.selects RX3 yX3_renew yX3_renew, Cond.code yX3_renew cX3_renew 5 none, Cond.methodLink RX6 215 yX6_bringIn]
def wsL_access_r5 : List Cond := [Cond.instanceMethod yX6_bringIn, Cond.selects RX6 yX6_bringIn yX6_bringIn, Cond.code yX6_bringIn cX6_bringIn 5 none, Cond.fieldLink RX6 147 "PartitionedCache$Places" "held" "[I", Cond.fieldLink RX6 222 "PartitionedCache$Places" "stamps" "[I", Cond.methodLink RX6 159 yX3_placeToFill, Cond.instanceMethod yX3_placeToFill, Cond.selects RX3 yX3_placeToFill yX3_placeToFill, Cond.code yX3_placeToFill cX3_placeToFill 7 (some .int), Cond.methodLink RX6 218 yX3_holdsLineOf, Cond.instanceMethod yX3_holdsLineOf, Cond.selects RX3 yX3_holdsLineOf yX3_holdsLineOf, Cond.code yX3_holdsLineOf cX3_holdsLineOf 3 (some .boolean), Cond.methodLink RX6 71 yX6_moveOneWay, Cond.instanceMethod yX6_moveOneWay, Cond.selects RX6 yX6_moveOneWay yX6_moveOneWay, Cond.code yX6_moveOneWay cX6_moveOneWay 4 (some .int), Cond.fieldLink RX6 19 "PartitionedCache" "targets" "LPartitionedCache$Targets;", Cond.fieldLink RX6 79 "PartitionedCache$Places" "owners" "[I", Cond.methodLink RX6 182 yX5_compute, Cond.instanceMethod yX5_compute, Cond.selects RX5 yX5_compute yX5_compute, Cond.initialized RX5, Cond.code yX5_compute cX5_compute 4 none]
def wsL_access_r6 : List Cond := [Cond.fieldLink RX5 9 "PartitionedCache$Targets" "ways" "[I", Cond.fieldLink RX5 15 "PartitionedCache$State" "leasts" "[I", Cond.fieldLink RX5 20 "PartitionedCache$State" "monitors" "LPartitionedCache$Monitors;", Cond.methodLink RX5 24 yX5_growOne, Cond.instanceMethod yX5_growOne, Cond.selects RX5 yX5_growOne yX5_growOne, Cond.code yX5_growOne cX5_growOne 9 (some .int), Cond.fieldLink RX5 28 "PartitionedCache$Monitors" "gains" "[I", Cond.methodLink RX5 33 yX5_lowest, Cond.instanceMethod yX5_lowest, Cond.selects RX5 yX5_lowest yX5_lowest, Cond.code yX5_lowest cX5_lowest 3 (some .int), Cond.methodLink RX6 188 yX6_deficitOf, Cond.instanceMethod yX6_deficitOf, Cond.selects RX6 yX6_deficitOf yX6_deficitOf, Cond.code yX6_deficitOf cX6_deficitOf 2 (some .int), Cond.fieldLink RX6 185 "PartitionedCache$Targets" "ways" "[I", Cond.methodLink RX6 144 yX3_ownedWays, Cond.methodLink RX6 225 yX3_wayWithFewestLines, Cond.instanceMethod yX3_wayWithFewestLines, Cond.selects RX3 yX3_wayWithFewestLines yX3_wayWithFewestLines, Cond.code yX3_wayWithFewestLines cX3_wayWithFewestLines 5 (some .int), Cond.methodLink RX3 39 yX3_linesInWay, Cond.instanceMethod yX3_linesInWay]
def wsL_access_r7 : List Cond := [Cond.selects RX3 yX3_linesInWay yX3_linesInWay, Cond.code yX3_linesInWay cX3_linesInWay 5 (some .int), Cond.methodLink RX3 35 yX3_holdsLineOf, Cond.methodLink RX6 94 yX2_halve, Cond.instanceMethod yX2_halve, Cond.selects RX2 yX2_halve yX2_halve, Cond.code yX2_halve cX2_halve 2 none]
def wsL_access : List Cond := .codeWith yL_access cL_access 5 (some .int) [(0, 10, 13, 13), (0, 10, 17, 15)] :: ((wsL_access_r1 ++ (wsL_access_r2 ++ (wsL_access_r3 ++ (wsL_access_r4 ++ (wsL_access_r5 ++ (wsL_access_r6 ++ wsL_access_r7)))))) ++ wsX60 ++ wsX10 ++ wsX40 ++ wsX30 ++ wsX20 ++ wsX50 ++ (vx_atS RX6 175 "java/lang/IndexOutOfBoundsException" ["java/lang/RuntimeException", "java/lang/Exception"]).filter goodWord ++ (vx_atS RX6 208 "java/lang/IllegalArgumentException" ["java/lang/RuntimeException", "java/lang/Exception"]).filter goodWord)
def wsL_stream_r1 : List Cond := [Cond.classLink RL 13 "java/lang/IndexOutOfBoundsException", Cond.classLink RL 15 "java/lang/IllegalArgumentException", Cond.methodLink RL 17 yX6_stream, Cond.instanceMethod yX6_stream, Cond.selects RX6 yX6_stream yX6_stream, Cond.initialized RX6, Cond.code yX6_stream cX6_stream 7 (some .int), Cond.fieldLink RX6 26 "PartitionedCache" "history" "LPartitionedCache$History;", Cond.fieldLink RX6 12 "PartitionedCache" "now" "LPartitionedCache$State;", Cond.methodLink RX6 45 yX6_requireTenant, Cond.static yX6_requireTenant, Cond.code yX6_requireTenant cX6_requireTenant 1 none, Cond.methodLink RX6 75 yX6_requireIndex, Cond.static yX6_requireIndex, Cond.code yX6_requireIndex cX6_requireIndex 2 none, Cond.classLink RX6 171 "java/lang/IndexOutOfBoundsException", Cond.initialized "java/lang/IndexOutOfBoundsException", Cond.methodLink RX6 49 yX6_requireArgument, Cond.static yX6_requireArgument, Cond.code yX6_requireArgument cX6_requireArgument 3 none, Cond.classLink RX6 204 "java/lang/IllegalArgumentException", Cond.initialized "java/lang/IllegalArgumentException", Cond.methodLink RX6 53 yX1_push, Cond.instanceMethod yX1_push]
def wsL_stream_r2 : List Cond := [Cond.selects RX1 yX1_push yX1_push, Cond.initialized RX1, Cond.code yX1_push cX1_push 2 none, Cond.fieldLink RX1 11 "PartitionedCache$History" "ring" "[LPartitionedCache$State;", Cond.fieldLink RX1 17 "PartitionedCache$History" "oldest" "I", Cond.fieldLink RX1 21 "PartitionedCache$History" "size" "I", Cond.methodLink RX1 25 yX4_copyFrom, Cond.instanceMethod yX4_copyFrom, Cond.selects RX4 yX4_copyFrom yX4_copyFrom, Cond.initialized RX4, Cond.code yX4_copyFrom cX4_copyFrom 2 none, Cond.fieldLink RX4 12 "PartitionedCache$State" "places" "LPartitionedCache$Places;", Cond.fieldLink RX4 21 "PartitionedCache$State" "monitors" "LPartitionedCache$Monitors;", Cond.fieldLink RX4 25 "PartitionedCache$State" "leasts" "[I", Cond.methodLink RX4 46 arraycopyName, Cond.native arraycopyName, Cond.static arraycopyName, Cond.initialized "java/lang/System", Cond.fieldLink RX4 29 "PartitionedCache$State" "counts" "[I", Cond.fieldLink RX4 32 "PartitionedCache$State" "epoch" "I", Cond.fieldLink RX4 36 "PartitionedCache$State" "accesses" "I", Cond.methodLink RX4 39 yX3_copyFrom, Cond.instanceMethod yX3_copyFrom, Cond.selects RX3 yX3_copyFrom yX3_copyFrom]
def wsL_stream_r3 : List Cond := [Cond.initialized RX3, Cond.code yX3_copyFrom cX3_copyFrom 2 none, Cond.fieldLink RX3 9 "PartitionedCache$Places" "owners" "[I", Cond.methodLink RX3 21 arraycopyName, Cond.fieldLink RX3 15 "PartitionedCache$Places" "held" "[I", Cond.fieldLink RX3 18 "PartitionedCache$Places" "stamps" "[I", Cond.methodLink RX4 43 yX2_copyFrom, Cond.instanceMethod yX2_copyFrom, Cond.selects RX2 yX2_copyFrom yX2_copyFrom, Cond.initialized RX2, Cond.code yX2_copyFrom cX2_copyFrom 2 none, Cond.fieldLink RX2 9 "PartitionedCache$Monitors" "addresses" "[I", Cond.methodLink RX2 18 arraycopyName, Cond.fieldLink RX2 15 "PartitionedCache$Monitors" "gains" "[I", Cond.methodLink RX6 57 yX6_makeAccess, Cond.instanceMethod yX6_makeAccess, Cond.selects RX6 yX6_makeAccess yX6_makeAccess, Cond.code yX6_makeAccess cX6_makeAccess 4 (some .int), Cond.fieldLink RX6 90 "PartitionedCache$State" "monitors" "LPartitionedCache$Monitors;", Cond.fieldLink RX6 199 "PartitionedCache$State" "accesses" "I", Cond.fieldLink RX6 61 "PartitionedCache$State" "places" "LPartitionedCache$Places;", Cond.fieldLink RX6 196 "PartitionedCache$State" "counts" "[I", Cond.fieldLink RX6 86 "PartitionedCache$State" "epoch" "I", Cond.methodLink RX6 209 yX2_note]
def wsL_stream_r4 : List Cond := [Cond.instanceMethod yX2_note, Cond.selects RX2 yX2_note yX2_note, Cond.code yX2_note cX2_note 7 none, Cond.static yX6_isSampled, Cond.code yX6_isSampled cX6_isSampled 1 (some .boolean), Cond.static yX6_listStart, Cond.code yX6_listStart cX6_listStart 2 (some .int), Cond.methodLink RX6 156 yX3_resultOf, Cond.instanceMethod yX3_resultOf, Cond.selects RX3 yX3_resultOf yX3_resultOf, Cond.code yX3_resultOf cX3_resultOf 3 (some .int), Cond.methodLink RX3 27 yX3_placeOf, Cond.instanceMethod yX3_placeOf, Cond.selects RX3 yX3_placeOf yX3_placeOf, Cond.code yX3_placeOf cX3_placeOf 5 (some .int), Cond.methodLink RX3 31 yX3_ownedWays, Cond.instanceMethod yX3_ownedWays, Cond.selects RX3 yX3_ownedWays yX3_ownedWays, Cond.code yX3_ownedWays cX3_ownedWays 4 (some .int), Cond.methodLink RX6 212 yX3_renew, Cond.instanceMethod yX3_renew, Cond.selects RX3 yX3_renew yX3_renew, Cond.code yX3_renew cX3_renew 5 none, Cond.methodLink RX6 215 yX6_bringIn]
def wsL_stream_r5 : List Cond := [Cond.instanceMethod yX6_bringIn, Cond.selects RX6 yX6_bringIn yX6_bringIn, Cond.code yX6_bringIn cX6_bringIn 5 none, Cond.fieldLink RX6 147 "PartitionedCache$Places" "held" "[I", Cond.fieldLink RX6 222 "PartitionedCache$Places" "stamps" "[I", Cond.methodLink RX6 159 yX3_placeToFill, Cond.instanceMethod yX3_placeToFill, Cond.selects RX3 yX3_placeToFill yX3_placeToFill, Cond.code yX3_placeToFill cX3_placeToFill 7 (some .int), Cond.methodLink RX6 218 yX3_holdsLineOf, Cond.instanceMethod yX3_holdsLineOf, Cond.selects RX3 yX3_holdsLineOf yX3_holdsLineOf, Cond.code yX3_holdsLineOf cX3_holdsLineOf 3 (some .boolean), Cond.methodLink RX6 71 yX6_moveOneWay, Cond.instanceMethod yX6_moveOneWay, Cond.selects RX6 yX6_moveOneWay yX6_moveOneWay, Cond.code yX6_moveOneWay cX6_moveOneWay 4 (some .int), Cond.fieldLink RX6 19 "PartitionedCache" "targets" "LPartitionedCache$Targets;", Cond.fieldLink RX6 79 "PartitionedCache$Places" "owners" "[I", Cond.methodLink RX6 182 yX5_compute, Cond.instanceMethod yX5_compute, Cond.selects RX5 yX5_compute yX5_compute, Cond.initialized RX5, Cond.code yX5_compute cX5_compute 4 none]
def wsL_stream_r6 : List Cond := [Cond.fieldLink RX5 9 "PartitionedCache$Targets" "ways" "[I", Cond.fieldLink RX5 15 "PartitionedCache$State" "leasts" "[I", Cond.fieldLink RX5 20 "PartitionedCache$State" "monitors" "LPartitionedCache$Monitors;", Cond.methodLink RX5 24 yX5_growOne, Cond.instanceMethod yX5_growOne, Cond.selects RX5 yX5_growOne yX5_growOne, Cond.code yX5_growOne cX5_growOne 9 (some .int), Cond.fieldLink RX5 28 "PartitionedCache$Monitors" "gains" "[I", Cond.methodLink RX5 33 yX5_lowest, Cond.instanceMethod yX5_lowest, Cond.selects RX5 yX5_lowest yX5_lowest, Cond.code yX5_lowest cX5_lowest 3 (some .int), Cond.methodLink RX6 188 yX6_deficitOf, Cond.instanceMethod yX6_deficitOf, Cond.selects RX6 yX6_deficitOf yX6_deficitOf, Cond.code yX6_deficitOf cX6_deficitOf 2 (some .int), Cond.fieldLink RX6 185 "PartitionedCache$Targets" "ways" "[I", Cond.methodLink RX6 144 yX3_ownedWays, Cond.methodLink RX6 225 yX3_wayWithFewestLines, Cond.instanceMethod yX3_wayWithFewestLines, Cond.selects RX3 yX3_wayWithFewestLines yX3_wayWithFewestLines, Cond.code yX3_wayWithFewestLines cX3_wayWithFewestLines 5 (some .int), Cond.methodLink RX3 39 yX3_linesInWay, Cond.instanceMethod yX3_linesInWay]
def wsL_stream_r7 : List Cond := [Cond.selects RX3 yX3_linesInWay yX3_linesInWay, Cond.code yX3_linesInWay cX3_linesInWay 5 (some .int), Cond.methodLink RX3 35 yX3_holdsLineOf, Cond.methodLink RX6 94 yX2_halve, Cond.instanceMethod yX2_halve, Cond.selects RX2 yX2_halve yX2_halve, Cond.code yX2_halve cX2_halve 2 none]
def wsL_stream : List Cond := .codeWith yL_stream cL_stream 7 (some .int) [(0, 14, 17, 13), (0, 14, 21, 15)] :: ((wsL_stream_r1 ++ (wsL_stream_r2 ++ (wsL_stream_r3 ++ (wsL_stream_r4 ++ (wsL_stream_r5 ++ (wsL_stream_r6 ++ wsL_stream_r7)))))) ++ wsX60 ++ wsX10 ++ wsX40 ++ wsX30 ++ wsX20 ++ wsX50 ++ (vx_atS RX6 175 "java/lang/IndexOutOfBoundsException" ["java/lang/RuntimeException", "java/lang/Exception"]).filter goodWord ++ (vx_atS RX6 208 "java/lang/IllegalArgumentException" ["java/lang/RuntimeException", "java/lang/Exception"]).filter goodWord)
def wsL_flush_r1 : List Cond := [Cond.classLink RL 13 "java/lang/IndexOutOfBoundsException", Cond.methodLink RL 21 yX6_flush, Cond.instanceMethod yX6_flush, Cond.selects RX6 yX6_flush yX6_flush, Cond.initialized RX6, Cond.code yX6_flush cX6_flush 2 (some .int), Cond.fieldLink RX6 26 "PartitionedCache" "history" "LPartitionedCache$History;", Cond.fieldLink RX6 12 "PartitionedCache" "now" "LPartitionedCache$State;", Cond.fieldLink RX6 61 "PartitionedCache$State" "places" "LPartitionedCache$Places;", Cond.methodLink RX6 45 yX6_requireTenant, Cond.static yX6_requireTenant, Cond.code yX6_requireTenant cX6_requireTenant 1 none, Cond.methodLink RX6 75 yX6_requireIndex, Cond.static yX6_requireIndex, Cond.code yX6_requireIndex cX6_requireIndex 2 none, Cond.classLink RX6 171 "java/lang/IndexOutOfBoundsException", Cond.initialized "java/lang/IndexOutOfBoundsException", Cond.methodLink RX6 53 yX1_push, Cond.instanceMethod yX1_push, Cond.selects RX1 yX1_push yX1_push, Cond.initialized RX1, Cond.code yX1_push cX1_push 2 none, Cond.fieldLink RX1 11 "PartitionedCache$History" "ring" "[LPartitionedCache$State;", Cond.fieldLink RX1 17 "PartitionedCache$History" "oldest" "I"]
def wsL_flush_r2 : List Cond := [Cond.fieldLink RX1 21 "PartitionedCache$History" "size" "I", Cond.methodLink RX1 25 yX4_copyFrom, Cond.instanceMethod yX4_copyFrom, Cond.selects RX4 yX4_copyFrom yX4_copyFrom, Cond.initialized RX4, Cond.code yX4_copyFrom cX4_copyFrom 2 none, Cond.fieldLink RX4 12 "PartitionedCache$State" "places" "LPartitionedCache$Places;", Cond.fieldLink RX4 21 "PartitionedCache$State" "monitors" "LPartitionedCache$Monitors;", Cond.fieldLink RX4 25 "PartitionedCache$State" "leasts" "[I", Cond.methodLink RX4 46 arraycopyName, Cond.native arraycopyName, Cond.static arraycopyName, Cond.initialized "java/lang/System", Cond.fieldLink RX4 29 "PartitionedCache$State" "counts" "[I", Cond.fieldLink RX4 32 "PartitionedCache$State" "epoch" "I", Cond.fieldLink RX4 36 "PartitionedCache$State" "accesses" "I", Cond.methodLink RX4 39 yX3_copyFrom, Cond.instanceMethod yX3_copyFrom, Cond.selects RX3 yX3_copyFrom yX3_copyFrom, Cond.initialized RX3, Cond.code yX3_copyFrom cX3_copyFrom 2 none, Cond.fieldLink RX3 9 "PartitionedCache$Places" "owners" "[I", Cond.methodLink RX3 21 arraycopyName, Cond.fieldLink RX3 15 "PartitionedCache$Places" "held" "[I"]
def wsL_flush_r3 : List Cond := [Cond.fieldLink RX3 18 "PartitionedCache$Places" "stamps" "[I", Cond.methodLink RX4 43 yX2_copyFrom, Cond.instanceMethod yX2_copyFrom, Cond.selects RX2 yX2_copyFrom yX2_copyFrom, Cond.initialized RX2, Cond.code yX2_copyFrom cX2_copyFrom 2 none, Cond.fieldLink RX2 9 "PartitionedCache$Monitors" "addresses" "[I", Cond.methodLink RX2 18 arraycopyName, Cond.fieldLink RX2 15 "PartitionedCache$Monitors" "gains" "[I", Cond.methodLink RX6 65 yX3_removeLinesOf, Cond.instanceMethod yX3_removeLinesOf, Cond.selects RX3 yX3_removeLinesOf yX3_removeLinesOf, Cond.code yX3_removeLinesOf cX3_removeLinesOf 4 (some .int), Cond.methodLink RX3 35 yX3_holdsLineOf, Cond.instanceMethod yX3_holdsLineOf, Cond.selects RX3 yX3_holdsLineOf yX3_holdsLineOf, Cond.code yX3_holdsLineOf cX3_holdsLineOf 3 (some .boolean)]
def wsL_flush : List Cond := .codeWith yL_flush cL_flush 4 (some .int) [(0, 9, 12, 13)] :: ((wsL_flush_r1 ++ (wsL_flush_r2 ++ wsL_flush_r3)) ++ wsX60 ++ wsX40 ++ wsX10 ++ wsX30 ++ wsX20 ++ (vx_atS RX6 175 "java/lang/IndexOutOfBoundsException" ["java/lang/RuntimeException", "java/lang/Exception"]).filter goodWord)
def wsL_giveWay_r1 : List Cond := [Cond.classLink RL 13 "java/lang/IndexOutOfBoundsException", Cond.methodLink RL 25 yX6_giveWay, Cond.instanceMethod yX6_giveWay, Cond.selects RX6 yX6_giveWay yX6_giveWay, Cond.initialized RX6, Cond.code yX6_giveWay cX6_giveWay 4 (some .int), Cond.fieldLink RX6 26 "PartitionedCache" "history" "LPartitionedCache$History;", Cond.fieldLink RX6 12 "PartitionedCache" "now" "LPartitionedCache$State;", Cond.fieldLink RX6 61 "PartitionedCache$State" "places" "LPartitionedCache$Places;", Cond.fieldLink RX6 79 "PartitionedCache$Places" "owners" "[I", Cond.methodLink RX6 75 yX6_requireIndex, Cond.static yX6_requireIndex, Cond.code yX6_requireIndex cX6_requireIndex 2 none, Cond.classLink RX6 171 "java/lang/IndexOutOfBoundsException", Cond.initialized "java/lang/IndexOutOfBoundsException", Cond.methodLink RX6 45 yX6_requireTenant, Cond.static yX6_requireTenant, Cond.code yX6_requireTenant cX6_requireTenant 1 none, Cond.methodLink RX6 53 yX1_push, Cond.instanceMethod yX1_push, Cond.selects RX1 yX1_push yX1_push, Cond.initialized RX1, Cond.code yX1_push cX1_push 2 none, Cond.fieldLink RX1 11 "PartitionedCache$History" "ring" "[LPartitionedCache$State;"]
def wsL_giveWay_r2 : List Cond := [Cond.fieldLink RX1 17 "PartitionedCache$History" "oldest" "I", Cond.fieldLink RX1 21 "PartitionedCache$History" "size" "I", Cond.methodLink RX1 25 yX4_copyFrom, Cond.instanceMethod yX4_copyFrom, Cond.selects RX4 yX4_copyFrom yX4_copyFrom, Cond.initialized RX4, Cond.code yX4_copyFrom cX4_copyFrom 2 none, Cond.fieldLink RX4 12 "PartitionedCache$State" "places" "LPartitionedCache$Places;", Cond.fieldLink RX4 21 "PartitionedCache$State" "monitors" "LPartitionedCache$Monitors;", Cond.fieldLink RX4 25 "PartitionedCache$State" "leasts" "[I", Cond.methodLink RX4 46 arraycopyName, Cond.native arraycopyName, Cond.static arraycopyName, Cond.initialized "java/lang/System", Cond.fieldLink RX4 29 "PartitionedCache$State" "counts" "[I", Cond.fieldLink RX4 32 "PartitionedCache$State" "epoch" "I", Cond.fieldLink RX4 36 "PartitionedCache$State" "accesses" "I", Cond.methodLink RX4 39 yX3_copyFrom, Cond.instanceMethod yX3_copyFrom, Cond.selects RX3 yX3_copyFrom yX3_copyFrom, Cond.initialized RX3, Cond.code yX3_copyFrom cX3_copyFrom 2 none, Cond.fieldLink RX3 9 "PartitionedCache$Places" "owners" "[I", Cond.methodLink RX3 21 arraycopyName]
def wsL_giveWay_r3 : List Cond := [Cond.fieldLink RX3 15 "PartitionedCache$Places" "held" "[I", Cond.fieldLink RX3 18 "PartitionedCache$Places" "stamps" "[I", Cond.methodLink RX4 43 yX2_copyFrom, Cond.instanceMethod yX2_copyFrom, Cond.selects RX2 yX2_copyFrom yX2_copyFrom, Cond.initialized RX2, Cond.code yX2_copyFrom cX2_copyFrom 2 none, Cond.fieldLink RX2 9 "PartitionedCache$Monitors" "addresses" "[I", Cond.methodLink RX2 18 arraycopyName, Cond.fieldLink RX2 15 "PartitionedCache$Monitors" "gains" "[I"]
def wsL_giveWay : List Cond := .codeWith yL_giveWay cL_giveWay 5 (some .int) [(0, 10, 13, 13)] :: ((wsL_giveWay_r1 ++ (wsL_giveWay_r2 ++ wsL_giveWay_r3)) ++ wsX60 ++ wsX40 ++ wsX30 ++ wsX10 ++ wsX20 ++ (vx_atS RX6 175 "java/lang/IndexOutOfBoundsException" ["java/lang/RuntimeException", "java/lang/Exception"]).filter goodWord)
def wsL_setLeast_r1 : List Cond := [Cond.classLink RL 13 "java/lang/IndexOutOfBoundsException", Cond.classLink RL 15 "java/lang/IllegalArgumentException", Cond.methodLink RL 28 yX6_setLeast, Cond.instanceMethod yX6_setLeast, Cond.selects RX6 yX6_setLeast yX6_setLeast, Cond.initialized RX6, Cond.code yX6_setLeast cX6_setLeast 4 (some .int), Cond.fieldLink RX6 26 "PartitionedCache" "history" "LPartitionedCache$History;", Cond.fieldLink RX6 12 "PartitionedCache" "now" "LPartitionedCache$State;", Cond.fieldLink RX6 83 "PartitionedCache$State" "leasts" "[I", Cond.methodLink RX6 45 yX6_requireTenant, Cond.static yX6_requireTenant, Cond.code yX6_requireTenant cX6_requireTenant 1 none, Cond.methodLink RX6 75 yX6_requireIndex, Cond.static yX6_requireIndex, Cond.code yX6_requireIndex cX6_requireIndex 2 none, Cond.classLink RX6 171 "java/lang/IndexOutOfBoundsException", Cond.initialized "java/lang/IndexOutOfBoundsException", Cond.methodLink RX6 49 yX6_requireArgument, Cond.static yX6_requireArgument, Cond.code yX6_requireArgument cX6_requireArgument 3 none, Cond.classLink RX6 204 "java/lang/IllegalArgumentException", Cond.initialized "java/lang/IllegalArgumentException", Cond.methodLink RX6 53 yX1_push]
def wsL_setLeast_r2 : List Cond := [Cond.instanceMethod yX1_push, Cond.selects RX1 yX1_push yX1_push, Cond.initialized RX1, Cond.code yX1_push cX1_push 2 none, Cond.fieldLink RX1 11 "PartitionedCache$History" "ring" "[LPartitionedCache$State;", Cond.fieldLink RX1 17 "PartitionedCache$History" "oldest" "I", Cond.fieldLink RX1 21 "PartitionedCache$History" "size" "I", Cond.methodLink RX1 25 yX4_copyFrom, Cond.instanceMethod yX4_copyFrom, Cond.selects RX4 yX4_copyFrom yX4_copyFrom, Cond.initialized RX4, Cond.code yX4_copyFrom cX4_copyFrom 2 none, Cond.fieldLink RX4 12 "PartitionedCache$State" "places" "LPartitionedCache$Places;", Cond.fieldLink RX4 21 "PartitionedCache$State" "monitors" "LPartitionedCache$Monitors;", Cond.fieldLink RX4 25 "PartitionedCache$State" "leasts" "[I", Cond.methodLink RX4 46 arraycopyName, Cond.native arraycopyName, Cond.static arraycopyName, Cond.initialized "java/lang/System", Cond.fieldLink RX4 29 "PartitionedCache$State" "counts" "[I", Cond.fieldLink RX4 32 "PartitionedCache$State" "epoch" "I", Cond.fieldLink RX4 36 "PartitionedCache$State" "accesses" "I", Cond.methodLink RX4 39 yX3_copyFrom, Cond.instanceMethod yX3_copyFrom]
def wsL_setLeast_r3 : List Cond := [Cond.selects RX3 yX3_copyFrom yX3_copyFrom, Cond.initialized RX3, Cond.code yX3_copyFrom cX3_copyFrom 2 none, Cond.fieldLink RX3 9 "PartitionedCache$Places" "owners" "[I", Cond.methodLink RX3 21 arraycopyName, Cond.fieldLink RX3 15 "PartitionedCache$Places" "held" "[I", Cond.fieldLink RX3 18 "PartitionedCache$Places" "stamps" "[I", Cond.methodLink RX4 43 yX2_copyFrom, Cond.instanceMethod yX2_copyFrom, Cond.selects RX2 yX2_copyFrom yX2_copyFrom, Cond.initialized RX2, Cond.code yX2_copyFrom cX2_copyFrom 2 none, Cond.fieldLink RX2 9 "PartitionedCache$Monitors" "addresses" "[I", Cond.methodLink RX2 18 arraycopyName, Cond.fieldLink RX2 15 "PartitionedCache$Monitors" "gains" "[I"]
def wsL_setLeast : List Cond := .codeWith yL_setLeast cL_setLeast 5 (some .int) [(0, 10, 13, 13), (0, 10, 17, 15)] :: ((wsL_setLeast_r1 ++ (wsL_setLeast_r2 ++ wsL_setLeast_r3)) ++ wsX60 ++ wsX40 ++ wsX10 ++ wsX30 ++ wsX20 ++ (vx_atS RX6 175 "java/lang/IndexOutOfBoundsException" ["java/lang/RuntimeException", "java/lang/Exception"]).filter goodWord ++ (vx_atS RX6 208 "java/lang/IllegalArgumentException" ["java/lang/RuntimeException", "java/lang/Exception"]).filter goodWord)
def wsL_setEpoch_r1 : List Cond := [Cond.classLink RL 15 "java/lang/IllegalArgumentException", Cond.methodLink RL 31 yX6_setEpoch, Cond.instanceMethod yX6_setEpoch, Cond.selects RX6 yX6_setEpoch yX6_setEpoch, Cond.initialized RX6, Cond.code yX6_setEpoch cX6_setEpoch 3 (some .int), Cond.fieldLink RX6 26 "PartitionedCache" "history" "LPartitionedCache$History;", Cond.fieldLink RX6 12 "PartitionedCache" "now" "LPartitionedCache$State;", Cond.fieldLink RX6 86 "PartitionedCache$State" "epoch" "I", Cond.methodLink RX6 49 yX6_requireArgument, Cond.static yX6_requireArgument, Cond.code yX6_requireArgument cX6_requireArgument 3 none, Cond.classLink RX6 204 "java/lang/IllegalArgumentException", Cond.initialized "java/lang/IllegalArgumentException", Cond.methodLink RX6 53 yX1_push, Cond.instanceMethod yX1_push, Cond.selects RX1 yX1_push yX1_push, Cond.initialized RX1, Cond.code yX1_push cX1_push 2 none, Cond.fieldLink RX1 11 "PartitionedCache$History" "ring" "[LPartitionedCache$State;", Cond.fieldLink RX1 17 "PartitionedCache$History" "oldest" "I", Cond.fieldLink RX1 21 "PartitionedCache$History" "size" "I", Cond.methodLink RX1 25 yX4_copyFrom, Cond.instanceMethod yX4_copyFrom]
def wsL_setEpoch_r2 : List Cond := [Cond.selects RX4 yX4_copyFrom yX4_copyFrom, Cond.initialized RX4, Cond.code yX4_copyFrom cX4_copyFrom 2 none, Cond.fieldLink RX4 12 "PartitionedCache$State" "places" "LPartitionedCache$Places;", Cond.fieldLink RX4 21 "PartitionedCache$State" "monitors" "LPartitionedCache$Monitors;", Cond.fieldLink RX4 25 "PartitionedCache$State" "leasts" "[I", Cond.methodLink RX4 46 arraycopyName, Cond.native arraycopyName, Cond.static arraycopyName, Cond.initialized "java/lang/System", Cond.fieldLink RX4 29 "PartitionedCache$State" "counts" "[I", Cond.fieldLink RX4 32 "PartitionedCache$State" "epoch" "I", Cond.fieldLink RX4 36 "PartitionedCache$State" "accesses" "I", Cond.methodLink RX4 39 yX3_copyFrom, Cond.instanceMethod yX3_copyFrom, Cond.selects RX3 yX3_copyFrom yX3_copyFrom, Cond.initialized RX3, Cond.code yX3_copyFrom cX3_copyFrom 2 none, Cond.fieldLink RX3 9 "PartitionedCache$Places" "owners" "[I", Cond.methodLink RX3 21 arraycopyName, Cond.fieldLink RX3 15 "PartitionedCache$Places" "held" "[I", Cond.fieldLink RX3 18 "PartitionedCache$Places" "stamps" "[I", Cond.methodLink RX4 43 yX2_copyFrom, Cond.instanceMethod yX2_copyFrom]
def wsL_setEpoch_r3 : List Cond := [Cond.selects RX2 yX2_copyFrom yX2_copyFrom, Cond.initialized RX2, Cond.code yX2_copyFrom cX2_copyFrom 2 none, Cond.fieldLink RX2 9 "PartitionedCache$Monitors" "addresses" "[I", Cond.methodLink RX2 18 arraycopyName, Cond.fieldLink RX2 15 "PartitionedCache$Monitors" "gains" "[I"]
def wsL_setEpoch : List Cond := .codeWith yL_setEpoch cL_setEpoch 4 (some .int) [(0, 9, 12, 15)] :: ((wsL_setEpoch_r1 ++ (wsL_setEpoch_r2 ++ wsL_setEpoch_r3)) ++ wsX60 ++ wsX40 ++ wsX10 ++ wsX30 ++ wsX20 ++ (vx_atS RX6 208 "java/lang/IllegalArgumentException" ["java/lang/RuntimeException", "java/lang/Exception"]).filter goodWord)
def wsL_appendText : List Cond := .codeWith yL_appendText cL_appendText 4 (some .int) [(0, 9, 12, 15), (0, 9, 15, 37)] :: ([.classLink RL 15 "java/lang/IllegalArgumentException", .classLink RL 37 "java/lang/IllegalStateException", .methodLink RL 34 yX6_appendText, .instanceMethod yX6_appendText, .selects RX6 yX6_appendText yX6_appendText, .initialized RX6, .code yX6_appendText cX6_appendText 2 (some .int), .classLink RX6 105 "java/lang/IllegalStateException", .initialized "java/lang/IllegalStateException", .fieldLink RX6 33 "PartitionedCache" "text" "LPartitionedCache$CommandText;", .fieldLink RX6 102 "PartitionedCache$CommandText" "length" "I", .methodLink RX6 49 yX6_requireArgument, .static yX6_requireArgument, .code yX6_requireArgument cX6_requireArgument 3 none, .classLink RX6 204 "java/lang/IllegalArgumentException", .initialized "java/lang/IllegalArgumentException", .methodLink RX6 112 yX0_append, .instanceMethod yX0_append, .selects RX0 yX0_append yX0_append, .initialized RX0, .code yX0_append cX0_append 2 none, .fieldLink RX0 15 "PartitionedCache$CommandText" "length" "I", .fieldLink RX0 9 "PartitionedCache$CommandText" "signs" "[C"] ++ wsX60 ++ wsX00 ++ (vx_atS RX6 109 "java/lang/IllegalStateException" ["java/lang/RuntimeException", "java/lang/Exception"]).filter goodWord ++ (vx_atS RX6 208 "java/lang/IllegalArgumentException" ["java/lang/RuntimeException", "java/lang/Exception"]).filter goodWord)
def wsL_runText_r1 : List Cond := [Cond.classLink RL 37 "java/lang/IllegalStateException", Cond.methodLink RL 39 yX6_runText, Cond.instanceMethod yX6_runText, Cond.selects RX6 yX6_runText yX6_runText, Cond.initialized RX6, Cond.code yX6_runText cX6_runText 3 (some .int), Cond.classLink RX6 105 "java/lang/IllegalStateException", Cond.initialized "java/lang/IllegalStateException", Cond.fieldLink RX6 33 "PartitionedCache" "text" "LPartitionedCache$CommandText;", Cond.fieldLink RX6 26 "PartitionedCache" "history" "LPartitionedCache$History;", Cond.fieldLink RX6 12 "PartitionedCache" "now" "LPartitionedCache$State;", Cond.fieldLink RX6 102 "PartitionedCache$CommandText" "length" "I", Cond.methodLink RX6 116 yX0_firstError, Cond.instanceMethod yX0_firstError, Cond.selects RX0 yX0_firstError yX0_firstError, Cond.initialized RX0, Cond.code yX0_firstError cX0_firstError 6 (some .int), Cond.fieldLink RX0 15 "PartitionedCache$CommandText" "length" "I", Cond.methodLink RX0 19 yX0_signAt, Cond.instanceMethod yX0_signAt, Cond.selects RX0 yX0_signAt yX0_signAt, Cond.code yX0_signAt cX0_signAt 2 (some .int), Cond.fieldLink RX0 9 "PartitionedCache$CommandText" "signs" "[C", Cond.methodLink RX0 27 yX0_stageAfter]
def wsL_runText_r2 : List Cond := [Cond.static yX0_stageAfter, Cond.code yX0_stageAfter cX0_stageAfter 3 (some .int), Cond.methodLink RX0 31 yX0_stageAfterFirst, Cond.static yX0_stageAfterFirst, Cond.code yX0_stageAfterFirst cX0_stageAfterFirst 1 (some .int), Cond.methodLink RX0 38 yX0_isTenantDigit, Cond.static yX0_isTenantDigit, Cond.code yX0_isTenantDigit cX0_isTenantDigit 1 (some .boolean), Cond.methodLink RX0 23 yX0_isDigit, Cond.static yX0_isDigit, Cond.code yX0_isDigit cX0_isDigit 1 (some .boolean), Cond.methodLink RX0 34 yX0_mayGoOn, Cond.static yX0_mayGoOn, Cond.code yX0_mayGoOn cX0_mayGoOn 2 (some .boolean), Cond.methodLink RX6 53 yX1_push, Cond.instanceMethod yX1_push, Cond.selects RX1 yX1_push yX1_push, Cond.initialized RX1, Cond.code yX1_push cX1_push 2 none, Cond.fieldLink RX1 11 "PartitionedCache$History" "ring" "[LPartitionedCache$State;", Cond.fieldLink RX1 17 "PartitionedCache$History" "oldest" "I", Cond.fieldLink RX1 21 "PartitionedCache$History" "size" "I", Cond.methodLink RX1 25 yX4_copyFrom, Cond.instanceMethod yX4_copyFrom]
def wsL_runText_r3 : List Cond := [Cond.selects RX4 yX4_copyFrom yX4_copyFrom, Cond.initialized RX4, Cond.code yX4_copyFrom cX4_copyFrom 2 none, Cond.fieldLink RX4 12 "PartitionedCache$State" "places" "LPartitionedCache$Places;", Cond.fieldLink RX4 21 "PartitionedCache$State" "monitors" "LPartitionedCache$Monitors;", Cond.fieldLink RX4 25 "PartitionedCache$State" "leasts" "[I", Cond.methodLink RX4 46 arraycopyName, Cond.native arraycopyName, Cond.static arraycopyName, Cond.initialized "java/lang/System", Cond.fieldLink RX4 29 "PartitionedCache$State" "counts" "[I", Cond.fieldLink RX4 32 "PartitionedCache$State" "epoch" "I", Cond.fieldLink RX4 36 "PartitionedCache$State" "accesses" "I", Cond.methodLink RX4 39 yX3_copyFrom, Cond.instanceMethod yX3_copyFrom, Cond.selects RX3 yX3_copyFrom yX3_copyFrom, Cond.initialized RX3, Cond.code yX3_copyFrom cX3_copyFrom 2 none, Cond.fieldLink RX3 9 "PartitionedCache$Places" "owners" "[I", Cond.methodLink RX3 21 arraycopyName, Cond.fieldLink RX3 15 "PartitionedCache$Places" "held" "[I", Cond.fieldLink RX3 18 "PartitionedCache$Places" "stamps" "[I", Cond.methodLink RX4 43 yX2_copyFrom, Cond.instanceMethod yX2_copyFrom]
def wsL_runText_r4 : List Cond := [Cond.selects RX2 yX2_copyFrom yX2_copyFrom, Cond.initialized RX2, Cond.code yX2_copyFrom cX2_copyFrom 2 none, Cond.fieldLink RX2 9 "PartitionedCache$Monitors" "addresses" "[I", Cond.methodLink RX2 18 arraycopyName, Cond.fieldLink RX2 15 "PartitionedCache$Monitors" "gains" "[I", Cond.methodLink RX6 121 yX0_commandBeginsAt, Cond.instanceMethod yX0_commandBeginsAt, Cond.selects RX0 yX0_commandBeginsAt yX0_commandBeginsAt, Cond.code yX0_commandBeginsAt cX0_commandBeginsAt 2 (some .boolean), Cond.methodLink RX6 125 yX6_runCommand, Cond.instanceMethod yX6_runCommand, Cond.selects RX6 yX6_runCommand yX6_runCommand, Cond.code yX6_runCommand cX6_runCommand 5 (some .int), Cond.fieldLink RX6 90 "PartitionedCache$State" "monitors" "LPartitionedCache$Monitors;", Cond.fieldLink RX6 61 "PartitionedCache$State" "places" "LPartitionedCache$Places;", Cond.methodLink RX6 228 yX0_signAt, Cond.methodLink RX6 71 yX6_moveOneWay, Cond.instanceMethod yX6_moveOneWay, Cond.selects RX6 yX6_moveOneWay yX6_moveOneWay, Cond.code yX6_moveOneWay cX6_moveOneWay 4 (some .int), Cond.fieldLink RX6 19 "PartitionedCache" "targets" "LPartitionedCache$Targets;", Cond.fieldLink RX6 79 "PartitionedCache$Places" "owners" "[I", Cond.methodLink RX6 182 yX5_compute]
def wsL_runText_r5 : List Cond := [Cond.instanceMethod yX5_compute, Cond.selects RX5 yX5_compute yX5_compute, Cond.initialized RX5, Cond.code yX5_compute cX5_compute 4 none, Cond.fieldLink RX5 9 "PartitionedCache$Targets" "ways" "[I", Cond.fieldLink RX5 15 "PartitionedCache$State" "leasts" "[I", Cond.fieldLink RX5 20 "PartitionedCache$State" "monitors" "LPartitionedCache$Monitors;", Cond.methodLink RX5 24 yX5_growOne, Cond.instanceMethod yX5_growOne, Cond.selects RX5 yX5_growOne yX5_growOne, Cond.code yX5_growOne cX5_growOne 9 (some .int), Cond.fieldLink RX5 28 "PartitionedCache$Monitors" "gains" "[I", Cond.methodLink RX5 33 yX5_lowest, Cond.instanceMethod yX5_lowest, Cond.selects RX5 yX5_lowest yX5_lowest, Cond.code yX5_lowest cX5_lowest 3 (some .int), Cond.methodLink RX6 188 yX6_deficitOf, Cond.instanceMethod yX6_deficitOf, Cond.selects RX6 yX6_deficitOf yX6_deficitOf, Cond.code yX6_deficitOf cX6_deficitOf 2 (some .int), Cond.fieldLink RX6 185 "PartitionedCache$Targets" "ways" "[I", Cond.methodLink RX6 144 yX3_ownedWays, Cond.instanceMethod yX3_ownedWays, Cond.selects RX3 yX3_ownedWays yX3_ownedWays]
def wsL_runText_r6 : List Cond := [Cond.code yX3_ownedWays cX3_ownedWays 4 (some .int), Cond.methodLink RX6 225 yX3_wayWithFewestLines, Cond.instanceMethod yX3_wayWithFewestLines, Cond.selects RX3 yX3_wayWithFewestLines yX3_wayWithFewestLines, Cond.code yX3_wayWithFewestLines cX3_wayWithFewestLines 5 (some .int), Cond.methodLink RX3 39 yX3_linesInWay, Cond.instanceMethod yX3_linesInWay, Cond.selects RX3 yX3_linesInWay yX3_linesInWay, Cond.code yX3_linesInWay cX3_linesInWay 5 (some .int), Cond.methodLink RX3 35 yX3_holdsLineOf, Cond.instanceMethod yX3_holdsLineOf, Cond.selects RX3 yX3_holdsLineOf yX3_holdsLineOf, Cond.code yX3_holdsLineOf cX3_holdsLineOf 3 (some .boolean), Cond.methodLink RX6 94 yX2_halve, Cond.instanceMethod yX2_halve, Cond.selects RX2 yX2_halve yX2_halve, Cond.code yX2_halve cX2_halve 2 none, Cond.methodLink RX6 65 yX3_removeLinesOf, Cond.instanceMethod yX3_removeLinesOf, Cond.selects RX3 yX3_removeLinesOf yX3_removeLinesOf, Cond.code yX3_removeLinesOf cX3_removeLinesOf 4 (some .int), Cond.methodLink RX6 231 yX0_numberAt, Cond.instanceMethod yX0_numberAt, Cond.selects RX0 yX0_numberAt yX0_numberAt]
def wsL_runText_r7 : List Cond := [Cond.code yX0_numberAt cX0_numberAt 4 (some .int), Cond.methodLink RX6 57 yX6_makeAccess, Cond.instanceMethod yX6_makeAccess, Cond.selects RX6 yX6_makeAccess yX6_makeAccess, Cond.code yX6_makeAccess cX6_makeAccess 4 (some .int), Cond.fieldLink RX6 199 "PartitionedCache$State" "accesses" "I", Cond.fieldLink RX6 196 "PartitionedCache$State" "counts" "[I", Cond.fieldLink RX6 86 "PartitionedCache$State" "epoch" "I", Cond.methodLink RX6 209 yX2_note, Cond.instanceMethod yX2_note, Cond.selects RX2 yX2_note yX2_note, Cond.code yX2_note cX2_note 7 none, Cond.static yX6_isSampled, Cond.code yX6_isSampled cX6_isSampled 1 (some .boolean), Cond.static yX6_listStart, Cond.code yX6_listStart cX6_listStart 2 (some .int), Cond.methodLink RX6 156 yX3_resultOf, Cond.instanceMethod yX3_resultOf, Cond.selects RX3 yX3_resultOf yX3_resultOf, Cond.code yX3_resultOf cX3_resultOf 3 (some .int), Cond.methodLink RX3 27 yX3_placeOf, Cond.instanceMethod yX3_placeOf, Cond.selects RX3 yX3_placeOf yX3_placeOf, Cond.code yX3_placeOf cX3_placeOf 5 (some .int)]
def wsL_runText_r8 : List Cond := [Cond.methodLink RX3 31 yX3_ownedWays, Cond.methodLink RX6 212 yX3_renew, Cond.instanceMethod yX3_renew, Cond.selects RX3 yX3_renew yX3_renew, Cond.code yX3_renew cX3_renew 5 none, Cond.methodLink RX6 215 yX6_bringIn, Cond.instanceMethod yX6_bringIn, Cond.selects RX6 yX6_bringIn yX6_bringIn, Cond.code yX6_bringIn cX6_bringIn 5 none, Cond.fieldLink RX6 147 "PartitionedCache$Places" "held" "[I", Cond.fieldLink RX6 222 "PartitionedCache$Places" "stamps" "[I", Cond.methodLink RX6 159 yX3_placeToFill, Cond.instanceMethod yX3_placeToFill, Cond.selects RX3 yX3_placeToFill yX3_placeToFill, Cond.code yX3_placeToFill cX3_placeToFill 7 (some .int), Cond.methodLink RX6 218 yX3_holdsLineOf]
def wsL_runText : List Cond := .codeWith yL_runText cL_runText 3 (some .int) [(0, 8, 11, 37)] :: ((wsL_runText_r1 ++ (wsL_runText_r2 ++ (wsL_runText_r3 ++ (wsL_runText_r4 ++ (wsL_runText_r5 ++ (wsL_runText_r6 ++ (wsL_runText_r7 ++ wsL_runText_r8))))))) ++ wsX60 ++ wsX00 ++ wsX10 ++ wsX40 ++ wsX30 ++ wsX20 ++ wsX50 ++ (vx_atS RX6 109 "java/lang/IllegalStateException" ["java/lang/RuntimeException", "java/lang/Exception"]).filter goodWord)
def wsL_undo_r1 : List Cond := [Cond.classLink RL 37 "java/lang/IllegalStateException", Cond.methodLink RL 43 yX6_undo, Cond.instanceMethod yX6_undo, Cond.selects RX6 yX6_undo yX6_undo, Cond.initialized RX6, Cond.code yX6_undo cX6_undo 1 (some .int), Cond.classLink RX6 105 "java/lang/IllegalStateException", Cond.initialized "java/lang/IllegalStateException", Cond.fieldLink RX6 26 "PartitionedCache" "history" "LPartitionedCache$History;", Cond.fieldLink RX6 128 "PartitionedCache$History" "size" "I", Cond.fieldLink RX6 12 "PartitionedCache" "now" "LPartitionedCache$State;", Cond.methodLink RX6 133 yX1_popInto, Cond.instanceMethod yX1_popInto, Cond.selects RX1 yX1_popInto yX1_popInto, Cond.initialized RX1, Cond.code yX1_popInto cX1_popInto 2 none, Cond.fieldLink RX1 21 "PartitionedCache$History" "size" "I", Cond.fieldLink RX1 11 "PartitionedCache$History" "ring" "[LPartitionedCache$State;", Cond.fieldLink RX1 17 "PartitionedCache$History" "oldest" "I", Cond.methodLink RX1 25 yX4_copyFrom, Cond.instanceMethod yX4_copyFrom, Cond.selects RX4 yX4_copyFrom yX4_copyFrom, Cond.initialized RX4, Cond.code yX4_copyFrom cX4_copyFrom 2 none]
def wsL_undo_r2 : List Cond := [Cond.fieldLink RX4 12 "PartitionedCache$State" "places" "LPartitionedCache$Places;", Cond.fieldLink RX4 21 "PartitionedCache$State" "monitors" "LPartitionedCache$Monitors;", Cond.fieldLink RX4 25 "PartitionedCache$State" "leasts" "[I", Cond.methodLink RX4 46 arraycopyName, Cond.native arraycopyName, Cond.static arraycopyName, Cond.initialized "java/lang/System", Cond.fieldLink RX4 29 "PartitionedCache$State" "counts" "[I", Cond.fieldLink RX4 32 "PartitionedCache$State" "epoch" "I", Cond.fieldLink RX4 36 "PartitionedCache$State" "accesses" "I", Cond.methodLink RX4 39 yX3_copyFrom, Cond.instanceMethod yX3_copyFrom, Cond.selects RX3 yX3_copyFrom yX3_copyFrom, Cond.initialized RX3, Cond.code yX3_copyFrom cX3_copyFrom 2 none, Cond.fieldLink RX3 9 "PartitionedCache$Places" "owners" "[I", Cond.methodLink RX3 21 arraycopyName, Cond.fieldLink RX3 15 "PartitionedCache$Places" "held" "[I", Cond.fieldLink RX3 18 "PartitionedCache$Places" "stamps" "[I", Cond.methodLink RX4 43 yX2_copyFrom, Cond.instanceMethod yX2_copyFrom, Cond.selects RX2 yX2_copyFrom yX2_copyFrom, Cond.initialized RX2, Cond.code yX2_copyFrom cX2_copyFrom 2 none]
def wsL_undo_r3 : List Cond := [Cond.fieldLink RX2 9 "PartitionedCache$Monitors" "addresses" "[I", Cond.methodLink RX2 18 arraycopyName, Cond.fieldLink RX2 15 "PartitionedCache$Monitors" "gains" "[I"]
def wsL_undo : List Cond := .codeWith yL_undo cL_undo 3 (some .int) [(0, 8, 11, 37)] :: ((wsL_undo_r1 ++ (wsL_undo_r2 ++ wsL_undo_r3)) ++ wsX60 ++ wsX10 ++ wsX40 ++ wsX30 ++ wsX20 ++ (vx_atS RX6 109 "java/lang/IllegalStateException" ["java/lang/RuntimeException", "java/lang/Exception"]).filter goodWord)
def wsL_save_r1 : List Cond := [Cond.classLink RL 13 "java/lang/IndexOutOfBoundsException", Cond.methodLink RL 46 yX6_save, Cond.instanceMethod yX6_save, Cond.selects RX6 yX6_save yX6_save, Cond.initialized RX6, Cond.code yX6_save cX6_save 2 (some .int), Cond.fieldLink RX6 37 "PartitionedCache" "slots" "[LPartitionedCache$State;", Cond.fieldLink RX6 12 "PartitionedCache" "now" "LPartitionedCache$State;", Cond.fieldLink RX6 41 "PartitionedCache" "slotFilled" "[Z", Cond.fieldLink RX6 61 "PartitionedCache$State" "places" "LPartitionedCache$Places;", Cond.methodLink RX6 75 yX6_requireIndex, Cond.static yX6_requireIndex, Cond.code yX6_requireIndex cX6_requireIndex 2 none, Cond.classLink RX6 171 "java/lang/IndexOutOfBoundsException", Cond.initialized "java/lang/IndexOutOfBoundsException", Cond.methodLink RX6 136 yX4_copyFrom, Cond.instanceMethod yX4_copyFrom, Cond.selects RX4 yX4_copyFrom yX4_copyFrom, Cond.initialized RX4, Cond.code yX4_copyFrom cX4_copyFrom 2 none, Cond.fieldLink RX4 12 "PartitionedCache$State" "places" "LPartitionedCache$Places;", Cond.fieldLink RX4 21 "PartitionedCache$State" "monitors" "LPartitionedCache$Monitors;", Cond.fieldLink RX4 25 "PartitionedCache$State" "leasts" "[I", Cond.methodLink RX4 46 arraycopyName]
def wsL_save_r2 : List Cond := [Cond.native arraycopyName, Cond.static arraycopyName, Cond.initialized "java/lang/System", Cond.fieldLink RX4 29 "PartitionedCache$State" "counts" "[I", Cond.fieldLink RX4 32 "PartitionedCache$State" "epoch" "I", Cond.fieldLink RX4 36 "PartitionedCache$State" "accesses" "I", Cond.methodLink RX4 39 yX3_copyFrom, Cond.instanceMethod yX3_copyFrom, Cond.selects RX3 yX3_copyFrom yX3_copyFrom, Cond.initialized RX3, Cond.code yX3_copyFrom cX3_copyFrom 2 none, Cond.fieldLink RX3 9 "PartitionedCache$Places" "owners" "[I", Cond.methodLink RX3 21 arraycopyName, Cond.fieldLink RX3 15 "PartitionedCache$Places" "held" "[I", Cond.fieldLink RX3 18 "PartitionedCache$Places" "stamps" "[I", Cond.methodLink RX4 43 yX2_copyFrom, Cond.instanceMethod yX2_copyFrom, Cond.selects RX2 yX2_copyFrom yX2_copyFrom, Cond.initialized RX2, Cond.code yX2_copyFrom cX2_copyFrom 2 none, Cond.fieldLink RX2 9 "PartitionedCache$Monitors" "addresses" "[I", Cond.methodLink RX2 18 arraycopyName, Cond.fieldLink RX2 15 "PartitionedCache$Monitors" "gains" "[I", Cond.methodLink RX6 139 yX3_allLines]
def wsL_save_r3 : List Cond := [Cond.instanceMethod yX3_allLines, Cond.selects RX3 yX3_allLines yX3_allLines, Cond.code yX3_allLines cX3_allLines 3 (some .int), Cond.methodLink RX3 42 yX3_linesOf, Cond.instanceMethod yX3_linesOf, Cond.selects RX3 yX3_linesOf yX3_linesOf, Cond.code yX3_linesOf cX3_linesOf 4 (some .int), Cond.methodLink RX3 39 yX3_linesInWay, Cond.instanceMethod yX3_linesInWay, Cond.selects RX3 yX3_linesInWay yX3_linesInWay, Cond.code yX3_linesInWay cX3_linesInWay 5 (some .int), Cond.methodLink RX3 35 yX3_holdsLineOf, Cond.instanceMethod yX3_holdsLineOf, Cond.selects RX3 yX3_holdsLineOf yX3_holdsLineOf, Cond.code yX3_holdsLineOf cX3_holdsLineOf 3 (some .boolean)]
def wsL_save : List Cond := .codeWith yL_save cL_save 4 (some .int) [(0, 9, 12, 13)] :: ((wsL_save_r1 ++ (wsL_save_r2 ++ wsL_save_r3)) ++ wsX60 ++ wsX40 ++ wsX30 ++ wsX20 ++ (vx_atS RX6 175 "java/lang/IndexOutOfBoundsException" ["java/lang/RuntimeException", "java/lang/Exception"]).filter goodWord)
def wsL_restore_r1 : List Cond := [Cond.classLink RL 13 "java/lang/IndexOutOfBoundsException", Cond.classLink RL 37 "java/lang/IllegalStateException", Cond.methodLink RL 49 yX6_restore, Cond.instanceMethod yX6_restore, Cond.selects RX6 yX6_restore yX6_restore, Cond.initialized RX6, Cond.code yX6_restore cX6_restore 2 (some .int), Cond.classLink RX6 105 "java/lang/IllegalStateException", Cond.initialized "java/lang/IllegalStateException", Cond.fieldLink RX6 41 "PartitionedCache" "slotFilled" "[Z", Cond.fieldLink RX6 26 "PartitionedCache" "history" "LPartitionedCache$History;", Cond.fieldLink RX6 12 "PartitionedCache" "now" "LPartitionedCache$State;", Cond.fieldLink RX6 37 "PartitionedCache" "slots" "[LPartitionedCache$State;", Cond.fieldLink RX6 61 "PartitionedCache$State" "places" "LPartitionedCache$Places;", Cond.methodLink RX6 75 yX6_requireIndex, Cond.static yX6_requireIndex, Cond.code yX6_requireIndex cX6_requireIndex 2 none, Cond.classLink RX6 171 "java/lang/IndexOutOfBoundsException", Cond.initialized "java/lang/IndexOutOfBoundsException", Cond.methodLink RX6 53 yX1_push, Cond.instanceMethod yX1_push, Cond.selects RX1 yX1_push yX1_push, Cond.initialized RX1, Cond.code yX1_push cX1_push 2 none]
def wsL_restore_r2 : List Cond := [Cond.fieldLink RX1 11 "PartitionedCache$History" "ring" "[LPartitionedCache$State;", Cond.fieldLink RX1 17 "PartitionedCache$History" "oldest" "I", Cond.fieldLink RX1 21 "PartitionedCache$History" "size" "I", Cond.methodLink RX1 25 yX4_copyFrom, Cond.instanceMethod yX4_copyFrom, Cond.selects RX4 yX4_copyFrom yX4_copyFrom, Cond.initialized RX4, Cond.code yX4_copyFrom cX4_copyFrom 2 none, Cond.fieldLink RX4 12 "PartitionedCache$State" "places" "LPartitionedCache$Places;", Cond.fieldLink RX4 21 "PartitionedCache$State" "monitors" "LPartitionedCache$Monitors;", Cond.fieldLink RX4 25 "PartitionedCache$State" "leasts" "[I", Cond.methodLink RX4 46 arraycopyName, Cond.native arraycopyName, Cond.static arraycopyName, Cond.initialized "java/lang/System", Cond.fieldLink RX4 29 "PartitionedCache$State" "counts" "[I", Cond.fieldLink RX4 32 "PartitionedCache$State" "epoch" "I", Cond.fieldLink RX4 36 "PartitionedCache$State" "accesses" "I", Cond.methodLink RX4 39 yX3_copyFrom, Cond.instanceMethod yX3_copyFrom, Cond.selects RX3 yX3_copyFrom yX3_copyFrom, Cond.initialized RX3, Cond.code yX3_copyFrom cX3_copyFrom 2 none, Cond.fieldLink RX3 9 "PartitionedCache$Places" "owners" "[I"]
def wsL_restore_r3 : List Cond := [Cond.methodLink RX3 21 arraycopyName, Cond.fieldLink RX3 15 "PartitionedCache$Places" "held" "[I", Cond.fieldLink RX3 18 "PartitionedCache$Places" "stamps" "[I", Cond.methodLink RX4 43 yX2_copyFrom, Cond.instanceMethod yX2_copyFrom, Cond.selects RX2 yX2_copyFrom yX2_copyFrom, Cond.initialized RX2, Cond.code yX2_copyFrom cX2_copyFrom 2 none, Cond.fieldLink RX2 9 "PartitionedCache$Monitors" "addresses" "[I", Cond.methodLink RX2 18 arraycopyName, Cond.fieldLink RX2 15 "PartitionedCache$Monitors" "gains" "[I", Cond.methodLink RX6 136 yX4_copyFrom, Cond.methodLink RX6 139 yX3_allLines, Cond.instanceMethod yX3_allLines, Cond.selects RX3 yX3_allLines yX3_allLines, Cond.code yX3_allLines cX3_allLines 3 (some .int), Cond.methodLink RX3 42 yX3_linesOf, Cond.instanceMethod yX3_linesOf, Cond.selects RX3 yX3_linesOf yX3_linesOf, Cond.code yX3_linesOf cX3_linesOf 4 (some .int), Cond.methodLink RX3 39 yX3_linesInWay, Cond.instanceMethod yX3_linesInWay, Cond.selects RX3 yX3_linesInWay yX3_linesInWay, Cond.code yX3_linesInWay cX3_linesInWay 5 (some .int)]
def wsL_restore_r4 : List Cond := [Cond.methodLink RX3 35 yX3_holdsLineOf, Cond.instanceMethod yX3_holdsLineOf, Cond.selects RX3 yX3_holdsLineOf yX3_holdsLineOf, Cond.code yX3_holdsLineOf cX3_holdsLineOf 3 (some .boolean)]
def wsL_restore : List Cond := .codeWith yL_restore cL_restore 4 (some .int) [(0, 9, 12, 13), (0, 9, 15, 37)] :: ((wsL_restore_r1 ++ (wsL_restore_r2 ++ (wsL_restore_r3 ++ wsL_restore_r4))) ++ wsX60 ++ wsX40 ++ wsX10 ++ wsX30 ++ wsX20 ++ (vx_atS RX6 109 "java/lang/IllegalStateException" ["java/lang/RuntimeException", "java/lang/Exception"]).filter goodWord ++ (vx_atS RX6 175 "java/lang/IndexOutOfBoundsException" ["java/lang/RuntimeException", "java/lang/Exception"]).filter goodWord)
def wsL_owner : List Cond := .codeWith yL_owner cL_owner 4 (some .int) [(0, 9, 12, 13)] :: ([.classLink RL 13 "java/lang/IndexOutOfBoundsException", .methodLink RL 52 yX6_owner, .instanceMethod yX6_owner, .selects RX6 yX6_owner yX6_owner, .initialized RX6, .code yX6_owner cX6_owner 2 (some .int), .fieldLink RX6 12 "PartitionedCache" "now" "LPartitionedCache$State;", .fieldLink RX6 61 "PartitionedCache$State" "places" "LPartitionedCache$Places;", .fieldLink RX6 79 "PartitionedCache$Places" "owners" "[I", .methodLink RX6 75 yX6_requireIndex, .static yX6_requireIndex, .code yX6_requireIndex cX6_requireIndex 2 none, .classLink RX6 171 "java/lang/IndexOutOfBoundsException", .initialized "java/lang/IndexOutOfBoundsException"] ++ wsX60 ++ wsX40 ++ wsX30 ++ (vx_atS RX6 175 "java/lang/IndexOutOfBoundsException" ["java/lang/RuntimeException", "java/lang/Exception"]).filter goodWord)
def wsL_waysOf : List Cond := .codeWith yL_waysOf cL_waysOf 4 (some .int) [(0, 9, 12, 13)] :: ([.classLink RL 13 "java/lang/IndexOutOfBoundsException", .methodLink RL 55 yX6_waysOf, .instanceMethod yX6_waysOf, .selects RX6 yX6_waysOf yX6_waysOf, .initialized RX6, .code yX6_waysOf cX6_waysOf 2 (some .int), .fieldLink RX6 12 "PartitionedCache" "now" "LPartitionedCache$State;", .fieldLink RX6 61 "PartitionedCache$State" "places" "LPartitionedCache$Places;", .methodLink RX6 45 yX6_requireTenant, .static yX6_requireTenant, .code yX6_requireTenant cX6_requireTenant 1 none, .methodLink RX6 75 yX6_requireIndex, .static yX6_requireIndex, .code yX6_requireIndex cX6_requireIndex 2 none, .classLink RX6 171 "java/lang/IndexOutOfBoundsException", .initialized "java/lang/IndexOutOfBoundsException", .methodLink RX6 144 yX3_ownedWays, .instanceMethod yX3_ownedWays, .selects RX3 yX3_ownedWays yX3_ownedWays, .initialized RX3, .code yX3_ownedWays cX3_ownedWays 4 (some .int), .fieldLink RX3 9 "PartitionedCache$Places" "owners" "[I"] ++ wsX60 ++ wsX40 ++ wsX30 ++ (vx_atS RX6 175 "java/lang/IndexOutOfBoundsException" ["java/lang/RuntimeException", "java/lang/Exception"]).filter goodWord)
def wsL_line : List Cond := .codeWith yL_line cL_line 5 (some .int) [(0, 10, 13, 13)] :: ([.classLink RL 13 "java/lang/IndexOutOfBoundsException", .methodLink RL 58 yX6_line, .instanceMethod yX6_line, .selects RX6 yX6_line yX6_line, .initialized RX6, .code yX6_line cX6_line 3 (some .int), .fieldLink RX6 12 "PartitionedCache" "now" "LPartitionedCache$State;", .fieldLink RX6 61 "PartitionedCache$State" "places" "LPartitionedCache$Places;", .fieldLink RX6 147 "PartitionedCache$Places" "held" "[I", .methodLink RX6 75 yX6_requireIndex, .static yX6_requireIndex, .code yX6_requireIndex cX6_requireIndex 2 none, .classLink RX6 171 "java/lang/IndexOutOfBoundsException", .initialized "java/lang/IndexOutOfBoundsException"] ++ wsX60 ++ wsX40 ++ wsX30 ++ (vx_atS RX6 175 "java/lang/IndexOutOfBoundsException" ["java/lang/RuntimeException", "java/lang/Exception"]).filter goodWord)
def wsL_lines_r1 : List Cond := [Cond.classLink RL 13 "java/lang/IndexOutOfBoundsException", Cond.methodLink RL 61 yX6_lines, Cond.instanceMethod yX6_lines, Cond.selects RX6 yX6_lines yX6_lines, Cond.initialized RX6, Cond.code yX6_lines cX6_lines 4 (some .int), Cond.fieldLink RX6 12 "PartitionedCache" "now" "LPartitionedCache$State;", Cond.fieldLink RX6 61 "PartitionedCache$State" "places" "LPartitionedCache$Places;", Cond.methodLink RX6 45 yX6_requireTenant, Cond.static yX6_requireTenant, Cond.code yX6_requireTenant cX6_requireTenant 1 none, Cond.methodLink RX6 75 yX6_requireIndex, Cond.static yX6_requireIndex, Cond.code yX6_requireIndex cX6_requireIndex 2 none, Cond.classLink RX6 171 "java/lang/IndexOutOfBoundsException", Cond.initialized "java/lang/IndexOutOfBoundsException", Cond.methodLink RX6 150 yX3_linesInOwnWays, Cond.instanceMethod yX3_linesInOwnWays, Cond.selects RX3 yX3_linesInOwnWays yX3_linesInOwnWays, Cond.initialized RX3, Cond.code yX3_linesInOwnWays cX3_linesInOwnWays 4 (some .int), Cond.fieldLink RX3 9 "PartitionedCache$Places" "owners" "[I", Cond.methodLink RX3 39 yX3_linesInWay, Cond.instanceMethod yX3_linesInWay]
def wsL_lines_r2 : List Cond := [Cond.selects RX3 yX3_linesInWay yX3_linesInWay, Cond.code yX3_linesInWay cX3_linesInWay 5 (some .int), Cond.methodLink RX3 35 yX3_holdsLineOf, Cond.instanceMethod yX3_holdsLineOf, Cond.selects RX3 yX3_holdsLineOf yX3_holdsLineOf, Cond.code yX3_holdsLineOf cX3_holdsLineOf 3 (some .boolean), Cond.fieldLink RX3 15 "PartitionedCache$Places" "held" "[I", Cond.methodLink RX6 153 yX3_linesOf, Cond.instanceMethod yX3_linesOf, Cond.selects RX3 yX3_linesOf yX3_linesOf, Cond.code yX3_linesOf cX3_linesOf 4 (some .int)]
def wsL_lines : List Cond := .codeWith yL_lines cL_lines 5 (some .int) [(0, 10, 13, 13)] :: ((wsL_lines_r1 ++ wsL_lines_r2) ++ wsX60 ++ wsX40 ++ wsX30 ++ (vx_atS RX6 175 "java/lang/IndexOutOfBoundsException" ["java/lang/RuntimeException", "java/lang/Exception"]).filter goodWord)
def wsL_ifAccessed_r1 : List Cond := [Cond.classLink RL 13 "java/lang/IndexOutOfBoundsException", Cond.classLink RL 15 "java/lang/IllegalArgumentException", Cond.methodLink RL 65 yX6_ifAccessed, Cond.instanceMethod yX6_ifAccessed, Cond.selects RX6 yX6_ifAccessed yX6_ifAccessed, Cond.initialized RX6, Cond.code yX6_ifAccessed cX6_ifAccessed 3 (some .int), Cond.fieldLink RX6 12 "PartitionedCache" "now" "LPartitionedCache$State;", Cond.fieldLink RX6 61 "PartitionedCache$State" "places" "LPartitionedCache$Places;", Cond.methodLink RX6 45 yX6_requireTenant, Cond.static yX6_requireTenant, Cond.code yX6_requireTenant cX6_requireTenant 1 none, Cond.methodLink RX6 75 yX6_requireIndex, Cond.static yX6_requireIndex, Cond.code yX6_requireIndex cX6_requireIndex 2 none, Cond.classLink RX6 171 "java/lang/IndexOutOfBoundsException", Cond.initialized "java/lang/IndexOutOfBoundsException", Cond.methodLink RX6 49 yX6_requireArgument, Cond.static yX6_requireArgument, Cond.code yX6_requireArgument cX6_requireArgument 3 none, Cond.classLink RX6 204 "java/lang/IllegalArgumentException", Cond.initialized "java/lang/IllegalArgumentException", Cond.methodLink RX6 156 yX3_resultOf, Cond.instanceMethod yX3_resultOf]
def wsL_ifAccessed_r2 : List Cond := [Cond.selects RX3 yX3_resultOf yX3_resultOf, Cond.initialized RX3, Cond.code yX3_resultOf cX3_resultOf 3 (some .int), Cond.methodLink RX3 27 yX3_placeOf, Cond.instanceMethod yX3_placeOf, Cond.selects RX3 yX3_placeOf yX3_placeOf, Cond.code yX3_placeOf cX3_placeOf 5 (some .int), Cond.fieldLink RX3 15 "PartitionedCache$Places" "held" "[I", Cond.methodLink RX3 31 yX3_ownedWays, Cond.instanceMethod yX3_ownedWays, Cond.selects RX3 yX3_ownedWays yX3_ownedWays, Cond.code yX3_ownedWays cX3_ownedWays 4 (some .int), Cond.fieldLink RX3 9 "PartitionedCache$Places" "owners" "[I"]
def wsL_ifAccessed : List Cond := .codeWith yL_ifAccessed cL_ifAccessed 5 (some .int) [(0, 10, 13, 13), (0, 10, 17, 15)] :: ((wsL_ifAccessed_r1 ++ wsL_ifAccessed_r2) ++ wsX60 ++ wsX40 ++ wsX30 ++ (vx_atS RX6 175 "java/lang/IndexOutOfBoundsException" ["java/lang/RuntimeException", "java/lang/Exception"]).filter goodWord ++ (vx_atS RX6 208 "java/lang/IllegalArgumentException" ["java/lang/RuntimeException", "java/lang/Exception"]).filter goodWord)
def wsL_victim_r1 : List Cond := [Cond.classLink RL 13 "java/lang/IndexOutOfBoundsException", Cond.classLink RL 15 "java/lang/IllegalArgumentException", Cond.methodLink RL 68 yX6_victim, Cond.instanceMethod yX6_victim, Cond.selects RX6 yX6_victim yX6_victim, Cond.initialized RX6, Cond.code yX6_victim cX6_victim 4 (some .int), Cond.fieldLink RX6 12 "PartitionedCache" "now" "LPartitionedCache$State;", Cond.fieldLink RX6 61 "PartitionedCache$State" "places" "LPartitionedCache$Places;", Cond.fieldLink RX6 147 "PartitionedCache$Places" "held" "[I", Cond.methodLink RX6 45 yX6_requireTenant, Cond.static yX6_requireTenant, Cond.code yX6_requireTenant cX6_requireTenant 1 none, Cond.methodLink RX6 75 yX6_requireIndex, Cond.static yX6_requireIndex, Cond.code yX6_requireIndex cX6_requireIndex 2 none, Cond.classLink RX6 171 "java/lang/IndexOutOfBoundsException", Cond.initialized "java/lang/IndexOutOfBoundsException", Cond.methodLink RX6 49 yX6_requireArgument, Cond.static yX6_requireArgument, Cond.code yX6_requireArgument cX6_requireArgument 3 none, Cond.classLink RX6 204 "java/lang/IllegalArgumentException", Cond.initialized "java/lang/IllegalArgumentException", Cond.methodLink RX6 156 yX3_resultOf]
def wsL_victim_r2 : List Cond := [Cond.instanceMethod yX3_resultOf, Cond.selects RX3 yX3_resultOf yX3_resultOf, Cond.initialized RX3, Cond.code yX3_resultOf cX3_resultOf 3 (some .int), Cond.methodLink RX3 27 yX3_placeOf, Cond.instanceMethod yX3_placeOf, Cond.selects RX3 yX3_placeOf yX3_placeOf, Cond.code yX3_placeOf cX3_placeOf 5 (some .int), Cond.fieldLink RX3 15 "PartitionedCache$Places" "held" "[I", Cond.methodLink RX3 31 yX3_ownedWays, Cond.instanceMethod yX3_ownedWays, Cond.selects RX3 yX3_ownedWays yX3_ownedWays, Cond.code yX3_ownedWays cX3_ownedWays 4 (some .int), Cond.fieldLink RX3 9 "PartitionedCache$Places" "owners" "[I", Cond.methodLink RX6 159 yX3_placeToFill, Cond.instanceMethod yX3_placeToFill, Cond.selects RX3 yX3_placeToFill yX3_placeToFill, Cond.code yX3_placeToFill cX3_placeToFill 7 (some .int), Cond.fieldLink RX3 18 "PartitionedCache$Places" "stamps" "[I"]
def wsL_victim : List Cond := .codeWith yL_victim cL_victim 5 (some .int) [(0, 10, 13, 13), (0, 10, 17, 15)] :: ((wsL_victim_r1 ++ wsL_victim_r2) ++ wsX60 ++ wsX40 ++ wsX30 ++ (vx_atS RX6 175 "java/lang/IndexOutOfBoundsException" ["java/lang/RuntimeException", "java/lang/Exception"]).filter goodWord ++ (vx_atS RX6 208 "java/lang/IllegalArgumentException" ["java/lang/RuntimeException", "java/lang/Exception"]).filter goodWord)
def wsL_gain : List Cond := .codeWith yL_gain cL_gain 5 (some .int) [(0, 10, 13, 13)] :: ([.classLink RL 13 "java/lang/IndexOutOfBoundsException", .methodLink RL 71 yX6_gain, .instanceMethod yX6_gain, .selects RX6 yX6_gain yX6_gain, .initialized RX6, .code yX6_gain cX6_gain 3 (some .int), .fieldLink RX6 12 "PartitionedCache" "now" "LPartitionedCache$State;", .fieldLink RX6 90 "PartitionedCache$State" "monitors" "LPartitionedCache$Monitors;", .fieldLink RX6 162 "PartitionedCache$Monitors" "gains" "[I", .methodLink RX6 45 yX6_requireTenant, .static yX6_requireTenant, .code yX6_requireTenant cX6_requireTenant 1 none, .methodLink RX6 75 yX6_requireIndex, .static yX6_requireIndex, .code yX6_requireIndex cX6_requireIndex 2 none, .classLink RX6 171 "java/lang/IndexOutOfBoundsException", .initialized "java/lang/IndexOutOfBoundsException"] ++ wsX60 ++ wsX40 ++ wsX20 ++ (vx_atS RX6 175 "java/lang/IndexOutOfBoundsException" ["java/lang/RuntimeException", "java/lang/Exception"]).filter goodWord)
def wsL_utility_r1 : List Cond := [Cond.classLink RL 13 "java/lang/IndexOutOfBoundsException", Cond.classLink RL 15 "java/lang/IllegalArgumentException", Cond.methodLink RL 74 yX6_utility, Cond.instanceMethod yX6_utility, Cond.selects RX6 yX6_utility yX6_utility, Cond.initialized RX6, Cond.code yX6_utility cX6_utility 3 (some .int), Cond.fieldLink RX6 12 "PartitionedCache" "now" "LPartitionedCache$State;", Cond.fieldLink RX6 90 "PartitionedCache$State" "monitors" "LPartitionedCache$Monitors;", Cond.methodLink RX6 45 yX6_requireTenant, Cond.static yX6_requireTenant, Cond.code yX6_requireTenant cX6_requireTenant 1 none, Cond.methodLink RX6 75 yX6_requireIndex, Cond.static yX6_requireIndex, Cond.code yX6_requireIndex cX6_requireIndex 2 none, Cond.classLink RX6 171 "java/lang/IndexOutOfBoundsException", Cond.initialized "java/lang/IndexOutOfBoundsException", Cond.methodLink RX6 49 yX6_requireArgument, Cond.static yX6_requireArgument, Cond.code yX6_requireArgument cX6_requireArgument 3 none, Cond.classLink RX6 204 "java/lang/IllegalArgumentException", Cond.initialized "java/lang/IllegalArgumentException", Cond.methodLink RX6 165 yX2_utilityOf, Cond.instanceMethod yX2_utilityOf]
def wsL_utility_r2 : List Cond := [Cond.selects RX2 yX2_utilityOf yX2_utilityOf, Cond.initialized RX2, Cond.code yX2_utilityOf cX2_utilityOf 5 (some .int), Cond.fieldLink RX2 15 "PartitionedCache$Monitors" "gains" "[I"]
def wsL_utility : List Cond := .codeWith yL_utility cL_utility 5 (some .int) [(0, 10, 13, 13), (0, 10, 17, 15)] :: ((wsL_utility_r1 ++ wsL_utility_r2) ++ wsX60 ++ wsX40 ++ wsX20 ++ (vx_atS RX6 175 "java/lang/IndexOutOfBoundsException" ["java/lang/RuntimeException", "java/lang/Exception"]).filter goodWord ++ (vx_atS RX6 208 "java/lang/IllegalArgumentException" ["java/lang/RuntimeException", "java/lang/Exception"]).filter goodWord)
def wsL_monitored : List Cond := .codeWith yL_monitored cL_monitored 6 (some .int) [(0, 12, 15, 13)] :: ([.classLink RL 13 "java/lang/IndexOutOfBoundsException", .methodLink RL 77 yX6_monitored, .instanceMethod yX6_monitored, .selects RX6 yX6_monitored yX6_monitored, .initialized RX6, .code yX6_monitored cX6_monitored 4 (some .int), .classLink RX6 171 "java/lang/IndexOutOfBoundsException", .initialized "java/lang/IndexOutOfBoundsException", .fieldLink RX6 12 "PartitionedCache" "now" "LPartitionedCache$State;", .fieldLink RX6 90 "PartitionedCache$State" "monitors" "LPartitionedCache$Monitors;", .fieldLink RX6 176 "PartitionedCache$Monitors" "addresses" "[I", .methodLink RX6 45 yX6_requireTenant, .static yX6_requireTenant, .code yX6_requireTenant cX6_requireTenant 1 none, .methodLink RX6 75 yX6_requireIndex, .static yX6_requireIndex, .code yX6_requireIndex cX6_requireIndex 2 none, .methodLink RX6 168 yX6_isSampled, .static yX6_isSampled, .code yX6_isSampled cX6_isSampled 1 (some .boolean), .methodLink RX6 179 yX6_listStart, .static yX6_listStart, .code yX6_listStart cX6_listStart 2 (some .int)] ++ wsX60 ++ wsX40 ++ wsX20 ++ (vx_atS RX6 175 "java/lang/IndexOutOfBoundsException" ["java/lang/RuntimeException", "java/lang/Exception"]).filter goodWord)
def wsL_target_r1 : List Cond := [Cond.classLink RL 13 "java/lang/IndexOutOfBoundsException", Cond.methodLink RL 81 yX6_target, Cond.instanceMethod yX6_target, Cond.selects RX6 yX6_target yX6_target, Cond.initialized RX6, Cond.code yX6_target cX6_target 2 (some .int), Cond.fieldLink RX6 19 "PartitionedCache" "targets" "LPartitionedCache$Targets;", Cond.fieldLink RX6 12 "PartitionedCache" "now" "LPartitionedCache$State;", Cond.fieldLink RX6 185 "PartitionedCache$Targets" "ways" "[I", Cond.methodLink RX6 45 yX6_requireTenant, Cond.static yX6_requireTenant, Cond.code yX6_requireTenant cX6_requireTenant 1 none, Cond.methodLink RX6 75 yX6_requireIndex, Cond.static yX6_requireIndex, Cond.code yX6_requireIndex cX6_requireIndex 2 none, Cond.classLink RX6 171 "java/lang/IndexOutOfBoundsException", Cond.initialized "java/lang/IndexOutOfBoundsException", Cond.methodLink RX6 182 yX5_compute, Cond.instanceMethod yX5_compute, Cond.selects RX5 yX5_compute yX5_compute, Cond.initialized RX5, Cond.code yX5_compute cX5_compute 4 none, Cond.fieldLink RX5 9 "PartitionedCache$Targets" "ways" "[I", Cond.fieldLink RX5 15 "PartitionedCache$State" "leasts" "[I"]
def wsL_target_r2 : List Cond := [Cond.fieldLink RX5 20 "PartitionedCache$State" "monitors" "LPartitionedCache$Monitors;", Cond.methodLink RX5 24 yX5_growOne, Cond.instanceMethod yX5_growOne, Cond.selects RX5 yX5_growOne yX5_growOne, Cond.code yX5_growOne cX5_growOne 9 (some .int), Cond.fieldLink RX5 28 "PartitionedCache$Monitors" "gains" "[I", Cond.methodLink RX5 33 yX5_lowest, Cond.instanceMethod yX5_lowest, Cond.selects RX5 yX5_lowest yX5_lowest, Cond.code yX5_lowest cX5_lowest 3 (some .int)]
def wsL_target : List Cond := .codeWith yL_target cL_target 4 (some .int) [(0, 9, 12, 13)] :: ((wsL_target_r1 ++ wsL_target_r2) ++ wsX60 ++ wsX50 ++ wsX40 ++ wsX20 ++ (vx_atS RX6 175 "java/lang/IndexOutOfBoundsException" ["java/lang/RuntimeException", "java/lang/Exception"]).filter goodWord)
def wsL_count : List Cond := .codeWith yL_count cL_count 5 (some .int) [(0, 10, 13, 13), (0, 10, 17, 15)] :: ([.classLink RL 13 "java/lang/IndexOutOfBoundsException", .classLink RL 15 "java/lang/IllegalArgumentException", .methodLink RL 84 yX6_count, .instanceMethod yX6_count, .selects RX6 yX6_count yX6_count, .initialized RX6, .code yX6_count cX6_count 3 (some .int), .fieldLink RX6 12 "PartitionedCache" "now" "LPartitionedCache$State;", .fieldLink RX6 196 "PartitionedCache$State" "counts" "[I", .methodLink RX6 45 yX6_requireTenant, .static yX6_requireTenant, .code yX6_requireTenant cX6_requireTenant 1 none, .methodLink RX6 75 yX6_requireIndex, .static yX6_requireIndex, .code yX6_requireIndex cX6_requireIndex 2 none, .classLink RX6 171 "java/lang/IndexOutOfBoundsException", .initialized "java/lang/IndexOutOfBoundsException", .methodLink RX6 49 yX6_requireArgument, .static yX6_requireArgument, .code yX6_requireArgument cX6_requireArgument 3 none, .classLink RX6 204 "java/lang/IllegalArgumentException", .initialized "java/lang/IllegalArgumentException"] ++ wsX60 ++ wsX40 ++ (vx_atS RX6 175 "java/lang/IndexOutOfBoundsException" ["java/lang/RuntimeException", "java/lang/Exception"]).filter goodWord ++ (vx_atS RX6 208 "java/lang/IllegalArgumentException" ["java/lang/RuntimeException", "java/lang/Exception"]).filter goodWord)
def wsL_hitRate : List Cond := .codeWith yL_hitRate cL_hitRate 4 (some .int) [(0, 8, 11, 13)] :: ([.classLink RL 13 "java/lang/IndexOutOfBoundsException", .methodLink RL 87 yX6_hitRate, .instanceMethod yX6_hitRate, .selects RX6 yX6_hitRate yX6_hitRate, .initialized RX6, .code yX6_hitRate cX6_hitRate 5 (some .double), .fieldLink RX6 12 "PartitionedCache" "now" "LPartitionedCache$State;", .fieldLink RX6 196 "PartitionedCache$State" "counts" "[I", .methodLink RX6 45 yX6_requireTenant, .static yX6_requireTenant, .code yX6_requireTenant cX6_requireTenant 1 none, .methodLink RX6 75 yX6_requireIndex, .static yX6_requireIndex, .code yX6_requireIndex cX6_requireIndex 2 none, .classLink RX6 171 "java/lang/IndexOutOfBoundsException", .initialized "java/lang/IndexOutOfBoundsException"] ++ wsX60 ++ wsX40 ++ (vx_atS RX6 175 "java/lang/IndexOutOfBoundsException" ["java/lang/RuntimeException", "java/lang/Exception"]).filter goodWord)
abbrev vwCl : List vw_C := [(RX0, TX0, 2), (RX1, TX1, 3), (RX2, TX2, 2), (RX3, TX3, 3), (RX4, TX4, 6), (RX5, TX5, 1), (RX6, TX6, 6), (RX7, TX7, 11)]
end
section
/-! A calculus of abstract states: a method's code is a list of steps; a step takes what holds behind it to what must hold ahead of it; the cells of a world are numbered, a reference is a number, and one function gives the addresses. -/
section GE
abbrev gD : Type := (Nat → Int32) ⊕ (Nat → Int64) ⊕ (Nat → UInt64) ⊕ List (Option Nat)
abbrev gE : Type := (Nat × Nat × gD) ⊕ (Nat × List Value)
abbrev gP : Type := List (Nat × Value) → List Value → List gE → Nat → Nat → Prop
abbrev gO : Type := (Nat → gP) → gP → gP
abbrev gK : Type := Option Value → List gE → Prop
abbrev gI (f : Nat → Int32) : gD := .inl f
def gv (ad : Nat → Nat) : Value → Value
  | .ref k => .ref (ad k)
  | v => v
def ge (cA : Nat → ClassId) (ad : Nat → Nat) : gE → va_E
  | .inr (c, fs) => .inr (c, fs.map (gv ad))
  | .inl (t, n, .inl f) => .inl (cA t, n, .inl f)
  | .inl (t, n, .inr (.inl f)) => .inl (cA t, n, .inr (.inl f))
  | .inl (t, n, .inr (.inr (.inl f))) => .inl (cA t, n, .inr (.inr (.inr (.inl f))))
  | .inl (t, n, .inr (.inr (.inr r))) => .inl (cA t, n, .inr (.inr (.inr (.inr (fun j => (r.getD j none).map ad)))))
def gw (cA : Nat → ClassId) (ad : Nat → Nat) (es : List gE) : va_W := es.mapIdx (fun k e => (ad k, ge cA ad e))
def gT (cA : Nat → ClassId) : List (ClassId × FieldType) := [(cA 0, .int), (cA 1, .char), (cA 2, .boolean), (cA 3, .long), (cA 4, .double), (cA 5, .object RX4)]
theorem gv_cat (ad : Nat → Nat) (v : Value) : (gv ad v).category = v.category := by cases v <;> rfl
theorem gw_len {cA : Nat → ClassId} {ad : Nat → Nat} {es : List gE} : (gw cA ad es).length = es.length := by simp [gw]
theorem gw_at (cA : Nat → ClassId) (ad : Nat → Nat) (es : List gE) (k : Nat) : (gw cA ad es)[k]? = (es[k]?).map (fun e => (ad k, ge cA ad e)) := by
  simp [gw, List.getElem?_mapIdx]
theorem gw_get {cA : Nat → ClassId} {ad : Nat → Nat} {es : List gE} {k : Nat} {e : gE} (h : es[k]? = some e) : (gw cA ad es)[k]? = some (ad k, ge cA ad e) := by
  rw [gw_at, h]; rfl
theorem gw_set (cA : Nat → ClassId) (ad : Nat → Nat) (es : List gE) (k : Nat) (e : gE) : (gw cA ad es).set k (ad k, ge cA ad e) = gw cA ad (es.set k e) := by
  apply List.ext_getElem?
  intro i
  rw [gw_at, List.getElem?_set, List.getElem?_set, gw_at, gw_len]
  by_cases h : k = i
  · subst h
    by_cases h2 : k < es.length
    · simp [h2]
    · simp [h2]
  · simp [h]
theorem gw_push (cA : Nat → ClassId) (ad : Nat → Nat) (es : List gE) (e : gE) : gw cA ad es ++ [(ad es.length, ge cA ad e)] = gw cA ad (es ++ [e]) := by
  simp [gw, List.mapIdx_append]
-- lists by literal numbers
def gnth : List gE → Nat → Option gE
  | [], _ => none
  | e :: _, 0 => some e
  | _ :: es, k + 1 => gnth es k
def vnth : List Value → Nat → Option Value
  | [], _ => none
  | e :: _, 0 => some e
  | _ :: es, k + 1 => vnth es k
def rnth : List (Option Nat) → Nat → Option (Option Nat)
  | [], _ => none
  | e :: _, 0 => some e
  | _ :: es, k + 1 => rnth es k
theorem gnth_eq : ∀ (es : List gE) (k : Nat), gnth es k = es[k]?
  | [], k => by simp [gnth]
  | _ :: _, 0 => rfl
  | _ :: es, k + 1 => by simpa [gnth] using gnth_eq es k
theorem vnth_eq : ∀ (es : List Value) (k : Nat), vnth es k = es[k]?
  | [], k => by simp [vnth]
  | _ :: _, 0 => rfl
  | _ :: es, k + 1 => by simpa [vnth] using vnth_eq es k
theorem rnth_eq : ∀ (es : List (Option Nat)) (k : Nat), rnth es k = es[k]?
  | [], k => by simp [rnth]
  | _ :: _, 0 => rfl
  | _ :: es, k + 1 => by simpa [rnth] using rnth_eq es k
-- locals
def lget : List (Nat × Value) → Nat → Option Value
  | [], _ => none
  | (j, w) :: L, i => bif Nat.beq j i then some w else lget L i
def cat2 : Value → Bool
  | .long _ => true
  | .double _ => true
  | _ => false
def ldel : List (Nat × Value) → Nat → List (Nat × Value)
  | [], _ => []
  | (j, w) :: L, i => bif Nat.beq j i then ldel L i else bif Nat.beq (j + 1) i && cat2 w then ldel L i else (j, w) :: ldel L i
def lset (L : List (Nat × Value)) (i : Nat) (v : Value) : List (Nat × Value) := (i, v) :: ldel L i
def lpick (L : List (Nat × Value)) : List Nat → Option (List Value)
  | [] => some []
  | i :: is => match lget L i with
    | some v => match lpick L is with
      | some vs => some (v :: vs)
      | none => none
    | none => none
abbrev lmap (ad : Nat → Nat) (L : List (Nat × Value)) : List (Nat × Value) := L.map (fun q => (q.1, gv ad q.2))
theorem lget_mem : ∀ {L : List (Nat × Value)} {i : Nat} {v : Value}, lget L i = some v → (i, v) ∈ L
  | [], _, _, h => by cases h
  | (j, w) :: L, i, v, h => by
    unfold lget at h
    cases hb : Nat.beq j i with
    | true =>
      rw [hb] at h
      have := Nat.eq_of_beq_eq_true hb
      subst this
      cases h
      exact List.mem_cons_self
    | false =>
      rw [hb] at h
      exact List.mem_cons_of_mem _ (lget_mem h)
theorem lget_at {ls : Array Slot} {nL : Nat} {ad : Nat → Nat} {L : List (Nat × Value)} {i : Nat} {v : Value} (hl : lv_has ls nL (lmap ad L)) (h : lget L i = some v) : ls[i]? = some (.val (gv ad v)) :=
  hl.2.2 (i, gv ad v) (List.mem_map.mpr ⟨(i, v), lget_mem h, rfl⟩)
theorem lget_ix {ad : Nat → Nat} {L : List (Nat × Value)} {i : Nat} {v : Value} (h : lget L i = some v) : ∃ k : Nat, (lmap ad L)[k]? = some (i, gv ad v) := by
  have : (i, gv ad v) ∈ lmap ad L := List.mem_map.mpr ⟨(i, v), lget_mem h, rfl⟩
  exact List.getElem?_of_mem this
theorem cat2_eq (v : Value) : cat2 v = (v.category == 2) := by cases v <;> rfl
theorem ldel_mem : ∀ {L : List (Nat × Value)} {i : Nat} {q : Nat × Value}, q ∈ ldel L i → q ∈ L ∧ (!(q.1 == i) && !(q.1 + 1 == i && q.2.category == 2)) = true
  | [], _, _, h => by cases h
  | (j, w) :: L, i, q, h => by
    unfold ldel at h
    cases hb : Nat.beq j i with
    | true =>
      rw [hb] at h
      have := ldel_mem (L := L) h
      exact ⟨List.mem_cons_of_mem _ this.1, this.2⟩
    | false =>
      rw [hb] at h
      cases hc : (Nat.beq (j + 1) i && cat2 w) with
      | true =>
        rw [hc] at h
        have := ldel_mem (L := L) h
        exact ⟨List.mem_cons_of_mem _ this.1, this.2⟩
      | false =>
        rw [hc] at h
        rcases List.mem_cons.mp h with rfl | h
        · refine ⟨List.mem_cons_self, ?_⟩
          rw [cat2_eq] at hc
          have hb' : (j == i) = false := by simpa using Nat.ne_of_beq_eq_false hb
          have hc' : (j + 1 == i && w.category == 2) = false := by
            cases hx : Nat.beq (j + 1) i with
            | true =>
              rw [hx] at hc
              have h2 : (w.category == 2) = false := by simpa using hc
              simp only [h2, Bool.and_false]
            | false =>
              have h2 : (j + 1 == i) = false := by simpa using Nat.ne_of_beq_eq_false hx
              simp only [h2, Bool.false_and]
          simp only [hb', hc', Bool.not_false, Bool.and_self]
        · have := ldel_mem (L := L) h
          exact ⟨List.mem_cons_of_mem _ this.1, this.2⟩
theorem lv_mono {ls : Array Slot} {nL : Nat} {l l' : List (Nat × Value)} (h : lv_has ls nL l) (hs : ∀ q ∈ l', q ∈ l) : lv_has ls nL l' := ⟨h.1, h.2.1, fun q hq => h.2.2 q (hs q hq)⟩
theorem lset_ok {ls : Array Slot} {nL i : Nat} {ad : Nat → Nat} {v : Value} {L : List (Nat × Value)} (h : lv_has ls nL ((i, gv ad v) :: (lmap ad L).filter (fun q => !(q.1 == i) && !(q.1 + 1 == i && q.2.category == 2)))) : lv_has ls nL (lmap ad (lset L i v)) := by
  refine lv_mono h (fun q hq => ?_)
  obtain ⟨q0, hq0, rfl⟩ := List.mem_map.mp hq
  rcases List.mem_cons.mp hq0 with rfl | hq0
  · exact List.mem_cons_self
  · have := ldel_mem hq0
    refine List.mem_cons_of_mem _ (List.mem_filter.mpr ⟨List.mem_map.mpr ⟨q0, this.1, rfl⟩, ?_⟩)
    simpa [gv_cat] using this.2
theorem lpick_mem : ∀ {L : List (Nat × Value)} {is : List Nat} {vs : List Value}, lpick L is = some vs → ∀ q ∈ is.zip vs, q ∈ L
  | L, [], vs, h, q, hq => by simp at hq
  | L, i :: is, vs, h, q, hq => by
    unfold lpick at h
    split at h
    · rename_i v hv
      split at h
      · rename_i ws hw
        cases h
        rw [List.zip_cons_cons] at hq
        rcases List.mem_cons.mp hq with rfl | hq
        · exact lget_mem hv
        · exact lpick_mem hw q hq
      · cases h
    · cases h
-- what a start gives beside a world: links between nest mates, texts, two statics of Throwable
def gNest : List (String × Nat × MethodName) := [(RX6, 18, yX5_init), (RX6, 32, yX0_init), (RX2, 24, yX6_isSampled), (RX2, 28, yX6_listStart)]
def gStr : List (Nat × String) := [(202, "no such tenant, way, set, position or slot"), (206, "the number is out of range"), (107, "the text is full"), (119, "the text is not valid"), (131, "no state is saved"), (142, "the slot is empty"), (173, "the set is not sampled")]
def gN (U : State) : Prop := (∀ q ∈ gNest, va_Nw (.methodLinkNest q.1 q.2.1 q.2.2 RX6) U) ∧ ∀ q ∈ gStr, ∃ a : Nat, vk_R RX6 q.1 q.2 a U
def gY (D : va_G) (cA : Nat → ClassId) (A : Nat → Prop) (U : State) (H : Heap) : Prop := va_K D vwCl (gT cA) U ∧ gN U ∧ vx_Zq Bundle.tN "UNASSIGNED_STACK" Bundle.steD A U H ∧ vx_Zq Bundle.tN "SUPPRESSED_SENTINEL" Bundle.listD A U H
theorem gN.warm {s U : State} (hW : s.WarmedH U.vm) (h : gN s) : gN U := ⟨fun q hq => va_Nw.warmM hW (h.1 q hq), fun q hq => (h.2 q hq).elim fun a ha => ⟨a, vk_R.warm hW ha⟩⟩
theorem gN.same {u U : State} (hv : u.vm = U.vm) (h : gN u) : gN U := ⟨fun q hq => va_Nw.same rfl hv (h.1 q hq), fun q hq => (h.2 q hq).elim fun a ha => ⟨a, vk_R.same hv.symm ha⟩⟩
theorem gY.same {D : va_G} {cA : Nat → ClassId} {A : Nat → Prop} {u U : State} {H : Heap} (hv : u.vm = U.vm) (h : gY D cA A u H) : gY D cA A U H := by
  have ha : u.vm.Alike U.vm := by rw [hv]; exact Vm.Alike.refl U.vm
  exact ⟨va_K.moved ha h.1, h.2.1.same hv, vx_Zq.moved ha h.2.2.1, vx_Zq.moved ha h.2.2.2⟩
theorem gY.call {D : va_G} {cA : Nat → ClassId} {A A1 : Nat → Prop} {s U : State} {H : Heap} {locs : List Loc} (h : gY D cA A s s.heap) (hS : va_S A s.heap H locs) (hF : ∀ q, A1 q → A q) (hW : s.WarmedH U.vm) (hU : U.heap = H) : gY D cA A1 U U.heap := by
  rw [hU]
  have k1 : ∀ a : Nat, a < s.heap.size → ¬ A a → H[a]? = s.heap[a]? := hS.2.1
  exact ⟨va_K.moved hW.alike h.1, h.2.1.warm hW, vx_Zq.moved hW.alike (vx_Zq.narrow (vx_Zq.kept h.2.2.1 k1) hF), vx_Zq.moved hW.alike (vx_Zq.narrow (vx_Zq.kept h.2.2.2 k1) hF)⟩
-- the context of a walk
abbrev gX : Type := Program × Launch × Env × Room × State × MethodId × Array Value × List Frame × Method × Code × va_G × (Nat → ClassId) × (Nat → Prop) × (Nat → Prop) × (Nat → Nat) × (State → Prop) × Nat
def G (X : gX) (pc : Nat) : gP := fun L S es k n => match X with
  | (p, l, e, R, s, m, args, below, meth, c, D, cA, A, ag, ad0, Q, nL) => ∀ (ad : Nat → Nat) (H : Heap) (locs : List Loc) (ls : Array Slot), (∀ i, ag i → ad i = ad0 i) → va_P D vwCl (gw cA ad es) H → va_D A (gw cA ad es) → va_S A s.heap H locs → lv_has ls nL (lmap ad L) →
    W p l e R s m args below meth c H locs k n Q (F0 m pc ls (S.map (gv ad)))
def gM (X : gX) (l0 : Launch) (cc : ByteArray) (own : String) (Ts : List Cond) (R0 : Room) : Prop := match X with
  | (p, l, _, R, s, m, args, _, meth, c, D, cA, A, _, _, _, nL) => p.tables.exec = Jvm.exec ∧ c.code = cc ∧ s.vm.findClass own = some m.cls ∧ (∀ w ∈ Ts, w.before args s = true) ∧ c.maxLocals = nL ∧ meth.locks = false ∧ gY D cA A s s.heap ∧ (∀ q, s.heap.size ≤ q → A q) ∧ R = R0 ∧ l = l0
def gQ (D : va_G) (cA : Nat → ClassId) (ad0 : Nat → Nat) (ag : Nat → Prop) (A : Nat → Prop) (K : gK) : Array Value → State → Outcome → State → Prop := fun _ st oc t =>
  (∃ (v : Option Value) (es : List gE) (ad : Nat → Nat), oc = .returned (v.map (gv ad)) ∧ K v es ∧ (∀ i, ag i → ad i = ad0 i) ∧ va_P D vwCl (gw cA ad es) t.heap ∧ va_D A (gw cA ad es)) ∧ va_F A st t
/-- the end of the walk is a method's end with K -/
def gR (X : gX) (K : gK) (mc ms : Nat) (ret : Option FieldType) : Prop := match X with
  | (p, l, e, R, s, m, args, below, meth, c, D, cA, A, ag, ad0, Q, _) => meth.sig.returnType = ret ∧ ∀ (H : Heap) (locs : List Loc) (g : JFrame), W p l e R s m args below meth c H locs mc ms (MQ below (gQ D cA ad0 ag A K) args s mc ms A) g → W p l e R s m args below meth c H locs mc ms Q g
/-- a step is right -/
def okO (X : gX) (pc nx : Nat) (o : gO) : Prop := ∀ (J : Nat → gP) (N : gP), (∀ t L S es k n, J t L S es k n → G X t L S es k n) → (∀ L S es k n, N L S es k n → G X nx L S es k n) → ∀ L S es k n, o J N L S es k n → G X pc L S es k n
def hpc : List (Nat × gO) → Nat
  | [] => 0
  | q :: _ => q.1
def okL (X : gX) : List (Nat × gO) → Prop
  | [] => True
  | q :: l => okO X q.1 (hpc l) q.2 ∧ okL X l
-- loops' heads, and the walk
abbrev gC : Type := Nat × List Nat × (List Value → List gE → Nat → Nat → Prop)
def gcut : List gC → Nat → Option gC
  | [], _ => none
  | c :: cs, t => bif Nat.beq c.1 t then some c else gcut cs t
def gcutP (c : gC) : gP := fun L S es k n => match S with
  | [] => match lpick L c.2.1 with
    | some vs => c.2.2 vs es k n
    | none => False
  | _ => False
def glook : List (Nat × gO) → Nat → List (Nat × gO)
  | [], _ => []
  | q :: l, t => bif Nat.beq q.1 t then q :: l else glook l t
def giscut (cs : List gC) (l : List (Nat × gO)) : Bool := match gcut cs (hpc l) with
  | some _ => true
  | none => false
def wl (J : Nat → gP) (cs : List gC) : List (Nat × gO) → gP
  | [] => fun _ _ _ _ _ => False
  | q :: l => q.2 J (bif giscut cs l then J (hpc l) else wl J cs l)
def wr (full : List (Nat × gO)) (cs : List gC) : Nat → Nat → gP
  | 0, _ => fun _ _ _ _ _ => False
  | f + 1, t => match gcut cs t with
    | some c => gcutP c
    | none => wl (wr full cs f) cs (glook full t)
def cutOK (X : gX) (cs : List gC) : Prop := ∀ c ∈ cs, ∀ vs es k n, c.2.2 vs es k n → G X c.1 (c.2.1.zip vs) [] es k n
theorem G_mono {X : gX} {pc : Nat} {L L' : List (Nat × Value)} {S : List Value} {es : List gE} {k n : Nat} (h : G X pc L S es k n) (hs : ∀ q ∈ L, q ∈ L') : G X pc L' S es k n := by
  obtain ⟨p, l, e, R, s, m, args, below, meth, c, D, cA, A, ag, ad0, Q, nL⟩ := X
  intro ad H locs ls ha hP hD hS hl
  refine h ad H locs ls ha hP hD hS (lv_mono hl (fun q hq => ?_))
  obtain ⟨q0, hq0, rfl⟩ := List.mem_map.mp hq
  exact List.mem_map.mpr ⟨q0, hs q0 hq0, rfl⟩
theorem gcut_ok : ∀ {cs : List gC} {t : Nat} {c : gC}, gcut cs t = some c → c ∈ cs ∧ c.1 = t
  | [], _, _, h => by cases h
  | d :: cs, t, c, h => by
    unfold gcut at h
    cases hb : Nat.beq d.1 t with
    | true =>
      rw [hb] at h
      cases h
      exact ⟨List.mem_cons_self, Nat.eq_of_beq_eq_true hb⟩
    | false =>
      rw [hb] at h
      have := gcut_ok (cs := cs) h
      exact ⟨List.mem_cons_of_mem _ this.1, this.2⟩
theorem gcutP_ok {X : gX} {cs : List gC} (hc : cutOK X cs) {t : Nat} {c : gC} (h : gcut cs t = some c) {L : List (Nat × Value)} {S : List Value} {es : List gE} {k n : Nat} (hp : gcutP c L S es k n) : G X t L S es k n := by
  obtain ⟨hm, rfl⟩ := gcut_ok h
  unfold gcutP at hp
  split at hp
  · split at hp
    · rename_i vs hv
      exact G_mono (hc c hm vs es k n hp) (lpick_mem hv)
    · exact hp.elim
  · exact hp.elim
theorem wl_ok {X : gX} {J : Nat → gP} {cs : List gC} (hJ : ∀ t L S es k n, J t L S es k n → G X t L S es k n) : ∀ {lst : List (Nat × gO)}, okL X lst → ∀ L S es k n, wl J cs lst L S es k n → G X (hpc lst) L S es k n
  | [], _, _, _, _, _, _, h => h.elim
  | q :: l, ho, L, S, es, k, n, h => by
    refine ho.1 J _ hJ (fun L S es k n h => ?_) L S es k n h
    revert h
    cases giscut cs l with
    | true => exact fun h => hJ _ _ _ _ _ _ h
    | false => exact fun h => wl_ok hJ ho.2 _ _ _ _ _ h
theorem glook_ok {X : gX} : ∀ {full : List (Nat × gO)} {t : Nat}, okL X full → okL X (glook full t) ∧ (glook full t = [] ∨ hpc (glook full t) = t)
  | [], _, _ => ⟨trivial, Or.inl rfl⟩
  | q :: l, t, h => by
    unfold glook
    cases hb : Nat.beq q.1 t with
    | true => exact ⟨h, Or.inr (Nat.eq_of_beq_eq_true hb)⟩
    | false => exact glook_ok h.2
theorem wl_at {X : gX} {J : Nat → gP} {cs : List gC} {full : List (Nat × gO)} (hf : okL X full) (hJ : ∀ t L S es k n, J t L S es k n → G X t L S es k n) {t : Nat} {L : List (Nat × Value)} {S : List Value} {es : List gE} {k n : Nat} (h : wl J cs (glook full t) L S es k n) : G X t L S es k n := by
  obtain ⟨h1, h2⟩ := glook_ok (t := t) hf
  rcases h2 with h2 | h2
  · rw [h2] at h
    exact h.elim
  · have := wl_ok hJ h1 L S es k n h
    rw [h2] at this
    exact this
theorem wr_ok {X : gX} {cs : List gC} {full : List (Nat × gO)} (hf : okL X full) (hc : cutOK X cs) : ∀ (f t : Nat) L S es k n, wr full cs f t L S es k n → G X t L S es k n
  | 0, _, _, _, _, _, _, h => h.elim
  | f + 1, t, L, S, es, k, n, h => by
    unfold wr at h
    cases hct : gcut cs t with
    | some c =>
      rw [hct] at h
      exact gcutP_ok hc hct h
    | none =>
      rw [hct] at h
      exact wl_at hf (wr_ok hf hc f) h
/-- from a head: the step at it first -/
theorem g_go {X : gX} {cs : List gC} {full : List (Nat × gO)} (hf : okL X full) (hc : cutOK X cs) (f : Nat) {t : Nat} {L : List (Nat × Value)} {S : List Value} {es : List gE} {k n : Nat} (h : wl (wr full cs f) cs (glook full t) L S es k n) : G X t L S es k n := wl_at hf (wr_ok hf hc f) h
theorem cut_nil {X : gX} : cutOK X [] := fun _ h => by cases h
/-- a loop: by a measure that falls -/
theorem g_loop {X : gX} {cs : List gC} (head : Nat) (keep : List Nat) (Inv : Nat → List Value → List gE → Nat → Nat → Prop) (hc : cutOK X cs)
    (step : ∀ μ : Nat, cutOK X ((head, keep, fun vs es k n => ∃ ν, ν < μ ∧ Inv ν vs es k n) :: cs) → ∀ vs es k n, Inv μ vs es k n → G X head (keep.zip vs) [] es k n) : cutOK X ((head, keep, fun vs es k n => ∃ ν, Inv ν vs es k n) :: cs) := by
  have key : ∀ μ : Nat, ∀ vs es k n, Inv μ vs es k n → G X head (keep.zip vs) [] es k n := by
    intro μ
    induction μ using Nat.strongRecOn with
    | ind μ ih =>
      refine step μ (fun c hm vs es k n h => ?_)
      rcases List.mem_cons.mp hm with rfl | hm
      · obtain ⟨ν, h1, h2⟩ := h
        exact ih ν h1 vs es k n h2
      · exact hc c hm vs es k n h
  intro c hm vs es k n h
  rcases List.mem_cons.mp hm with rfl | hm
  · obtain ⟨ν, h2⟩ := h
    exact key ν vs es k n h2
  · exact hc c hm vs es k n h
end GE
end
section
/-! Steps of single instructions. -/
section GS
def gif : Bool → Prop → Prop
  | true, P => P
  | false, _ => False
theorem bif_t {b : Bool} {P : Prop} (h : gif b P) : b = true ∧ P := by
  cases b
  · exact h.elim
  · exact ⟨rfl, h⟩
theorem and_t {a b : Bool} (h : (a && b) = true) : a = true ∧ b = true := by
  cases a
  · cases h
  · exact ⟨rfl, h⟩
variable {X : gX} {l0 : Launch} {cc : ByteArray} {own : String} {Ts : List Cond} {R0 : Room} {pc : Nat}
def oConst (v : Int32) : gO := fun J N L S es k n => N L (.int v :: S) es k n
theorem ok_iconst (hM : gM X l0 cc own Ts R0) {z : Int} {v : Int32} (hd : decode cc pc = .ok (.iconst z, 1)) (hv : Int32.ofInt z = v) : okO X pc (pc + 1) (oConst v) := by
  obtain ⟨p, l, e, R, s, m, args, below, meth, c, D, cA, A, ag, ad0, Q, nL⟩ := X
  obtain ⟨hx, hb, hown, hts, hml, hlk, hY, hA, hR, hL0⟩ := hM
  have hK := hY.1
  intro J N hJ hN L S es k n h ad H locs ls hag hP hD hS hl
  exact lv_iconst hx hb hd hv (hN _ _ _ _ _ h ad H locs ls hag hP hD hS hl)
theorem ok_bipush (hM : gM X l0 cc own Ts R0) {z : Int} {v : Int32} (hd : decode cc pc = .ok (.bipush z, 2)) (hv : (Int8.ofInt z).toInt32 = v) : okO X pc (pc + 2) (oConst v) := by
  obtain ⟨p, l, e, R, s, m, args, below, meth, c, D, cA, A, ag, ad0, Q, nL⟩ := X
  obtain ⟨hx, hb, hown, hts, hml, hlk, hY, hA, hR, hL0⟩ := hM
  have hK := hY.1
  intro J N hJ hN L S es k n h ad H locs ls hag hP hD hS hl
  exact lv_bipush hx hb hd hv (hN _ _ _ _ _ h ad H locs ls hag hP hD hS hl)
theorem ok_sipush (hM : gM X l0 cc own Ts R0) {z : Int} {v : Int32} (hd : decode cc pc = .ok (.sipush z, 3)) (hv : (Int16.ofInt z).toInt32 = v) : okO X pc (pc + 3) (oConst v) := by
  obtain ⟨p, l, e, R, s, m, args, below, meth, c, D, cA, A, ag, ad0, Q, nL⟩ := X
  obtain ⟨hx, hb, hown, hts, hml, hlk, hY, hA, hR, hL0⟩ := hM
  have hK := hY.1
  intro J N hJ hN L S es k n h ad H locs ls hag hP hD hS hl
  exact lv_sipush hx hb hd hv (hN _ _ _ _ _ h ad H locs ls hag hP hD hS hl)
def oILoad (i : Nat) : gO := fun J N L S es k n => match lget L i with | some (.int x) => N L (.int x :: S) es k n | _ => False
def oALoad (i : Nat) : gO := fun J N L S es k n => match lget L i with | some (.ref x) => N L (.ref x :: S) es k n | _ => False
def oDLoad (i : Nat) : gO := fun J N L S es k n => match lget L i with | some (.double x) => N L (.double x :: S) es k n | _ => False
theorem ok_iload_n (hM : gM X l0 cc own Ts R0) {kk : Fin 4} (i : Nat) (hd : decode cc pc = .ok (.iload_n kk, 1)) (hi : (kk : Nat) = i) : okO X pc (pc + 1) (oILoad i) := by
  obtain ⟨p, l, e, R, s, m, args, below, meth, c, D, cA, A, ag, ad0, Q, nL⟩ := X
  obtain ⟨hx, hb, hown, hts, hml, hlk, hY, hA, hR, hL0⟩ := hM
  have hK := hY.1
  intro J N hJ hN L S es k n h ad H locs ls hag hP hD hS hl
  unfold oILoad at h
  split at h
  · rename_i x hx'
    exact lv_iload_n hx hb hd hi (lget_at hl hx') (hN _ _ _ _ _ h ad H locs ls hag hP hD hS hl)
  · exact h.elim
theorem ok_aload_n (hM : gM X l0 cc own Ts R0) {kk : Fin 4} (i : Nat) (hd : decode cc pc = .ok (.aload_n kk, 1)) (hi : (kk : Nat) = i) : okO X pc (pc + 1) (oALoad i) := by
  obtain ⟨p, l, e, R, s, m, args, below, meth, c, D, cA, A, ag, ad0, Q, nL⟩ := X
  obtain ⟨hx, hb, hown, hts, hml, hlk, hY, hA, hR, hL0⟩ := hM
  have hK := hY.1
  intro J N hJ hN L S es k n h ad H locs ls hag hP hD hS hl
  unfold oALoad at h
  split at h
  · rename_i x hx'
    exact lv_aload_n hx hb hd hi (lget_at hl hx') (hN _ _ _ _ _ h ad H locs ls hag hP hD hS hl)
  · exact h.elim
theorem ok_iload (hM : gM X l0 cc own Ts R0) (i : Nat) (hd : decode cc pc = .ok (.iload i, 2)) : okO X pc (pc + 2) (oILoad i) := by
  obtain ⟨p, l, e, R, s, m, args, below, meth, c, D, cA, A, ag, ad0, Q, nL⟩ := X
  obtain ⟨hx, hb, hown, hts, hml, hlk, hY, hA, hR, hL0⟩ := hM
  have hK := hY.1
  intro J N hJ hN L S es k n h ad H locs ls hag hP hD hS hl
  unfold oILoad at h
  split at h
  · rename_i x hx'
    exact lv_iload hx hb hd (lget_at hl hx') (hN _ _ _ _ _ h ad H locs ls hag hP hD hS hl)
  · exact h.elim
theorem ok_aload (hM : gM X l0 cc own Ts R0) (i : Nat) (hd : decode cc pc = .ok (.aload i, 2)) : okO X pc (pc + 2) (oALoad i) := by
  obtain ⟨p, l, e, R, s, m, args, below, meth, c, D, cA, A, ag, ad0, Q, nL⟩ := X
  obtain ⟨hx, hb, hown, hts, hml, hlk, hY, hA, hR, hL0⟩ := hM
  have hK := hY.1
  intro J N hJ hN L S es k n h ad H locs ls hag hP hD hS hl
  unfold oALoad at h
  split at h
  · rename_i x hx'
    exact lv_aload hx hb hd (lget_at hl hx') (hN _ _ _ _ _ h ad H locs ls hag hP hD hS hl)
  · exact h.elim
theorem ok_dload (hM : gM X l0 cc own Ts R0) (i : Nat) (hd : decode cc pc = .ok (.dload i, 2)) : okO X pc (pc + 2) (oDLoad i) := by
  obtain ⟨p, l, e, R, s, m, args, below, meth, c, D, cA, A, ag, ad0, Q, nL⟩ := X
  obtain ⟨hx, hb, hown, hts, hml, hlk, hY, hA, hR, hL0⟩ := hM
  have hK := hY.1
  intro J N hJ hN L S es k n h ad H locs ls hag hP hD hS hl
  unfold oDLoad at h
  split at h
  · rename_i x hx'
    exact lv_dload hx hb hd (lget_at hl hx') (hN _ _ _ _ _ h ad H locs ls hag hP hD hS hl)
  · exact h.elim
def oIStore (nl i : Nat) : gO := fun J N L S es k n => match S with | .int x :: S' => gif (Nat.ble (i + 1) nl) (N (lset L i (.int x)) S' es k n) | _ => False
def oAStore (nl i : Nat) : gO := fun J N L S es k n => match S with | .ref x :: S' => gif (Nat.ble (i + 1) nl) (N (lset L i (.ref x)) S' es k n) | _ => False
theorem ok_istore_n (hM : gM X l0 cc own Ts R0) {kk : Fin 4} (i : Nat) (hd : decode cc pc = .ok (.istore_n kk, 1)) (hi : (kk : Nat) = i) : okO X pc (pc + 1) (oIStore X.2.2.2.2.2.2.2.2.2.2.2.2.2.2.2.2 i) := by
  obtain ⟨p, l, e, R, s, m, args, below, meth, c, D, cA, A, ag, ad0, Q, nL⟩ := X
  obtain ⟨hx, hb, hown, hts, hml, hlk, hY, hA, hR, hL0⟩ := hM
  have hK := hY.1
  intro J N hJ hN L S es k n h ad H locs ls hag hP hD hS hl
  unfold oIStore at h
  split at h
  · obtain ⟨hn, h⟩ := bif_t h
    exact lv_istore_n hx hb hd hi hl (Nat.le_of_ble_eq_true hn) rfl (fun ls' hl' => hN _ _ _ _ _ h ad H locs ls' hag hP hD hS (lset_ok hl'))
  · exact h.elim
theorem ok_istore (hM : gM X l0 cc own Ts R0) (i : Nat) (hd : decode cc pc = .ok (.istore i, 2))  : okO X pc (pc + 2) (oIStore X.2.2.2.2.2.2.2.2.2.2.2.2.2.2.2.2 i) := by
  obtain ⟨p, l, e, R, s, m, args, below, meth, c, D, cA, A, ag, ad0, Q, nL⟩ := X
  obtain ⟨hx, hb, hown, hts, hml, hlk, hY, hA, hR, hL0⟩ := hM
  have hK := hY.1
  intro J N hJ hN L S es k n h ad H locs ls hag hP hD hS hl
  unfold oIStore at h
  split at h
  · obtain ⟨hn, h⟩ := bif_t h
    exact lv_istore hx hb hd  hl (Nat.le_of_ble_eq_true hn) rfl (fun ls' hl' => hN _ _ _ _ _ h ad H locs ls' hag hP hD hS (lset_ok hl'))
  · exact h.elim
theorem ok_astore_n (hM : gM X l0 cc own Ts R0) {kk : Fin 4} (i : Nat) (hd : decode cc pc = .ok (.astore_n kk, 1)) (hi : (kk : Nat) = i) : okO X pc (pc + 1) (oAStore X.2.2.2.2.2.2.2.2.2.2.2.2.2.2.2.2 i) := by
  obtain ⟨p, l, e, R, s, m, args, below, meth, c, D, cA, A, ag, ad0, Q, nL⟩ := X
  obtain ⟨hx, hb, hown, hts, hml, hlk, hY, hA, hR, hL0⟩ := hM
  have hK := hY.1
  intro J N hJ hN L S es k n h ad H locs ls hag hP hD hS hl
  unfold oAStore at h
  split at h
  · obtain ⟨hn, h⟩ := bif_t h
    exact lv_astore_n hx hb hd hi hl (Nat.le_of_ble_eq_true hn) rfl (fun ls' hl' => hN _ _ _ _ _ h ad H locs ls' hag hP hD hS (lset_ok hl'))
  · exact h.elim
theorem ok_astore (hM : gM X l0 cc own Ts R0) (i : Nat) (hd : decode cc pc = .ok (.astore i, 2))  : okO X pc (pc + 2) (oAStore X.2.2.2.2.2.2.2.2.2.2.2.2.2.2.2.2 i) := by
  obtain ⟨p, l, e, R, s, m, args, below, meth, c, D, cA, A, ag, ad0, Q, nL⟩ := X
  obtain ⟨hx, hb, hown, hts, hml, hlk, hY, hA, hR, hL0⟩ := hM
  have hK := hY.1
  intro J N hJ hN L S es k n h ad H locs ls hag hP hD hS hl
  unfold oAStore at h
  split at h
  · obtain ⟨hn, h⟩ := bif_t h
    exact lv_astore hx hb hd  hl (Nat.le_of_ble_eq_true hn) rfl (fun ls' hl' => hN _ _ _ _ _ h ad H locs ls' hag hP hD hS (lset_ok hl'))
  · exact h.elim
def oIInc (nl i : Nat) (z : Int32) : gO := fun J N L S es k n => match lget L i with | some (.int x) => gif (Nat.ble (i + 1) nl) (N (lset L i (.int (x + z))) S es k n) | _ => False
theorem ok_iinc (hM : gM X l0 cc own Ts R0) (i : Nat) {zi : Int} {z : Int32} (hd : decode cc pc = .ok (.iinc i zi, 3)) (hz : Int32.ofInt zi = z) : okO X pc (pc + 3) (oIInc X.2.2.2.2.2.2.2.2.2.2.2.2.2.2.2.2 i z) := by
  obtain ⟨p, l, e, R, s, m, args, below, meth, c, D, cA, A, ag, ad0, Q, nL⟩ := X
  obtain ⟨hx, hb, hown, hts, hml, hlk, hY, hA, hR, hL0⟩ := hM
  have hK := hY.1
  intro J N hJ hN L S es k n h ad H locs ls hag hP hD hS hl
  unfold oIInc at h
  split at h
  · rename_i x hx'
    obtain ⟨hn, h⟩ := bif_t h
    obtain ⟨q, hq⟩ := lget_ix (ad := ad) hx'
    exact lv_iinc (v := x + z) hx hb hd hl hq (by rw [hz]) (Nat.le_of_ble_eq_true hn) rfl (fun ls' hl' => hN _ _ _ _ _ h ad H locs ls' hag hP hD hS (lset_ok (v := .int (x + z)) hl'))
  · exact h.elim
def oAdd : gO := fun J N L S es k n => match S with | .int y :: .int x :: S' => N L (.int (x + y) :: S') es k n | _ => False
theorem ok_iadd (hM : gM X l0 cc own Ts R0) (hd : decode cc pc = .ok (.iadd, 1)) : okO X pc (pc + 1) oAdd := by
  obtain ⟨p, l, e, R, s, m, args, below, meth, c, D, cA, A, ag, ad0, Q, nL⟩ := X
  obtain ⟨hx, hb, hown, hts, hml, hlk, hY, hA, hR, hL0⟩ := hM
  have hK := hY.1
  intro J N hJ hN L S es k n h ad H locs ls hag hP hD hS hl
  unfold oAdd at h
  split at h
  · exact lv_iadd hx hb hd (hN _ _ _ _ _ h ad H locs ls hag hP hD hS hl)
  · exact h.elim
def oSub : gO := fun J N L S es k n => match S with | .int y :: .int x :: S' => N L (.int (x - y) :: S') es k n | _ => False
theorem ok_isub (hM : gM X l0 cc own Ts R0) (hd : decode cc pc = .ok (.isub, 1)) : okO X pc (pc + 1) oSub := by
  obtain ⟨p, l, e, R, s, m, args, below, meth, c, D, cA, A, ag, ad0, Q, nL⟩ := X
  obtain ⟨hx, hb, hown, hts, hml, hlk, hY, hA, hR, hL0⟩ := hM
  have hK := hY.1
  intro J N hJ hN L S es k n h ad H locs ls hag hP hD hS hl
  unfold oSub at h
  split at h
  · exact lv_isub hx hb hd (hN _ _ _ _ _ h ad H locs ls hag hP hD hS hl)
  · exact h.elim
def oMul : gO := fun J N L S es k n => match S with | .int y :: .int x :: S' => N L (.int (x * y) :: S') es k n | _ => False
theorem ok_imul (hM : gM X l0 cc own Ts R0) (hd : decode cc pc = .ok (.imul, 1)) : okO X pc (pc + 1) oMul := by
  obtain ⟨p, l, e, R, s, m, args, below, meth, c, D, cA, A, ag, ad0, Q, nL⟩ := X
  obtain ⟨hx, hb, hown, hts, hml, hlk, hY, hA, hR, hL0⟩ := hM
  have hK := hY.1
  intro J N hJ hN L S es k n h ad H locs ls hag hP hD hS hl
  unfold oMul at h
  split at h
  · exact lv_imul hx hb hd (hN _ _ _ _ _ h ad H locs ls hag hP hD hS hl)
  · exact h.elim
def oAnd : gO := fun J N L S es k n => match S with | .int y :: .int x :: S' => N L (.int (x &&& y) :: S') es k n | _ => False
theorem ok_iand (hM : gM X l0 cc own Ts R0) (hd : decode cc pc = .ok (.iand, 1)) : okO X pc (pc + 1) oAnd := by
  obtain ⟨p, l, e, R, s, m, args, below, meth, c, D, cA, A, ag, ad0, Q, nL⟩ := X
  obtain ⟨hx, hb, hown, hts, hml, hlk, hY, hA, hR, hL0⟩ := hM
  have hK := hY.1
  intro J N hJ hN L S es k n h ad H locs ls hag hP hD hS hl
  unfold oAnd at h
  split at h
  · exact lv_iand hx hb hd (hN _ _ _ _ _ h ad H locs ls hag hP hD hS hl)
  · exact h.elim
def oDiv : gO := fun J N L S es k n => match S with | .int y :: .int x :: S' => ¬ y = 0 ∧ N L (.int (x / y) :: S') es k n | _ => False
theorem ok_idiv (hM : gM X l0 cc own Ts R0) (hd : decode cc pc = .ok (.idiv, 1)) : okO X pc (pc + 1) oDiv := by
  obtain ⟨p, l, e, R, s, m, args, below, meth, c, D, cA, A, ag, ad0, Q, nL⟩ := X
  obtain ⟨hx, hb, hown, hts, hml, hlk, hY, hA, hR, hL0⟩ := hM
  have hK := hY.1
  intro J N hJ hN L S es k n h ad H locs ls hag hP hD hS hl
  unfold oDiv at h
  split at h
  · obtain ⟨hz, h⟩ := h
    exact lv_idiv hx hb hd hz (hN _ _ _ _ _ h ad H locs ls hag hP hD hS hl)
  · exact h.elim
def oRem : gO := fun J N L S es k n => match S with | .int y :: .int x :: S' => ¬ y = 0 ∧ N L (.int (x - x / y * y) :: S') es k n | _ => False
theorem ok_irem (hM : gM X l0 cc own Ts R0) (hd : decode cc pc = .ok (.irem, 1)) : okO X pc (pc + 1) oRem := by
  obtain ⟨p, l, e, R, s, m, args, below, meth, c, D, cA, A, ag, ad0, Q, nL⟩ := X
  obtain ⟨hx, hb, hown, hts, hml, hlk, hY, hA, hR, hL0⟩ := hM
  have hK := hY.1
  intro J N hJ hN L S es k n h ad H locs ls hag hP hD hS hl
  unfold oRem at h
  split at h
  · obtain ⟨hz, h⟩ := h
    exact lv_irem hx hb hd hz (hN _ _ _ _ _ h ad H locs ls hag hP hD hS hl)
  · exact h.elim
def oI2L : gO := fun J N L S es k n => match S with | .int x :: S' => N L (.long x.toInt64 :: S') es k n | _ => False
theorem ok_i2l (hM : gM X l0 cc own Ts R0) (hd : decode cc pc = .ok (.i2l, 1)) : okO X pc (pc + 1) oI2L := by
  obtain ⟨p, l, e, R, s, m, args, below, meth, c, D, cA, A, ag, ad0, Q, nL⟩ := X
  obtain ⟨hx, hb, hown, hts, hml, hlk, hY, hA, hR, hL0⟩ := hM
  have hK := hY.1
  intro J N hJ hN L S es k n h ad H locs ls hag hP hD hS hl
  unfold oI2L at h
  split at h
  · exact lv_i2l hx hb hd rfl (hN _ _ _ _ _ h ad H locs ls hag hP hD hS hl)
  · exact h.elim
def oI2C : gO := fun J N L S es k n => match S with | .int x :: S' => N L (.int (x.toUInt32 % 65536).toInt32 :: S') es k n | _ => False
theorem ok_i2c (hM : gM X l0 cc own Ts R0) (hd : decode cc pc = .ok (.i2c, 1)) : okO X pc (pc + 1) oI2C := by
  obtain ⟨p, l, e, R, s, m, args, below, meth, c, D, cA, A, ag, ad0, Q, nL⟩ := X
  obtain ⟨hx, hb, hown, hts, hml, hlk, hY, hA, hR, hL0⟩ := hM
  have hK := hY.1
  intro J N hJ hN L S es k n h ad H locs ls hag hP hD hS hl
  unfold oI2C at h
  split at h
  · exact lv_i2c hx hb hd rfl (hN _ _ _ _ _ h ad H locs ls hag hP hD hS hl)
  · exact h.elim
def oI2D : gO := fun J N L S es k n => match S with | .int x :: S' => N L (.double (FP.i2d x) :: S') es k n | _ => False
theorem ok_i2d (hM : gM X l0 cc own Ts R0) (hd : decode cc pc = .ok (.i2d, 1)) : okO X pc (pc + 1) oI2D := by
  obtain ⟨p, l, e, R, s, m, args, below, meth, c, D, cA, A, ag, ad0, Q, nL⟩ := X
  obtain ⟨hx, hb, hown, hts, hml, hlk, hY, hA, hR, hL0⟩ := hM
  have hK := hY.1
  intro J N hJ hN L S es k n h ad H locs ls hag hP hD hS hl
  unfold oI2D at h
  split at h
  · exact lv_i2d hx hb hd (hN _ _ _ _ _ h ad H locs ls hag hP hD hS hl)
  · exact h.elim
def oDConst0 : gO := fun J N L S es k n => N L (.double FP.dconst0 :: S) es k n
theorem ok_dconst0 (hM : gM X l0 cc own Ts R0) (hd : decode cc pc = .ok (.dconst 0, 1)) : okO X pc (pc + 1) oDConst0 := by
  obtain ⟨p, l, e, R, s, m, args, below, meth, c, D, cA, A, ag, ad0, Q, nL⟩ := X
  obtain ⟨hx, hb, hown, hts, hml, hlk, hY, hA, hR, hL0⟩ := hM
  have hK := hY.1
  intro J N hJ hN L S es k n h ad H locs ls hag hP hD hS hl
  exact lv_dconst0 hx hb hd (hN _ _ _ _ _ h ad H locs ls hag hP hD hS hl)
def oLCmp : gO := fun J N L S es k n => match S with | .long y :: .long x :: S' => N L (.int (lg_cmp x y) :: S') es k n | _ => False
theorem ok_lcmp (hM : gM X l0 cc own Ts R0) (hd : decode cc pc = .ok (.lcmp, 1)) : okO X pc (pc + 1) oLCmp := by
  obtain ⟨p, l, e, R, s, m, args, below, meth, c, D, cA, A, ag, ad0, Q, nL⟩ := X
  obtain ⟨hx, hb, hown, hts, hml, hlk, hY, hA, hR, hL0⟩ := hM
  have hK := hY.1
  intro J N hJ hN L S es k n h ad H locs ls hag hP hD hS hl
  unfold oLCmp at h
  split at h
  · exact W.lcmp hx hb hd (hN _ _ _ _ _ h ad H locs ls hag hP hD hS hl)
  · exact h.elim
def oDCmp (op : CmpOp) : gO := fun J N L S es k n => match S with | .double y :: .double x :: S' => N L (.int (Op.cmpValue (FP.dcmp x y) op) :: S') es k n | _ => False
theorem ok_dcmp (hM : gM X l0 cc own Ts R0) {op : CmpOp} (hd : decode cc pc = .ok (.dcmp op, 1)) : okO X pc (pc + 1) (oDCmp op) := by
  obtain ⟨p, l, e, R, s, m, args, below, meth, c, D, cA, A, ag, ad0, Q, nL⟩ := X
  obtain ⟨hx, hb, hown, hts, hml, hlk, hY, hA, hR, hL0⟩ := hM
  have hK := hY.1
  intro J N hJ hN L S es k n h ad H locs ls hag hP hD hS hl
  unfold oDCmp at h
  split at h
  · exact lv_dcmp hx hb hd (hN _ _ _ _ _ h ad H locs ls hag hP hD hS hl)
  · exact h.elim
def oDDiv : gO := fun J N L S es k n => match S with | .double y :: .double x :: S' => vf_n64 (FP.ddiv x y) ∧ N L (.double (FP.ddiv x y) :: S') es k n | _ => False
theorem ok_ddiv (hM : gM X l0 cc own Ts R0) (hd : decode cc pc = .ok (.ddiv, 1)) : okO X pc (pc + 1) oDDiv := by
  obtain ⟨p, l, e, R, s, m, args, below, meth, c, D, cA, A, ag, ad0, Q, nL⟩ := X
  obtain ⟨hx, hb, hown, hts, hml, hlk, hY, hA, hR, hL0⟩ := hM
  have hK := hY.1
  intro J N hJ hN L S es k n h ad H locs ls hag hP hD hS hl
  unfold oDDiv at h
  split at h
  · obtain ⟨hz, h⟩ := h
    exact lv_ddiv hx hb hd hz (hN _ _ _ _ _ h ad H locs ls hag hP hD hS hl)
  · exact h.elim
def oDup : gO := fun J N L S es k n => match S with | v :: S' => gif (!(cat2 v)) (N L (v :: v :: S') es k n) | _ => False
theorem cat1_of {b : Bool} {P : Prop} (h : gif (!b) P) : b = false ∧ P := by
  cases b
  · exact ⟨rfl, h⟩
  · exact h.elim
theorem cat1 {v : Value} {ad : Nat → Nat} (h : cat2 v = false) : (gv ad v).category = 1 := by
  cases v <;> first | rfl | cases h
theorem ok_dup (hM : gM X l0 cc own Ts R0) (hd : decode cc pc = .ok (.dup, 1)) : okO X pc (pc + 1) oDup := by
  obtain ⟨p, l, e, R, s, m, args, below, meth, c, D, cA, A, ag, ad0, Q, nL⟩ := X
  obtain ⟨hx, hb, hown, hts, hml, hlk, hY, hA, hR, hL0⟩ := hM
  have hK := hY.1
  intro J N hJ hN L S es k n h ad H locs ls hag hP hD hS hl
  unfold oDup at h
  split at h
  · obtain ⟨hc, h⟩ := cat1_of h
    exact lv_dup hx hb hd (cat1 hc) (hN _ _ _ _ _ h ad H locs ls hag hP hD hS hl)
  · exact h.elim
def oPop : gO := fun J N L S es k n => match S with | v :: S' => gif (!(cat2 v)) (N L S' es k n) | _ => False
theorem ok_pop (hM : gM X l0 cc own Ts R0) (hd : decode cc pc = .ok (.pop, 1)) : okO X pc (pc + 1) oPop := by
  obtain ⟨p, l, e, R, s, m, args, below, meth, c, D, cA, A, ag, ad0, Q, nL⟩ := X
  obtain ⟨hx, hb, hown, hts, hml, hlk, hY, hA, hR, hL0⟩ := hM
  have hK := hY.1
  intro J N hJ hN L S es k n h ad H locs ls hag hP hD hS hl
  unfold oPop at h
  split at h
  · obtain ⟨hc, h⟩ := cat1_of h
    exact lv_pop hx hb hd (cat1 hc) (hN _ _ _ _ _ h ad H locs ls hag hP hD hS hl)
  · exact h.elim
def oDup2 : gO := fun J N L S es k n => match S with | v :: v' :: S' => gif (!(cat2 v)) (gif (!(cat2 v')) (N L (v :: v' :: v :: v' :: S') es k n)) | _ => False
theorem ok_dup2 (hM : gM X l0 cc own Ts R0) (hd : decode cc pc = .ok (.dup2, 1)) : okO X pc (pc + 1) oDup2 := by
  obtain ⟨p, l, e, R, s, m, args, below, meth, c, D, cA, A, ag, ad0, Q, nL⟩ := X
  obtain ⟨hx, hb, hown, hts, hml, hlk, hY, hA, hR, hL0⟩ := hM
  have hK := hY.1
  intro J N hJ hN L S es k n h ad H locs ls hag hP hD hS hl
  unfold oDup2 at h
  split at h
  · obtain ⟨hc, h⟩ := cat1_of h
    obtain ⟨hc', h⟩ := cat1_of h
    exact lv_dup2_11 hx hb hd (cat1 hc) (cat1 hc') (hN _ _ _ _ _ h ad H locs ls hag hP hD hS hl)
  · exact h.elim
def oICmp_eq (t : Nat) : gO := fun J N L S es k n => match S with | .int y :: .int x :: S' => (x = y → J t L S' es k n) ∧ (¬ x = y → N L S' es k n) | _ => False
theorem ok_icmp_eq (hM : gM X l0 cc own Ts R0) {off : Int} (t : Nat) (hd : decode cc pc = .ok (.if_icmp .eq off, 3)) (ht : (pc : Int) + off = (t : Int)) : okO X pc (pc + 3) (oICmp_eq t) := by
  obtain ⟨p, l, e, R, s, m, args, below, meth, c, D, cA, A, ag, ad0, Q, nL⟩ := X
  obtain ⟨hx, hb, hown, hts, hml, hlk, hY, hA, hR, hL0⟩ := hM
  have hK := hY.1
  intro J N hJ hN L S es k n h ad H locs ls hag hP hD hS hl
  unfold oICmp_eq at h
  split at h
  · exact lv_icmp_eq hx hb hd ht (fun hc => hJ _ _ _ _ _ _ (h.1 hc) ad H locs ls hag hP hD hS hl) (fun hc => hN _ _ _ _ _ (h.2 hc) ad H locs ls hag hP hD hS hl)
  · exact h.elim
def oIf_eq (t : Nat) : gO := fun J N L S es k n => match S with | .int x :: S' => (x = 0 → J t L S' es k n) ∧ (¬ x = 0 → N L S' es k n) | _ => False
theorem ok_if_eq (hM : gM X l0 cc own Ts R0) {off : Int} (t : Nat) (hd : decode cc pc = .ok (.ifCond .eq off, 3)) (ht : (pc : Int) + off = (t : Int)) : okO X pc (pc + 3) (oIf_eq t) := by
  obtain ⟨p, l, e, R, s, m, args, below, meth, c, D, cA, A, ag, ad0, Q, nL⟩ := X
  obtain ⟨hx, hb, hown, hts, hml, hlk, hY, hA, hR, hL0⟩ := hM
  have hK := hY.1
  intro J N hJ hN L S es k n h ad H locs ls hag hP hD hS hl
  unfold oIf_eq at h
  split at h
  · exact lv_if_eq hx hb hd ht (fun hc => hJ _ _ _ _ _ _ (h.1 hc) ad H locs ls hag hP hD hS hl) (fun hc => hN _ _ _ _ _ (h.2 hc) ad H locs ls hag hP hD hS hl)
  · exact h.elim
def oICmp_ne (t : Nat) : gO := fun J N L S es k n => match S with | .int y :: .int x :: S' => (¬ x = y → J t L S' es k n) ∧ (x = y → N L S' es k n) | _ => False
theorem ok_icmp_ne (hM : gM X l0 cc own Ts R0) {off : Int} (t : Nat) (hd : decode cc pc = .ok (.if_icmp .ne off, 3)) (ht : (pc : Int) + off = (t : Int)) : okO X pc (pc + 3) (oICmp_ne t) := by
  obtain ⟨p, l, e, R, s, m, args, below, meth, c, D, cA, A, ag, ad0, Q, nL⟩ := X
  obtain ⟨hx, hb, hown, hts, hml, hlk, hY, hA, hR, hL0⟩ := hM
  have hK := hY.1
  intro J N hJ hN L S es k n h ad H locs ls hag hP hD hS hl
  unfold oICmp_ne at h
  split at h
  · exact lv_icmp_ne hx hb hd ht (fun hc => hJ _ _ _ _ _ _ (h.1 hc) ad H locs ls hag hP hD hS hl) (fun hc => hN _ _ _ _ _ (h.2 hc) ad H locs ls hag hP hD hS hl)
  · exact h.elim
def oIf_ne (t : Nat) : gO := fun J N L S es k n => match S with | .int x :: S' => (¬ x = 0 → J t L S' es k n) ∧ (x = 0 → N L S' es k n) | _ => False
theorem ok_if_ne (hM : gM X l0 cc own Ts R0) {off : Int} (t : Nat) (hd : decode cc pc = .ok (.ifCond .ne off, 3)) (ht : (pc : Int) + off = (t : Int)) : okO X pc (pc + 3) (oIf_ne t) := by
  obtain ⟨p, l, e, R, s, m, args, below, meth, c, D, cA, A, ag, ad0, Q, nL⟩ := X
  obtain ⟨hx, hb, hown, hts, hml, hlk, hY, hA, hR, hL0⟩ := hM
  have hK := hY.1
  intro J N hJ hN L S es k n h ad H locs ls hag hP hD hS hl
  unfold oIf_ne at h
  split at h
  · exact lv_if_ne hx hb hd ht (fun hc => hJ _ _ _ _ _ _ (h.1 hc) ad H locs ls hag hP hD hS hl) (fun hc => hN _ _ _ _ _ (h.2 hc) ad H locs ls hag hP hD hS hl)
  · exact h.elim
def oICmp_lt (t : Nat) : gO := fun J N L S es k n => match S with | .int y :: .int x :: S' => (x < y → J t L S' es k n) ∧ (¬ x < y → N L S' es k n) | _ => False
theorem ok_icmp_lt (hM : gM X l0 cc own Ts R0) {off : Int} (t : Nat) (hd : decode cc pc = .ok (.if_icmp .lt off, 3)) (ht : (pc : Int) + off = (t : Int)) : okO X pc (pc + 3) (oICmp_lt t) := by
  obtain ⟨p, l, e, R, s, m, args, below, meth, c, D, cA, A, ag, ad0, Q, nL⟩ := X
  obtain ⟨hx, hb, hown, hts, hml, hlk, hY, hA, hR, hL0⟩ := hM
  have hK := hY.1
  intro J N hJ hN L S es k n h ad H locs ls hag hP hD hS hl
  unfold oICmp_lt at h
  split at h
  · exact lv_icmp_lt hx hb hd ht (fun hc => hJ _ _ _ _ _ _ (h.1 hc) ad H locs ls hag hP hD hS hl) (fun hc => hN _ _ _ _ _ (h.2 hc) ad H locs ls hag hP hD hS hl)
  · exact h.elim
def oIf_lt (t : Nat) : gO := fun J N L S es k n => match S with | .int x :: S' => (x < 0 → J t L S' es k n) ∧ (¬ x < 0 → N L S' es k n) | _ => False
theorem ok_if_lt (hM : gM X l0 cc own Ts R0) {off : Int} (t : Nat) (hd : decode cc pc = .ok (.ifCond .lt off, 3)) (ht : (pc : Int) + off = (t : Int)) : okO X pc (pc + 3) (oIf_lt t) := by
  obtain ⟨p, l, e, R, s, m, args, below, meth, c, D, cA, A, ag, ad0, Q, nL⟩ := X
  obtain ⟨hx, hb, hown, hts, hml, hlk, hY, hA, hR, hL0⟩ := hM
  have hK := hY.1
  intro J N hJ hN L S es k n h ad H locs ls hag hP hD hS hl
  unfold oIf_lt at h
  split at h
  · exact lv_if_lt hx hb hd ht (fun hc => hJ _ _ _ _ _ _ (h.1 hc) ad H locs ls hag hP hD hS hl) (fun hc => hN _ _ _ _ _ (h.2 hc) ad H locs ls hag hP hD hS hl)
  · exact h.elim
def oICmp_ge (t : Nat) : gO := fun J N L S es k n => match S with | .int y :: .int x :: S' => (y ≤ x → J t L S' es k n) ∧ (¬ y ≤ x → N L S' es k n) | _ => False
theorem ok_icmp_ge (hM : gM X l0 cc own Ts R0) {off : Int} (t : Nat) (hd : decode cc pc = .ok (.if_icmp .ge off, 3)) (ht : (pc : Int) + off = (t : Int)) : okO X pc (pc + 3) (oICmp_ge t) := by
  obtain ⟨p, l, e, R, s, m, args, below, meth, c, D, cA, A, ag, ad0, Q, nL⟩ := X
  obtain ⟨hx, hb, hown, hts, hml, hlk, hY, hA, hR, hL0⟩ := hM
  have hK := hY.1
  intro J N hJ hN L S es k n h ad H locs ls hag hP hD hS hl
  unfold oICmp_ge at h
  split at h
  · exact lv_icmp_ge hx hb hd ht (fun hc => hJ _ _ _ _ _ _ (h.1 hc) ad H locs ls hag hP hD hS hl) (fun hc => hN _ _ _ _ _ (h.2 hc) ad H locs ls hag hP hD hS hl)
  · exact h.elim
def oIf_ge (t : Nat) : gO := fun J N L S es k n => match S with | .int x :: S' => (0 ≤ x → J t L S' es k n) ∧ (¬ 0 ≤ x → N L S' es k n) | _ => False
theorem ok_if_ge (hM : gM X l0 cc own Ts R0) {off : Int} (t : Nat) (hd : decode cc pc = .ok (.ifCond .ge off, 3)) (ht : (pc : Int) + off = (t : Int)) : okO X pc (pc + 3) (oIf_ge t) := by
  obtain ⟨p, l, e, R, s, m, args, below, meth, c, D, cA, A, ag, ad0, Q, nL⟩ := X
  obtain ⟨hx, hb, hown, hts, hml, hlk, hY, hA, hR, hL0⟩ := hM
  have hK := hY.1
  intro J N hJ hN L S es k n h ad H locs ls hag hP hD hS hl
  unfold oIf_ge at h
  split at h
  · exact lv_if_ge hx hb hd ht (fun hc => hJ _ _ _ _ _ _ (h.1 hc) ad H locs ls hag hP hD hS hl) (fun hc => hN _ _ _ _ _ (h.2 hc) ad H locs ls hag hP hD hS hl)
  · exact h.elim
def oICmp_gt (t : Nat) : gO := fun J N L S es k n => match S with | .int y :: .int x :: S' => (y < x → J t L S' es k n) ∧ (¬ y < x → N L S' es k n) | _ => False
theorem ok_icmp_gt (hM : gM X l0 cc own Ts R0) {off : Int} (t : Nat) (hd : decode cc pc = .ok (.if_icmp .gt off, 3)) (ht : (pc : Int) + off = (t : Int)) : okO X pc (pc + 3) (oICmp_gt t) := by
  obtain ⟨p, l, e, R, s, m, args, below, meth, c, D, cA, A, ag, ad0, Q, nL⟩ := X
  obtain ⟨hx, hb, hown, hts, hml, hlk, hY, hA, hR, hL0⟩ := hM
  have hK := hY.1
  intro J N hJ hN L S es k n h ad H locs ls hag hP hD hS hl
  unfold oICmp_gt at h
  split at h
  · exact lv_icmp_gt hx hb hd ht (fun hc => hJ _ _ _ _ _ _ (h.1 hc) ad H locs ls hag hP hD hS hl) (fun hc => hN _ _ _ _ _ (h.2 hc) ad H locs ls hag hP hD hS hl)
  · exact h.elim
def oIf_gt (t : Nat) : gO := fun J N L S es k n => match S with | .int x :: S' => (0 < x → J t L S' es k n) ∧ (¬ 0 < x → N L S' es k n) | _ => False
theorem ok_if_gt (hM : gM X l0 cc own Ts R0) {off : Int} (t : Nat) (hd : decode cc pc = .ok (.ifCond .gt off, 3)) (ht : (pc : Int) + off = (t : Int)) : okO X pc (pc + 3) (oIf_gt t) := by
  obtain ⟨p, l, e, R, s, m, args, below, meth, c, D, cA, A, ag, ad0, Q, nL⟩ := X
  obtain ⟨hx, hb, hown, hts, hml, hlk, hY, hA, hR, hL0⟩ := hM
  have hK := hY.1
  intro J N hJ hN L S es k n h ad H locs ls hag hP hD hS hl
  unfold oIf_gt at h
  split at h
  · exact lv_if_gt hx hb hd ht (fun hc => hJ _ _ _ _ _ _ (h.1 hc) ad H locs ls hag hP hD hS hl) (fun hc => hN _ _ _ _ _ (h.2 hc) ad H locs ls hag hP hD hS hl)
  · exact h.elim
def oICmp_le (t : Nat) : gO := fun J N L S es k n => match S with | .int y :: .int x :: S' => (x ≤ y → J t L S' es k n) ∧ (¬ x ≤ y → N L S' es k n) | _ => False
theorem ok_icmp_le (hM : gM X l0 cc own Ts R0) {off : Int} (t : Nat) (hd : decode cc pc = .ok (.if_icmp .le off, 3)) (ht : (pc : Int) + off = (t : Int)) : okO X pc (pc + 3) (oICmp_le t) := by
  obtain ⟨p, l, e, R, s, m, args, below, meth, c, D, cA, A, ag, ad0, Q, nL⟩ := X
  obtain ⟨hx, hb, hown, hts, hml, hlk, hY, hA, hR, hL0⟩ := hM
  have hK := hY.1
  intro J N hJ hN L S es k n h ad H locs ls hag hP hD hS hl
  unfold oICmp_le at h
  split at h
  · exact lv_icmp_le hx hb hd ht (fun hc => hJ _ _ _ _ _ _ (h.1 hc) ad H locs ls hag hP hD hS hl) (fun hc => hN _ _ _ _ _ (h.2 hc) ad H locs ls hag hP hD hS hl)
  · exact h.elim
def oIf_le (t : Nat) : gO := fun J N L S es k n => match S with | .int x :: S' => (x ≤ 0 → J t L S' es k n) ∧ (¬ x ≤ 0 → N L S' es k n) | _ => False
theorem ok_if_le (hM : gM X l0 cc own Ts R0) {off : Int} (t : Nat) (hd : decode cc pc = .ok (.ifCond .le off, 3)) (ht : (pc : Int) + off = (t : Int)) : okO X pc (pc + 3) (oIf_le t) := by
  obtain ⟨p, l, e, R, s, m, args, below, meth, c, D, cA, A, ag, ad0, Q, nL⟩ := X
  obtain ⟨hx, hb, hown, hts, hml, hlk, hY, hA, hR, hL0⟩ := hM
  have hK := hY.1
  intro J N hJ hN L S es k n h ad H locs ls hag hP hD hS hl
  unfold oIf_le at h
  split at h
  · exact lv_if_le hx hb hd ht (fun hc => hJ _ _ _ _ _ _ (h.1 hc) ad H locs ls hag hP hD hS hl) (fun hc => hN _ _ _ _ _ (h.2 hc) ad H locs ls hag hP hD hS hl)
  · exact h.elim
def oGoto (t : Nat) : gO := fun J N L S es k n => J t L S es k n
theorem ok_goto (hM : gM X l0 cc own Ts R0) {nx : Nat} {off : Int} (t : Nat) (hd : decode cc pc = .ok (.goto off, 3)) (ht : (pc : Int) + off = (t : Int)) : okO X pc nx (oGoto t) := by
  obtain ⟨p, l, e, R, s, m, args, below, meth, c, D, cA, A, ag, ad0, Q, nL⟩ := X
  obtain ⟨hx, hb, hown, hts, hml, hlk, hY, hA, hR, hL0⟩ := hM
  have hK := hY.1
  intro J N hJ hN L S es k n h ad H locs ls hag hP hD hS hl
  exact lv_goto hx hb hd ht (hJ _ _ _ _ _ _ h ad H locs ls hag hP hD hS hl)
def eObj (es : List gE) (a ci : Nat) (F : List Value → Prop) : Prop := match gnth es a with | some (.inr (c, fs)) => gif (Nat.beq c ci) (F fs) | _ => False
def eInt (es : List gE) (a tg : Nat) (F : Nat → (Nat → Int32) → Prop) : Prop := match gnth es a with | some (.inl (t, sz, .inl f)) => gif (Nat.beq t tg && Nat.ble sz 100000) (F sz f) | _ => False
def eLng (es : List gE) (a tg : Nat) (F : Nat → (Nat → Int64) → Prop) : Prop := match gnth es a with | some (.inl (t, sz, .inr (.inl f))) => gif (Nat.beq t tg && Nat.ble sz 100000) (F sz f) | _ => False
def eDbl (es : List gE) (a tg : Nat) (F : Nat → (Nat → UInt64) → Prop) : Prop := match gnth es a with | some (.inl (t, sz, .inr (.inr (.inl f)))) => gif (Nat.beq t tg && Nat.ble sz 100000) (F sz f) | _ => False
def eRef (es : List gE) (a tg : Nat) (F : Nat → List (Option Nat) → Prop) : Prop := match gnth es a with | some (.inl (t, sz, .inr (.inr (.inr f)))) => gif (Nat.beq t tg && Nat.ble sz 100000) (F sz f) | _ => False
theorem sz_lt {sz : Nat} (h : Nat.ble sz 100000 = true) : sz < 2 ^ 31 := by
  have := Nat.le_of_ble_eq_true h
  omega
theorem eObj_ok {es : List gE} {a ci : Nat} {F : List Value → Prop} (h : eObj es a ci F) : ∃ fs, es[a]? = some (.inr (ci, fs)) ∧ F fs := by
  unfold eObj at h
  rw [← gnth_eq]
  cases hg : gnth es a with
  | none => rw [hg] at h; exact h.elim
  | some e =>
    rw [hg] at h
    rcases e with d | ⟨c, fs⟩
    · exact h.elim
    · obtain ⟨h1, h2⟩ := bif_t (b := Nat.beq c ci) (P := F fs) h
      have h1 := Nat.eq_of_beq_eq_true h1
      subst h1
      exact ⟨fs, rfl, h2⟩
theorem eInt_ok {es : List gE} {a tg : Nat} {F : Nat → (Nat → Int32) → Prop} (h : eInt es a tg F) : ∃ sz f, es[a]? = some (.inl (tg, sz, .inl f)) ∧ sz < 2 ^ 31 ∧ F sz f := by
  unfold eInt at h
  rw [← gnth_eq]
  cases hg : gnth es a with
  | none => rw [hg] at h; exact h.elim
  | some e =>
    rw [hg] at h
    rcases e with ⟨t, sz, f | d⟩ | ⟨c, fs⟩
    · obtain ⟨h1, h2⟩ := bif_t (b := Nat.beq t tg && Nat.ble sz 100000) (P := F sz f) h
      obtain ⟨h1, h3⟩ := and_t h1
      have h1 := Nat.eq_of_beq_eq_true h1
      subst h1
      exact ⟨sz, f, rfl, sz_lt h3, h2⟩
    · exact h.elim
    · exact h.elim
theorem eLng_ok {es : List gE} {a tg : Nat} {F : Nat → (Nat → Int64) → Prop} (h : eLng es a tg F) : ∃ sz f, es[a]? = some (.inl (tg, sz, .inr (.inl f))) ∧ sz < 2 ^ 31 ∧ F sz f := by
  unfold eLng at h
  rw [← gnth_eq]
  cases hg : gnth es a with
  | none => rw [hg] at h; exact h.elim
  | some e =>
    rw [hg] at h
    rcases e with ⟨t, sz, d | f | d⟩ | ⟨c, fs⟩
    · exact h.elim
    · obtain ⟨h1, h2⟩ := bif_t (b := Nat.beq t tg && Nat.ble sz 100000) (P := F sz f) h
      obtain ⟨h1, h3⟩ := and_t h1
      have h1 := Nat.eq_of_beq_eq_true h1
      subst h1
      exact ⟨sz, f, rfl, sz_lt h3, h2⟩
    · exact h.elim
    · exact h.elim
theorem eDbl_ok {es : List gE} {a tg : Nat} {F : Nat → (Nat → UInt64) → Prop} (h : eDbl es a tg F) : ∃ sz f, es[a]? = some (.inl (tg, sz, .inr (.inr (.inl f)))) ∧ sz < 2 ^ 31 ∧ F sz f := by
  unfold eDbl at h
  rw [← gnth_eq]
  cases hg : gnth es a with
  | none => rw [hg] at h; exact h.elim
  | some e =>
    rw [hg] at h
    rcases e with ⟨t, sz, d | d | f | d⟩ | ⟨c, fs⟩
    · exact h.elim
    · exact h.elim
    · obtain ⟨h1, h2⟩ := bif_t (b := Nat.beq t tg && Nat.ble sz 100000) (P := F sz f) h
      obtain ⟨h1, h3⟩ := and_t h1
      have h1 := Nat.eq_of_beq_eq_true h1
      subst h1
      exact ⟨sz, f, rfl, sz_lt h3, h2⟩
    · exact h.elim
    · exact h.elim
theorem eRef_ok {es : List gE} {a tg : Nat} {F : Nat → (List (Option Nat)) → Prop} (h : eRef es a tg F) : ∃ sz f, es[a]? = some (.inl (tg, sz, .inr (.inr (.inr f)))) ∧ sz < 2 ^ 31 ∧ F sz f := by
  unfold eRef at h
  rw [← gnth_eq]
  cases hg : gnth es a with
  | none => rw [hg] at h; exact h.elim
  | some e =>
    rw [hg] at h
    rcases e with ⟨t, sz, d | d | d | f⟩ | ⟨c, fs⟩
    · exact h.elim
    · exact h.elim
    · exact h.elim
    · obtain ⟨h1, h2⟩ := bif_t (b := Nat.beq t tg && Nat.ble sz 100000) (P := F sz f) h
      obtain ⟨h1, h3⟩ := and_t h1
      have h1 := Nat.eq_of_beq_eq_true h1
      subst h1
      exact ⟨sz, f, rfl, sz_lt h3, h2⟩
    · exact h.elim
def oGet (ci j : Nat) : gO := fun J N L S es k n => match S with | .ref a :: S' => eObj es a ci (fun fs => match vnth fs j with | some v => N L (v :: S') es k n | none => False) | _ => False
theorem ok_get (hM : gM X l0 cc own Ts R0) {ref C : String} {T : u_T} {Nf ci index : Nat} (hin : ∀ w ∈ u_ws C T Nf, w ∈ Ts) (hc : vwCl[ci]? = some (C, T, Nf)) (j : Nat) (hj : j < Nf) (hlink : (Cond.fieldLink own index ref (T j).2.1 (T j).2.2.1) ∈ Ts) (href : (T j).1 = ref) (hd : decode cc pc = .ok (.getfield index, 3)) : okO X pc (pc + 3) (oGet ci j) := by
  obtain ⟨p, l, e, R, s, m, args, below, meth, c, D, cA, A, ag, ad0, Q, nL⟩ := X
  obtain ⟨hx, hb, hown, hts, hml, hlk, hY, hA, hR, hL0⟩ := hM
  have hK := hY.1
  intro J N hJ hN L S es k n h ad H locs ls hag hP hD hS hl
  unfold oGet at h
  split at h
  · rename_i a S'
    obtain ⟨fs, hes, h⟩ := eObj_ok h
    split at h
    · rename_i v hv
      rw [vnth_eq] at hv
      exact va_get (fs := fs.map (gv ad)) hx hb hts hin hown hK hP a (gw_get hes) hc j hj (hts _ hlink) (fun x h9 => by rw [← href]; exact h9) (by rw [List.getElem?_map, hv]; rfl) hd (hN _ _ _ _ _ h ad H locs ls hag hP hD hS hl)
    · exact h.elim
  · exact h.elim
def oPutI (ci j : Nat) : gO := fun J N L S es k n => match S with | .int v :: .ref a :: S' => eObj es a ci (fun fs => gif (Nat.ble (j + 1) fs.length) (N L S' (es.set a (.inr (ci, fs.set j (.int v)))) k n)) | _ => False
theorem ok_putI (hM : gM X l0 cc own Ts R0) {ref C : String} {T : u_T} {Nf ci index : Nat} (hin : ∀ w ∈ u_ws C T Nf, w ∈ Ts) (ty0 : Nat → FieldType) (hty : ∀ k, k < Nf → parseFieldDescriptor (T k).2.2.1 = some (ty0 k)) (hnm : ∀ a, a < Nf → ∀ b, b < Nf → a ≠ b → (T a).2.1 ≠ (T b).2.1) (hc : vwCl[ci]? = some (C, T, Nf)) (j : Nat) (hj : j < Nf) (hlink : (Cond.fieldLink own index ref (T j).2.1 (T j).2.2.1) ∈ Ts) (href : (T j).1 = ref) (hfin : (T j).2.2.2 = false) (hty0 : parseFieldDescriptor (T j).2.2.1 = some .int) (hd : decode cc pc = .ok (.putfield index, 3)) : okO X pc (pc + 3) (oPutI ci j) := by
  obtain ⟨p, l, e, R, s, m, args, below, meth, c, D, cA, A, ag, ad0, Q, nL⟩ := X
  obtain ⟨hx, hb, hown, hts, hml, hlk, hY, hA, hR, hL0⟩ := hM
  have hK := hY.1
  intro J N hJ hN L S es k n h ad H locs ls hag hP hD hS hl
  unfold oPutI at h
  split at h
  · rename_i v a S'
    obtain ⟨fs, hes, h⟩ := eObj_ok h
    obtain ⟨hlen, h⟩ := bif_t h
    refine va_put (fs := fs.map (gv ad)) (v := gv ad (.int v)) (ty := .int) hx hb hts hin ty0 hty hnm hown hK hP hD hS a (gw_get hes) hc j hj (hts _ hlink) (fun x h9 => by rw [← href]; exact h9) hfin hty0 rfl rfl (by rw [List.length_map]; exact Nat.le_of_ble_eq_true hlen) hd (fun H1 locs1 hP1 hD1 hS1 => hN _ _ _ _ _ h ad H1 locs1 ls hag ?_ ?_ hS1 hl)
    · rw [← gw_set]; simp only [ge, List.map_set]; exact hP1
    · rw [← gw_set]; simp only [ge, List.map_set]; exact hD1
  · exact h.elim
def gInit (X : gX) : Prop := match X with | (_, _, _, _, _, _, _, _, meth, _) => meth.name = "<init>"
theorem ok_putIF (hM : gM X l0 cc own Ts R0) {ref C : String} {T : u_T} {Nf ci index : Nat} (hin : ∀ w ∈ u_ws C T Nf, w ∈ Ts) (ty0 : Nat → FieldType) (hty : ∀ k, k < Nf → parseFieldDescriptor (T k).2.2.1 = some (ty0 k)) (hnm : ∀ a, a < Nf → ∀ b, b < Nf → a ≠ b → (T a).2.1 ≠ (T b).2.1) (hc : vwCl[ci]? = some (C, T, Nf)) (j : Nat) (hj : j < Nf) (hlink : (Cond.fieldLink own index ref (T j).2.1 (T j).2.2.1) ∈ Ts) (href : (T j).1 = ref) (hfin : (T j).2.2.2 = true) (hin2 : gInit X) (hdecl : (T j).1 = own) (hty0 : parseFieldDescriptor (T j).2.2.1 = some .int) (hd : decode cc pc = .ok (.putfield index, 3)) : okO X pc (pc + 3) (oPutI ci j) := by
  obtain ⟨p, l, e, R, s, m, args, below, meth, c, D, cA, A, ag, ad0, Q, nL⟩ := X
  obtain ⟨hx, hb, hown, hts, hml, hlk, hY, hA, hR, hL0⟩ := hM
  have hK := hY.1
  intro J N hJ hN L S es k n h ad H locs ls hag hP hD hS hl
  unfold oPutI at h
  split at h
  · rename_i v a S'
    obtain ⟨fs, hes, h⟩ := eObj_ok h
    obtain ⟨hlen, h⟩ := bif_t h
    refine va_putF (fs := fs.map (gv ad)) (v := gv ad (.int v)) (ty := .int) hx hb hts hin ty0 hty hnm hown hK hP hD hS a (gw_get hes) hc j hj (hts _ hlink) (fun x h9 => by rw [← href]; exact h9) hfin hin2 hdecl hty0 rfl rfl (by rw [List.length_map]; exact Nat.le_of_ble_eq_true hlen) hd (fun H1 locs1 hP1 hD1 hS1 => hN _ _ _ _ _ h ad H1 locs1 ls hag ?_ ?_ hS1 hl)
    · rw [← gw_set]; simp only [ge, List.map_set]; exact hP1
    · rw [← gw_set]; simp only [ge, List.map_set]; exact hD1
  · exact h.elim
def oPutR (ci j : Nat) : gO := fun J N L S es k n => match S with | .ref v :: .ref a :: S' => eObj es a ci (fun fs => gif (Nat.ble (j + 1) fs.length) (N L S' (es.set a (.inr (ci, fs.set j (.ref v)))) k n)) | _ => False
theorem ok_putR (hM : gM X l0 cc own Ts R0) {ref C : String} {T : u_T} {Nf ci index : Nat} (hin : ∀ w ∈ u_ws C T Nf, w ∈ Ts) (ty0 : Nat → FieldType) (hty : ∀ k, k < Nf → parseFieldDescriptor (T k).2.2.1 = some (ty0 k)) (hnm : ∀ a, a < Nf → ∀ b, b < Nf → a ≠ b → (T a).2.1 ≠ (T b).2.1) (hc : vwCl[ci]? = some (C, T, Nf)) (j : Nat) (hj : j < Nf) (hlink : (Cond.fieldLink own index ref (T j).2.1 (T j).2.2.1) ∈ Ts) (href : (T j).1 = ref) (hfin : (T j).2.2.2 = false) {cn : String} (hty0 : parseFieldDescriptor (T j).2.2.1 = some (.object cn)) (hd : decode cc pc = .ok (.putfield index, 3)) : okO X pc (pc + 3) (oPutR ci j) := by
  obtain ⟨p, l, e, R, s, m, args, below, meth, c, D, cA, A, ag, ad0, Q, nL⟩ := X
  obtain ⟨hx, hb, hown, hts, hml, hlk, hY, hA, hR, hL0⟩ := hM
  have hK := hY.1
  intro J N hJ hN L S es k n h ad H locs ls hag hP hD hS hl
  unfold oPutR at h
  split at h
  · rename_i v a S'
    obtain ⟨fs, hes, h⟩ := eObj_ok h
    obtain ⟨hlen, h⟩ := bif_t h
    refine va_put (fs := fs.map (gv ad)) (v := gv ad (.ref v)) (ty := .object cn) hx hb hts hin ty0 hty hnm hown hK hP hD hS a (gw_get hes) hc j hj (hts _ hlink) (fun x h9 => by rw [← href]; exact h9) hfin hty0 rfl rfl (by rw [List.length_map]; exact Nat.le_of_ble_eq_true hlen) hd (fun H1 locs1 hP1 hD1 hS1 => hN _ _ _ _ _ h ad H1 locs1 ls hag ?_ ?_ hS1 hl)
    · rw [← gw_set]; simp only [ge, List.map_set]; exact hP1
    · rw [← gw_set]; simp only [ge, List.map_set]; exact hD1
  · exact h.elim
theorem ok_putRA (hM : gM X l0 cc own Ts R0) {ref C : String} {T : u_T} {Nf ci index : Nat} (hin : ∀ w ∈ u_ws C T Nf, w ∈ Ts) (ty0 : Nat → FieldType) (hty : ∀ k, k < Nf → parseFieldDescriptor (T k).2.2.1 = some (ty0 k)) (hnm : ∀ a, a < Nf → ∀ b, b < Nf → a ≠ b → (T a).2.1 ≠ (T b).2.1) (hc : vwCl[ci]? = some (C, T, Nf)) (j : Nat) (hj : j < Nf) (hlink : (Cond.fieldLink own index ref (T j).2.1 (T j).2.2.1) ∈ Ts) (href : (T j).1 = ref) (hfin : (T j).2.2.2 = false) {ct : FieldType} (hty0 : parseFieldDescriptor (T j).2.2.1 = some (.array ct)) (hd : decode cc pc = .ok (.putfield index, 3)) : okO X pc (pc + 3) (oPutR ci j) := by
  obtain ⟨p, l, e, R, s, m, args, below, meth, c, D, cA, A, ag, ad0, Q, nL⟩ := X
  obtain ⟨hx, hb, hown, hts, hml, hlk, hY, hA, hR, hL0⟩ := hM
  have hK := hY.1
  intro J N hJ hN L S es k n h ad H locs ls hag hP hD hS hl
  unfold oPutR at h
  split at h
  · rename_i v a S'
    obtain ⟨fs, hes, h⟩ := eObj_ok h
    obtain ⟨hlen, h⟩ := bif_t h
    refine va_put (fs := fs.map (gv ad)) (v := gv ad (.ref v)) (ty := .array ct) hx hb hts hin ty0 hty hnm hown hK hP hD hS a (gw_get hes) hc j hj (hts _ hlink) (fun x h9 => by rw [← href]; exact h9) hfin hty0 rfl rfl (by rw [List.length_map]; exact Nat.le_of_ble_eq_true hlen) hd (fun H1 locs1 hP1 hD1 hS1 => hN _ _ _ _ _ h ad H1 locs1 ls hag ?_ ?_ hS1 hl)
    · rw [← gw_set]; simp only [ge, List.map_set]; exact hP1
    · rw [← gw_set]; simp only [ge, List.map_set]; exact hD1
  · exact h.elim
theorem ok_putRF (hM : gM X l0 cc own Ts R0) {ref C : String} {T : u_T} {Nf ci index : Nat} (hin : ∀ w ∈ u_ws C T Nf, w ∈ Ts) (ty0 : Nat → FieldType) (hty : ∀ k, k < Nf → parseFieldDescriptor (T k).2.2.1 = some (ty0 k)) (hnm : ∀ a, a < Nf → ∀ b, b < Nf → a ≠ b → (T a).2.1 ≠ (T b).2.1) (hc : vwCl[ci]? = some (C, T, Nf)) (j : Nat) (hj : j < Nf) (hlink : (Cond.fieldLink own index ref (T j).2.1 (T j).2.2.1) ∈ Ts) (href : (T j).1 = ref) (hfin : (T j).2.2.2 = true) (hin2 : gInit X) (hdecl : (T j).1 = own) {cn : String} (hty0 : parseFieldDescriptor (T j).2.2.1 = some (.object cn)) (hd : decode cc pc = .ok (.putfield index, 3)) : okO X pc (pc + 3) (oPutR ci j) := by
  obtain ⟨p, l, e, R, s, m, args, below, meth, c, D, cA, A, ag, ad0, Q, nL⟩ := X
  obtain ⟨hx, hb, hown, hts, hml, hlk, hY, hA, hR, hL0⟩ := hM
  have hK := hY.1
  intro J N hJ hN L S es k n h ad H locs ls hag hP hD hS hl
  unfold oPutR at h
  split at h
  · rename_i v a S'
    obtain ⟨fs, hes, h⟩ := eObj_ok h
    obtain ⟨hlen, h⟩ := bif_t h
    refine va_putF (fs := fs.map (gv ad)) (v := gv ad (.ref v)) (ty := .object cn) hx hb hts hin ty0 hty hnm hown hK hP hD hS a (gw_get hes) hc j hj (hts _ hlink) (fun x h9 => by rw [← href]; exact h9) hfin hin2 hdecl hty0 rfl rfl (by rw [List.length_map]; exact Nat.le_of_ble_eq_true hlen) hd (fun H1 locs1 hP1 hD1 hS1 => hN _ _ _ _ _ h ad H1 locs1 ls hag ?_ ?_ hS1 hl)
    · rw [← gw_set]; simp only [ge, List.map_set]; exact hP1
    · rw [← gw_set]; simp only [ge, List.map_set]; exact hD1
  · exact h.elim
theorem ok_putRAF (hM : gM X l0 cc own Ts R0) {ref C : String} {T : u_T} {Nf ci index : Nat} (hin : ∀ w ∈ u_ws C T Nf, w ∈ Ts) (ty0 : Nat → FieldType) (hty : ∀ k, k < Nf → parseFieldDescriptor (T k).2.2.1 = some (ty0 k)) (hnm : ∀ a, a < Nf → ∀ b, b < Nf → a ≠ b → (T a).2.1 ≠ (T b).2.1) (hc : vwCl[ci]? = some (C, T, Nf)) (j : Nat) (hj : j < Nf) (hlink : (Cond.fieldLink own index ref (T j).2.1 (T j).2.2.1) ∈ Ts) (href : (T j).1 = ref) (hfin : (T j).2.2.2 = true) (hin2 : gInit X) (hdecl : (T j).1 = own) {ct : FieldType} (hty0 : parseFieldDescriptor (T j).2.2.1 = some (.array ct)) (hd : decode cc pc = .ok (.putfield index, 3)) : okO X pc (pc + 3) (oPutR ci j) := by
  obtain ⟨p, l, e, R, s, m, args, below, meth, c, D, cA, A, ag, ad0, Q, nL⟩ := X
  obtain ⟨hx, hb, hown, hts, hml, hlk, hY, hA, hR, hL0⟩ := hM
  have hK := hY.1
  intro J N hJ hN L S es k n h ad H locs ls hag hP hD hS hl
  unfold oPutR at h
  split at h
  · rename_i v a S'
    obtain ⟨fs, hes, h⟩ := eObj_ok h
    obtain ⟨hlen, h⟩ := bif_t h
    refine va_putF (fs := fs.map (gv ad)) (v := gv ad (.ref v)) (ty := .array ct) hx hb hts hin ty0 hty hnm hown hK hP hD hS a (gw_get hes) hc j hj (hts _ hlink) (fun x h9 => by rw [← href]; exact h9) hfin hin2 hdecl hty0 rfl rfl (by rw [List.length_map]; exact Nat.le_of_ble_eq_true hlen) hd (fun H1 locs1 hP1 hD1 hS1 => hN _ _ _ _ _ h ad H1 locs1 ls hag ?_ ?_ hS1 hl)
    · rw [← gw_set]; simp only [ge, List.map_set]; exact hP1
    · rw [← gw_set]; simp only [ge, List.map_set]; exact hD1
  · exact h.elim
def oIALd (tg : Nat) : gO := fun J N L S es k n => match S with | .int i :: .ref a :: S' => eInt es a tg (fun sz f => ∃ j : Nat, i = nI j ∧ j < sz ∧ N L (.int (f j) :: S') es k n) | _ => False
theorem ok_iald (hM : gM X l0 cc own Ts R0) (hd : decode cc pc = .ok (.iaload, 1)) : okO X pc (pc + 1) (oIALd 0) := by
  obtain ⟨p, l, e, R, s, m, args, below, meth, c, D, cA, A, ag, ad0, Q, nL⟩ := X
  obtain ⟨hx, hb, hown, hts, hml, hlk, hY, hA, hR, hL0⟩ := hM
  have hK := hY.1
  intro J N hJ hN L S es k n h ad H locs ls hag hP hD hS hl
  unfold oIALd at h
  split at h
  · rename_i i a S'
    obtain ⟨sz, f, hes, hsz, j, rfl, hj, h⟩ := eInt_ok h
    have hc9 : (nI j).toNatClampNeg = j := nI_clamp (Nat.lt_trans hj hsz)
    exact va_iald hx hb hK hP a 0 (gw_get hes) rfl (vp_in_nI hj hsz) hd (by rw [hc9]; exact hN _ _ _ _ _ h ad H locs ls hag hP hD hS hl)
  · exact h.elim
theorem ok_cald (hM : gM X l0 cc own Ts R0) (hd : decode cc pc = .ok (.caload, 1)) : okO X pc (pc + 1) (oIALd 1) := by
  obtain ⟨p, l, e, R, s, m, args, below, meth, c, D, cA, A, ag, ad0, Q, nL⟩ := X
  obtain ⟨hx, hb, hown, hts, hml, hlk, hY, hA, hR, hL0⟩ := hM
  have hK := hY.1
  intro J N hJ hN L S es k n h ad H locs ls hag hP hD hS hl
  unfold oIALd at h
  split at h
  · rename_i i a S'
    obtain ⟨sz, f, hes, hsz, j, rfl, hj, h⟩ := eInt_ok h
    have hc9 : (nI j).toNatClampNeg = j := nI_clamp (Nat.lt_trans hj hsz)
    exact va_cald hx hb hK hP a 1 (gw_get hes) rfl (vp_in_nI hj hsz) hd (by rw [hc9]; exact hN _ _ _ _ _ h ad H locs ls hag hP hD hS hl)
  · exact h.elim
theorem ok_zald (hM : gM X l0 cc own Ts R0) (hd : decode cc pc = .ok (.baload, 1)) : okO X pc (pc + 1) (oIALd 2) := by
  obtain ⟨p, l, e, R, s, m, args, below, meth, c, D, cA, A, ag, ad0, Q, nL⟩ := X
  obtain ⟨hx, hb, hown, hts, hml, hlk, hY, hA, hR, hL0⟩ := hM
  have hK := hY.1
  intro J N hJ hN L S es k n h ad H locs ls hag hP hD hS hl
  unfold oIALd at h
  split at h
  · rename_i i a S'
    obtain ⟨sz, f, hes, hsz, j, rfl, hj, h⟩ := eInt_ok h
    have hc9 : (nI j).toNatClampNeg = j := nI_clamp (Nat.lt_trans hj hsz)
    exact va_zald hx hb hK hP a 2 (gw_get hes) rfl (vp_in_nI hj hsz) hd (by rw [hc9]; exact hN _ _ _ _ _ h ad H locs ls hag hP hD hS hl)
  · exact h.elim
def oLALd : gO := fun J N L S es k n => match S with | .int i :: .ref a :: S' => eLng es a 3 (fun sz f => ∃ j : Nat, i = nI j ∧ j < sz ∧ N L (.long (f j) :: S') es k n) | _ => False
theorem ok_lald (hM : gM X l0 cc own Ts R0) (hd : decode cc pc = .ok (.laload, 1)) : okO X pc (pc + 1) oLALd := by
  obtain ⟨p, l, e, R, s, m, args, below, meth, c, D, cA, A, ag, ad0, Q, nL⟩ := X
  obtain ⟨hx, hb, hown, hts, hml, hlk, hY, hA, hR, hL0⟩ := hM
  have hK := hY.1
  intro J N hJ hN L S es k n h ad H locs ls hag hP hD hS hl
  unfold oLALd at h
  split at h
  · rename_i i a S'
    obtain ⟨sz, f, hes, hsz, j, rfl, hj, h⟩ := eLng_ok h
    have hc9 : (nI j).toNatClampNeg = j := nI_clamp (Nat.lt_trans hj hsz)
    exact va_lald hx hb hK hP a 3 (gw_get hes) rfl (vp_in_nI hj hsz) hd (by rw [hc9]; exact hN _ _ _ _ _ h ad H locs ls hag hP hD hS hl)
  · exact h.elim
def oDALd : gO := fun J N L S es k n => match S with | .int i :: .ref a :: S' => eDbl es a 4 (fun sz f => ∃ j : Nat, i = nI j ∧ j < sz ∧ N L (.double (f j) :: S') es k n) | _ => False
theorem ok_dald (hM : gM X l0 cc own Ts R0) (hd : decode cc pc = .ok (.daload, 1)) : okO X pc (pc + 1) oDALd := by
  obtain ⟨p, l, e, R, s, m, args, below, meth, c, D, cA, A, ag, ad0, Q, nL⟩ := X
  obtain ⟨hx, hb, hown, hts, hml, hlk, hY, hA, hR, hL0⟩ := hM
  have hK := hY.1
  intro J N hJ hN L S es k n h ad H locs ls hag hP hD hS hl
  unfold oDALd at h
  split at h
  · rename_i i a S'
    obtain ⟨sz, f, hes, hsz, j, rfl, hj, h⟩ := eDbl_ok h
    have hc9 : (nI j).toNatClampNeg = j := nI_clamp (Nat.lt_trans hj hsz)
    exact va_dald hx hb hK hP a 4 (gw_get hes) rfl (vp_in_nI hj hsz) hd (by rw [hc9]; exact hN _ _ _ _ _ h ad H locs ls hag hP hD hS hl)
  · exact h.elim
def oIASt : gO := fun J N L S es k n => match S with | .int x :: .int i :: .ref a :: S' => eInt es a 0 (fun sz f => ∃ j : Nat, i = nI j ∧ j < sz ∧ N L S' (es.set a (.inl (0, sz, .inl (upd f j x)))) k n) | _ => False
theorem ok_iast (hM : gM X l0 cc own Ts R0) (hd : decode cc pc = .ok (.iastore, 1)) : okO X pc (pc + 1) oIASt := by
  obtain ⟨p, l, e, R, s, m, args, below, meth, c, D, cA, A, ag, ad0, Q, nL⟩ := X
  obtain ⟨hx, hb, hown, hts, hml, hlk, hY, hA, hR, hL0⟩ := hM
  have hK := hY.1
  intro J N hJ hN L S es k n h ad H locs ls hag hP hD hS hl
  unfold oIASt at h
  split at h
  · rename_i x i a S'
    obtain ⟨sz, f, hes, hsz, j, rfl, hj, h⟩ := eInt_ok h
    have hc9 : (nI j).toNatClampNeg = j := nI_clamp (Nat.lt_trans hj hsz)
    refine va_iast hx hb hK hP hD hS a 0 (gw_get hes) rfl (vp_in_nI hj hsz) hd (fun H1 locs1 hP1 hD1 hS1 => hN _ _ _ _ _ h ad H1 locs1 ls hag ?_ ?_ hS1 hl)
    · rw [hc9] at hP1
      rw [← gw_set]
      exact hP1
    · rw [hc9] at hD1
      rw [← gw_set]
      exact hD1
  · exact h.elim
def oCASt : gO := fun J N L S es k n => match S with | .int x :: .int i :: .ref a :: S' => eInt es a 1 (fun sz f => ∃ j : Nat, i = nI j ∧ j < sz ∧ vp_nar .char x = x ∧ N L S' (es.set a (.inl (1, sz, .inl (upd f j x)))) k n) | _ => False
theorem ok_cast (hM : gM X l0 cc own Ts R0) (hd : decode cc pc = .ok (.castore, 1)) : okO X pc (pc + 1) oCASt := by
  obtain ⟨p, l, e, R, s, m, args, below, meth, c, D, cA, A, ag, ad0, Q, nL⟩ := X
  obtain ⟨hx, hb, hown, hts, hml, hlk, hY, hA, hR, hL0⟩ := hM
  have hK := hY.1
  intro J N hJ hN L S es k n h ad H locs ls hag hP hD hS hl
  unfold oCASt at h
  split at h
  · rename_i x i a S'
    obtain ⟨sz, f, hes, hsz, j, rfl, hj, hnr, h⟩ := eInt_ok h
    have hc9 : (nI j).toNatClampNeg = j := nI_clamp (Nat.lt_trans hj hsz)
    refine va_cast hx hb hK hP hD hS a 1 (gw_get hes) rfl (vp_in_nI hj hsz) hd (fun H1 locs1 hP1 hD1 hS1 => hN _ _ _ _ _ h ad H1 locs1 ls hag ?_ ?_ hS1 hl)
    · rw [hc9, hnr] at hP1
      rw [← gw_set]
      exact hP1
    · rw [hc9, hnr] at hD1
      rw [← gw_set]
      exact hD1
  · exact h.elim
def oZASt : gO := fun J N L S es k n => match S with | .int x :: .int i :: .ref a :: S' => eInt es a 2 (fun sz f => ∃ j : Nat, i = nI j ∧ j < sz ∧ vp_nar .boolean x = x ∧ N L S' (es.set a (.inl (2, sz, .inl (upd f j x)))) k n) | _ => False
theorem ok_zast (hM : gM X l0 cc own Ts R0) (hd : decode cc pc = .ok (.bastore, 1)) : okO X pc (pc + 1) oZASt := by
  obtain ⟨p, l, e, R, s, m, args, below, meth, c, D, cA, A, ag, ad0, Q, nL⟩ := X
  obtain ⟨hx, hb, hown, hts, hml, hlk, hY, hA, hR, hL0⟩ := hM
  have hK := hY.1
  intro J N hJ hN L S es k n h ad H locs ls hag hP hD hS hl
  unfold oZASt at h
  split at h
  · rename_i x i a S'
    obtain ⟨sz, f, hes, hsz, j, rfl, hj, hnr, h⟩ := eInt_ok h
    have hc9 : (nI j).toNatClampNeg = j := nI_clamp (Nat.lt_trans hj hsz)
    refine va_zast hx hb hK hP hD hS a 2 (gw_get hes) rfl (vp_in_nI hj hsz) hd (fun H1 locs1 hP1 hD1 hS1 => hN _ _ _ _ _ h ad H1 locs1 ls hag ?_ ?_ hS1 hl)
    · rw [hc9, hnr] at hP1
      rw [← gw_set]
      exact hP1
    · rw [hc9, hnr] at hD1
      rw [← gw_set]
      exact hD1
  · exact h.elim
def oLASt : gO := fun J N L S es k n => match S with | .long x :: .int i :: .ref a :: S' => eLng es a 3 (fun sz f => ∃ j : Nat, i = nI j ∧ j < sz ∧ N L S' (es.set a (.inl (3, sz, .inr (.inl (vp_updL f j x))))) k n) | _ => False
theorem ok_last (hM : gM X l0 cc own Ts R0) (hd : decode cc pc = .ok (.lastore, 1)) : okO X pc (pc + 1) oLASt := by
  obtain ⟨p, l, e, R, s, m, args, below, meth, c, D, cA, A, ag, ad0, Q, nL⟩ := X
  obtain ⟨hx, hb, hown, hts, hml, hlk, hY, hA, hR, hL0⟩ := hM
  have hK := hY.1
  intro J N hJ hN L S es k n h ad H locs ls hag hP hD hS hl
  unfold oLASt at h
  split at h
  · rename_i x i a S'
    obtain ⟨sz, f, hes, hsz, j, rfl, hj, h⟩ := eLng_ok h
    have hc9 : (nI j).toNatClampNeg = j := nI_clamp (Nat.lt_trans hj hsz)
    refine va_last hx hb hK hP hD hS a 3 (gw_get hes) rfl (vp_in_nI hj hsz) hd (fun H1 locs1 hP1 hD1 hS1 => hN _ _ _ _ _ h ad H1 locs1 ls hag ?_ ?_ hS1 hl)
    · rw [hc9] at hP1
      rw [← gw_set]
      exact hP1
    · rw [hc9] at hD1
      rw [← gw_set]
      exact hD1
  · exact h.elim
def oDASt : gO := fun J N L S es k n => match S with | .double x :: .int i :: .ref a :: S' => eDbl es a 4 (fun sz f => ∃ j : Nat, i = nI j ∧ j < sz ∧ N L S' (es.set a (.inl (4, sz, .inr (.inr (.inl (vf_upd f j x)))))) k n) | _ => False
theorem ok_dast (hM : gM X l0 cc own Ts R0) (hd : decode cc pc = .ok (.dastore, 1)) : okO X pc (pc + 1) oDASt := by
  obtain ⟨p, l, e, R, s, m, args, below, meth, c, D, cA, A, ag, ad0, Q, nL⟩ := X
  obtain ⟨hx, hb, hown, hts, hml, hlk, hY, hA, hR, hL0⟩ := hM
  have hK := hY.1
  intro J N hJ hN L S es k n h ad H locs ls hag hP hD hS hl
  unfold oDASt at h
  split at h
  · rename_i x i a S'
    obtain ⟨sz, f, hes, hsz, j, rfl, hj, h⟩ := eDbl_ok h
    have hc9 : (nI j).toNatClampNeg = j := nI_clamp (Nat.lt_trans hj hsz)
    refine va_dast hx hb hK hP hD hS a 4 (gw_get hes) rfl (vp_in_nI hj hsz) hd (fun H1 locs1 hP1 hD1 hS1 => hN _ _ _ _ _ h ad H1 locs1 ls hag ?_ ?_ hS1 hl)
    · rw [hc9] at hP1
      rw [← gw_set]
      exact hP1
    · rw [hc9] at hD1
      rw [← gw_set]
      exact hD1
  · exact h.elim
def oAALd : gO := fun J N L S es k n => match S with | .int i :: .ref a :: S' => eRef es a 5 (fun sz r => ∃ j : Nat, i = nI j ∧ j < sz ∧ (match rnth r j with | some (some q) => N L (.ref q :: S') es k n | _ => False)) | _ => False
theorem ok_aald (hM : gM X l0 cc own Ts R0) (hd : decode cc pc = .ok (.aaload, 1)) : okO X pc (pc + 1) oAALd := by
  obtain ⟨p, l, e, R, s, m, args, below, meth, c, D, cA, A, ag, ad0, Q, nL⟩ := X
  obtain ⟨hx, hb, hown, hts, hml, hlk, hY, hA, hR, hL0⟩ := hM
  have hK := hY.1
  intro J N hJ hN L S es k n h ad H locs ls hag hP hD hS hl
  unfold oAALd at h
  split at h
  · rename_i i a S'
    obtain ⟨sz, r, hes, hsz, j, rfl, hj, h⟩ := eRef_ok h
    split at h
    · rename_i q hq
      rw [rnth_eq] at hq
      have hc9 : (nI j).toNatClampNeg = j := nI_clamp (Nat.lt_trans hj hsz)
      have hq9 : r.getD j none = some q := by rw [List.getD_eq_getElem?_getD, hq]; rfl
      exact va_aldq (C := RX4) hx hb hK hP a 5 (gw_get hes) rfl (vp_in_nI hj hsz) hd (by rw [hc9]; simp only [hq9]; exact hN _ _ _ _ _ h ad H locs ls hag hP hD hS hl)
    · exact h.elim
  · exact h.elim
def oALen : gO := fun J N L S es k n => match S with | .ref a :: S' => eInt es a 0 (fun sz _ => N L (.int (nI sz) :: S') es k n) | _ => False
theorem ok_alen (hM : gM X l0 cc own Ts R0) (hd : decode cc pc = .ok (.arraylength, 1)) : okO X pc (pc + 1) oALen := by
  obtain ⟨p, l, e, R, s, m, args, below, meth, c, D, cA, A, ag, ad0, Q, nL⟩ := X
  obtain ⟨hx, hb, hown, hts, hml, hlk, hY, hA, hR, hL0⟩ := hM
  have hK := hY.1
  intro J N hJ hN L S es k n h ad H locs ls hag hP hD hS hl
  unfold oALen at h
  split at h
  · rename_i a S'
    obtain ⟨sz, f, hes, hsz, h⟩ := eInt_ok h
    exact va_alen (x := (sz, .inl f)) hx hb hK hP a 0 (gw_get hes) rfl rfl hd (hN _ _ _ _ _ h ad H locs ls hag hP hD hS hl)
  · exact h.elim
def scat : List Value → Nat
  | [] => 0
  | v :: S => (bif cat2 v then 2 else 1) + scat S
theorem scat_eq (ad : Nat → Nat) : ∀ S : List Value, ((S.map (gv ad)).map fun v => v.category).sum = scat S
  | [] => rfl
  | v :: S => by
    have := scat_eq ad S
    simp only [List.map_cons, List.sum_cons, scat, this]
    cases v <;> rfl
def oCopy (rl : Nat) : gO := fun J N L S es k n => match S with | .int z :: .int dp :: .ref b :: .int sp :: .ref a :: S' => eInt es a 0 (fun sz f => eInt es b 0 (fun sz' g => gif (Nat.ble (scat S' + 40) rl) (∃ zz : Nat, z = nI zz ∧ sp = nI 0 ∧ dp = nI 0 ∧ zz ≤ sz ∧ zz ≤ sz' ∧ N L S' (es.set b (.inl (0, sz', .inl (va_cpy f g 0 0 zz)))) k n))) | _ => False
theorem ok_copy (hM : gM X l0 cc own Ts R0) {index : Nat} (hlink : (Cond.methodLink own index arraycopyName) ∈ Ts) (hnat : (Cond.native arraycopyName) ∈ Ts) (hstat : (Cond.static arraycopyName) ∈ Ts) (hini : (Cond.initialized "java/lang/System") ∈ Ts) (hfr : 1 ≤ R0.frames) (hw40 : nativeFrameWords "java/lang/System" "arraycopy" 5 + 11 ≤ 40) (hd : decode cc pc = .ok (.invokestatic index, 3)) : okO X pc (pc + 3) (oCopy R0.locals) := by
  obtain ⟨p, l, e, R, s, m, args, below, meth, c, D, cA, A, ag, ad0, Q, nL⟩ := X
  obtain ⟨hx, hb, hown, hts, hml, hlk, hY, hA, hR, hL0⟩ := hM
  have hK := hY.1
  intro J N hJ hN L S es k n h ad H locs ls hag hP hD hS hl
  subst hR
  unfold oCopy at h
  split at h
  · rename_i z dp b sp a S'
    obtain ⟨sz, f, hes, hsz, h⟩ := eInt_ok h
    obtain ⟨sz', g, hes', hsz', h⟩ := eInt_ok h
    obtain ⟨h5, h⟩ := bif_t h
    obtain ⟨zz, rfl, rfl, rfl, hz1, hz2, h⟩ := h
    have hzz : zz < 2 ^ 31 := Nat.lt_of_le_of_lt hz1 hsz
    have c0 : (nI 0).toNatClampNeg = 0 := nI_clamp (by decide)
    have cz : (nI zz).toNatClampNeg = zz := nI_clamp hzz
    have h5 := Nat.le_of_ble_eq_true h5
    refine va_copyi (ty := .int) (c0 := cA 0) (c1 := cA 0) hx hb (hml.trans hl.1.symm) hown (hts _ hlink) (hts _ hnat) (hts _ hstat) (hts _ hini) hK hP hD hS a b 0 0 (gw_get hes) (gw_get hes') rfl rfl rfl (nI_pos (by decide)) (nI_pos (by decide)) (nI_pos hzz) (by rw [c0, cz]; omega) (by rw [c0, cz]; omega) (fun _ _ => rfl) hfr (by rw [scat_eq]; omega) hd (fun H1 locs1 hP1 hD1 hS1 => hN _ _ _ _ _ h ad H1 locs1 ls hag ?_ ?_ hS1 hl)
    · rw [c0, cz] at hP1
      rw [← gw_set]
      exact hP1
    · rw [c0, cz] at hD1
      rw [← gw_set]
      exact hD1
  · exact h.elim
def oMax (rl rc rs : Nat) : gO := fun J N L S es k n => match S with | .int y :: .int x :: S' => gif (Nat.ble (scat S' + 13) rl && (Nat.ble k rc && Nat.ble n rs)) (N L (.int (if x < y then y else x) :: S') es k n) | _ => False
theorem ok_max (hM : gM X l0 cc own Ts R0) {index : Nat} (hlink : (Cond.methodLink own index Lib.Math.max.name) ∈ Ts) (hstat : (Cond.static Lib.Math.max.name) ∈ Ts) (hini : (Cond.initialized "java/lang/Math") ∈ Ts) (hcode : (Cond.code Lib.Math.max.name Lib.Math.max.code 2 (some .int)) ∈ Ts) (hfr : 1 ≤ R0.frames) (hd : decode cc pc = .ok (.invokestatic index, 3)) : okO X pc (pc + 3) (oMax R0.locals R0.cells R0.slots) := by
  obtain ⟨p, l, e, R, s, m, args, below, meth, c, D, cA, A, ag, ad0, Q, nL⟩ := X
  obtain ⟨hx, hb, hown, hts, hml, hlk, hY, hA, hR, hL0⟩ := hM
  have hK := hY.1
  intro J N hJ hN L S es k n h ad H locs ls hag hP hD hS hl
  subst hR
  unfold oMax at h
  split at h
  · obtain ⟨hcc, h⟩ := bif_t h
    obtain ⟨h1, hcc⟩ := and_t hcc
    obtain ⟨h2, h3⟩ := and_t hcc
    exact va_mmax hx hb (hml.trans hl.1.symm) hown (hts _ hlink) (hts _ hstat) (hts _ hini) (hts _ hcode) hfr (by rw [scat_eq]; exact Nat.le_of_ble_eq_true h1) (Nat.le_of_ble_eq_true h2) (Nat.le_of_ble_eq_true h3) hd (hN _ _ _ _ _ h ad H locs ls hag hP hD hS hl)
  · exact h.elim
def oRet (K : gK) (mc ms : Nat) : gO := fun J N L S es k n => match S with | [.int r] => gif (Nat.ble k mc && Nat.ble n ms) (K (some (.int r)) es) | _ => False
def oRetZ (K : gK) (mc ms : Nat) : gO := fun J N L S es k n => match S with | [.int r] => gif (Nat.ble k mc && Nat.ble n ms) ((r = 0 ∨ r = 1) ∧ K (some (.int r)) es) | _ => False
def oRetD (K : gK) (mc ms : Nat) : gO := fun J N L S es k n => match S with | [.double r] => gif (Nat.ble k mc && Nat.ble n ms) (K (some (.double r)) es) | _ => False
def oRetV (K : gK) (mc ms : Nat) : gO := fun J N L S es k n => match S with | [] => gif (Nat.ble k mc && Nat.ble n ms) (K none es) | _ => False
theorem ok_ret (hM : gM X l0 cc own Ts R0) {nx : Nat} {K : gK} {mc ms : Nat} (hE : gR X K mc ms (some .int)) (hd : decode cc pc = .ok (.ireturn, 1)) : okO X pc nx (oRet K mc ms) := by
  obtain ⟨p, l, e, R, s, m, args, below, meth, c, D, cA, A, ag, ad0, Q, nL⟩ := X
  obtain ⟨hx, hb, hown, hts, hml, hlk, hY, hA, hR, hL0⟩ := hM
  have hK := hY.1
  intro J N hJ hN L S es k n h ad H locs ls hag hP hD hS hl
  obtain ⟨hret, hE⟩ := hE
  unfold oRet at h
  split at h
  · obtain ⟨hcc, h⟩ := bif_t h
    obtain ⟨h1, h2⟩ := and_t hcc
    skip
    refine W.widen (Nat.le_of_ble_eq_true h1) (Nat.le_of_ble_eq_true h2) (hE _ _ _ ?_)
    exact W.iret hx hb hret (fun t ht hW => ⟨⟨some (.int _), es, ad, rfl, h, hag, by rw [ht]; exact hP, hD⟩, hS.F ht⟩) hS.2.2 hd hlk
  · exact h.elim
theorem ok_retZ (hM : gM X l0 cc own Ts R0) {nx : Nat} {K : gK} {mc ms : Nat} (hE : gR X K mc ms (some .boolean)) (hd : decode cc pc = .ok (.ireturn, 1)) : okO X pc nx (oRetZ K mc ms) := by
  obtain ⟨p, l, e, R, s, m, args, below, meth, c, D, cA, A, ag, ad0, Q, nL⟩ := X
  obtain ⟨hx, hb, hown, hts, hml, hlk, hY, hA, hR, hL0⟩ := hM
  have hK := hY.1
  intro J N hJ hN L S es k n h ad H locs ls hag hP hD hS hl
  obtain ⟨hret, hE⟩ := hE
  unfold oRetZ at h
  split at h
  · obtain ⟨hcc, h⟩ := bif_t h
    obtain ⟨h1, h2⟩ := and_t hcc
    obtain ⟨hz, h⟩ := h
    refine W.widen (Nat.le_of_ble_eq_true h1) (Nat.le_of_ble_eq_true h2) (hE _ _ _ ?_)
    exact W.zret hx hb hret (by rcases hz with rfl | rfl <;> rfl) (fun t ht hW => ⟨⟨some (.int _), es, ad, rfl, h, hag, by rw [ht]; exact hP, hD⟩, hS.F ht⟩) hS.2.2 hd hlk
  · exact h.elim
theorem ok_retD (hM : gM X l0 cc own Ts R0) {nx : Nat} {K : gK} {mc ms : Nat} (hE : gR X K mc ms (some .double)) (hd : decode cc pc = .ok (.dreturn, 1)) : okO X pc nx (oRetD K mc ms) := by
  obtain ⟨p, l, e, R, s, m, args, below, meth, c, D, cA, A, ag, ad0, Q, nL⟩ := X
  obtain ⟨hx, hb, hown, hts, hml, hlk, hY, hA, hR, hL0⟩ := hM
  have hK := hY.1
  intro J N hJ hN L S es k n h ad H locs ls hag hP hD hS hl
  obtain ⟨hret, hE⟩ := hE
  unfold oRetD at h
  split at h
  · obtain ⟨hcc, h⟩ := bif_t h
    obtain ⟨h1, h2⟩ := and_t hcc
    skip
    refine W.widen (Nat.le_of_ble_eq_true h1) (Nat.le_of_ble_eq_true h2) (hE _ _ _ ?_)
    exact W.dret hx hb hret (fun t ht hW => ⟨⟨some (.double _), es, ad, rfl, h, hag, by rw [ht]; exact hP, hD⟩, hS.F ht⟩) hS.2.2 hd hlk
  · exact h.elim
theorem ok_retV (hM : gM X l0 cc own Ts R0) {nx : Nat} {K : gK} {mc ms : Nat} (hE : gR X K mc ms none) (hd : decode cc pc = .ok (.return_, 1)) : okO X pc nx (oRetV K mc ms) := by
  obtain ⟨p, l, e, R, s, m, args, below, meth, c, D, cA, A, ag, ad0, Q, nL⟩ := X
  obtain ⟨hx, hb, hown, hts, hml, hlk, hY, hA, hR, hL0⟩ := hM
  have hK := hY.1
  intro J N hJ hN L S es k n h ad H locs ls hag hP hD hS hl
  obtain ⟨hret, hE⟩ := hE
  unfold oRetV at h
  split at h
  · obtain ⟨hcc, h⟩ := bif_t h
    obtain ⟨h1, h2⟩ := and_t hcc
    skip
    refine W.widen (Nat.le_of_ble_eq_true h1) (Nat.le_of_ble_eq_true h2) (hE _ _ _ ?_)
    exact W.vret hx hb hret (fun t ht hW => ⟨⟨none, es, ad, rfl, h, hag, by rw [ht]; exact hP, hD⟩, hS.F ht⟩) hS.2.2 hd hlk
  · exact h.elim
end GS
end
section
/-! Contracts, and calls of them. -/
section GC
def gix : List Nat → Nat → Nat
  | [], _ => 0
  | i :: is, k => bif Nat.beq i k then 0 else gix is k + 1
def gin : List Nat → Nat → Bool
  | [], _ => false
  | i :: is, k => Nat.beq i k || gin is k
def gid : List Nat → Nat → Nat
  | [], _ => 0
  | i :: _, 0 => i
  | _ :: is, k + 1 => gid is k
theorem gix_ok : ∀ {ids : List Nat} {k : Nat}, gin ids k = true → gid ids (gix ids k) = k
  | [], _, h => by cases h
  | i :: is, k, h => by
    unfold gin at h
    unfold gix
    cases hb : Nat.beq i k with
    | true => exact Nat.eq_of_beq_eq_true hb
    | false =>
      rw [hb] at h
      exact gix_ok (ids := is) h
theorem gid_eq : ∀ {ids : List Nat} {j i : Nat}, ids[j]? = some i → gid ids j = i
  | [], _, _, h => by simp at h
  | i :: _, 0, _, h => by simpa [gid] using h
  | _ :: is, j + 1, i, h => gid_eq (ids := is) (by simpa using h)
def canV (ids : List Nat) : Value → Value
  | .ref k => .ref (gix ids k)
  | v => v
def okV (ids : List Nat) : Value → Bool
  | .ref k => gin ids k
  | _ => true
def okQ (ids : List Nat) : Option Nat → Bool
  | some k => gin ids k
  | none => true
def canE (ids : List Nat) : gE → gE
  | .inr (c, fs) => .inr (c, fs.map (canV ids))
  | .inl (t, n, .inl f) => .inl (t, n, .inl f)
  | .inl (t, n, .inr (.inl f)) => .inl (t, n, .inr (.inl f))
  | .inl (t, n, .inr (.inr (.inl f))) => .inl (t, n, .inr (.inr (.inl f)))
  | .inl (t, n, .inr (.inr (.inr r))) => .inl (t, n, .inr (.inr (.inr (r.map (Option.map (gix ids))))))
def okE (ids : List Nat) : gE → Bool
  | .inr (_, fs) => fs.all (okV ids)
  | .inl (_, _, .inr (.inr (.inr r))) => r.all (okQ ids)
  | .inl _ => true
def renV (σ : Nat → Nat) : Value → Value
  | .ref k => .ref (σ k)
  | v => v
def renE (σ : Nat → Nat) : gE → gE
  | .inr (c, fs) => .inr (c, fs.map (renV σ))
  | .inl (t, n, .inl f) => .inl (t, n, .inl f)
  | .inl (t, n, .inr (.inl f)) => .inl (t, n, .inr (.inl f))
  | .inl (t, n, .inr (.inr (.inl f))) => .inl (t, n, .inr (.inr (.inl f)))
  | .inl (t, n, .inr (.inr (.inr r))) => .inl (t, n, .inr (.inr (.inr (r.map (Option.map σ)))))
theorem can_v {ids : List Nat} {ad : Nat → Nat} {v : Value} (h : okV ids v = true) : gv (fun k => ad (gid ids k)) (canV ids v) = gv ad v := by
  cases v <;> first | rfl | (simp only [canV, gv]; rw [gix_ok h])
theorem can_vs {ids : List Nat} {ad : Nat → Nat} : ∀ {vs : List Value}, vs.all (okV ids) = true → (vs.map (canV ids)).map (gv (fun k => ad (gid ids k))) = vs.map (gv ad)
  | [], _ => rfl
  | v :: vs, h => by
    obtain ⟨h1, h2⟩ := and_t h
    simp only [List.map_cons, can_v h1]
    rw [can_vs h2]
theorem can_q {ids : List Nat} {ad : Nat → Nat} : ∀ {r : List (Option Nat)} (_ : r.all (okQ ids) = true) (j : Nat), ((r.map (Option.map (gix ids))).getD j none).map (fun k => ad (gid ids k)) = (r.getD j none).map ad
  | [], _, j => by simp
  | q :: r, h, 0 => by
    obtain ⟨h1, h2⟩ := and_t h
    cases q with
    | none => rfl
    | some k => simp only [List.map_cons, List.getD_cons_zero, Option.map_some]; rw [gix_ok h1]
  | q :: r, h, j + 1 => by
    obtain ⟨h1, h2⟩ := and_t h
    simpa using can_q h2 j
theorem can_e {ids : List Nat} {ad : Nat → Nat} {cA : Nat → ClassId} {e : gE} (h : okE ids e = true) : ge cA (fun k => ad (gid ids k)) (canE ids e) = ge cA ad e := by
  rcases e with ⟨t, n, f | f | f | r⟩ | ⟨c, fs⟩
  · rfl
  · rfl
  · rfl
  · simp only [canE, ge]
    have : (fun j => ((r.map (Option.map (gix ids))).getD j none).map (fun k => ad (gid ids k))) = fun j => (r.getD j none).map ad := funext (can_q h)
    rw [this]
  · simp only [canE, ge]
    rw [can_vs h]
theorem ren_v {σ ad : Nat → Nat} (v : Value) : gv ad (renV σ v) = gv (fun k => ad (σ k)) v := by cases v <;> rfl
theorem ren_e {σ ad : Nat → Nat} {cA : Nat → ClassId} (e : gE) : ge cA ad (renE σ e) = ge cA (fun k => ad (σ k)) e := by
  rcases e with ⟨t, n, f | f | f | r⟩ | ⟨c, fs⟩
  · rfl
  · rfl
  · rfl
  · simp only [renE, ge]
    have : (fun j => ((r.map (Option.map σ)).getD j none).map ad) = fun j => (r.getD j none).map (fun k => ad (σ k)) := by
      funext j
      rw [List.getD_eq_getElem?_getD, List.getD_eq_getElem?_getD, List.getElem?_map]
      cases r[j]? with
      | none => rfl
      | some q => cases q <;> rfl
    rw [this]
  · simp only [renE, ge, List.map_map]
    have : (gv ad ∘ renV σ) = gv (fun k => ad (σ k)) := funext ren_v
    rw [this]
def gpick (es : List gE) : List Nat → Option (List gE)
  | [] => some []
  | i :: is => match gnth es i with
    | some e => match gpick es is with
      | some l => some (e :: l)
      | none => none
    | none => none
theorem gpick_ok {es : List gE} : ∀ {ids : List Nat} {l : List gE}, gpick es ids = some l → l.length = ids.length ∧ ∀ j i : Nat, ids[j]? = some i → ∃ e, es[i]? = some e ∧ l[j]? = some e
  | [], l, h => by
    cases h
    exact ⟨rfl, fun j i hj => by simp at hj⟩
  | i :: is, l, h => by
    unfold gpick at h
    cases he : gnth es i with
    | none => rw [he] at h; cases h
    | some e =>
      cases hl : gpick es is with
      | none => rw [he, hl] at h; cases h
      | some l' =>
        rw [he, hl] at h
        cases h
        obtain ⟨h1, h2⟩ := gpick_ok hl
        refine ⟨by simp [h1], fun j k hj => ?_⟩
        cases j with
        | zero =>
          simp at hj
          subst hj
          rw [gnth_eq] at he
          exact ⟨e, he, rfl⟩
        | succ j =>
          obtain ⟨e', h3, h4⟩ := h2 j k (by simpa using hj)
          exact ⟨e', h3, by simpa using h4⟩
def gput : List gE → List Nat → List gE → List gE
  | es, i :: is, f :: fs => gput (es.set i f) is fs
  | es, _, _ => es
theorem gput_len : ∀ {ids : List Nat} {es fs : List gE}, (gput es ids fs).length = es.length
  | [], es, [] => rfl
  | [], es, _ :: _ => rfl
  | _ :: _, es, [] => rfl
  | i :: is, es, f :: fs => by rw [gput, gput_len]; simp
theorem gput_out : ∀ {ids : List Nat} {es fs : List gE} {i : Nat}, i ∉ ids → (gput es ids fs)[i]? = es[i]?
  | [], es, [], _, _ => rfl
  | [], es, _ :: _, _, _ => rfl
  | _ :: _, es, [], _, _ => rfl
  | j :: is, es, f :: fs, i, h => by
    rw [gput, gput_out (fun q => h (List.mem_cons_of_mem _ q)), List.getElem?_set_ne (fun q => h (by rw [q]; exact List.mem_cons_self))]
theorem gput_in : ∀ {ids : List Nat} {es fs : List gE} {j i : Nat} {f : gE}, va_nd ids = true → ids[j]? = some i → fs[j]? = some f → i < es.length → (gput es ids fs)[i]? = some f
  | [], _, _, _, _, _, _, h, _, _ => by simp at h
  | _ :: _, _, [], _, _, _, _, _, h, _ => by simp at h
  | k :: is, es, g :: fs, j, i, f, hn, h1, h2, h3 => by
    simp only [va_nd, Bool.and_eq_true, decide_eq_true_eq] at hn
    cases j with
    | zero =>
      simp at h1 h2
      subst h1
      subst h2
      rw [gput, gput_out hn.1]
      simp [h3]
    | succ j =>
      rw [gput]
      exact gput_in hn.2 (by simpa using h1) (by simpa using h2) (by simpa using h3)
def gtake : Nat → List Value → List Value → Option (List Value × List Value)
  | 0, acc, S => some (acc, S)
  | k + 1, acc, v :: S => gtake k (v :: acc) S
  | _ + 1, _, [] => none
theorem gtake_ok : ∀ {k : Nat} {acc S av S' : List Value}, gtake k acc S = some (av, S') → ∃ pre : List Value, av = pre ++ acc ∧ S = pre.reverse ++ S' ∧ pre.length = k
  | 0, acc, S, av, S', h => by
    cases h
    exact ⟨[], rfl, rfl, rfl⟩
  | k + 1, acc, [], av, S', h => by cases h
  | k + 1, acc, v :: S, av, S', h => by
    obtain ⟨pre, h1, h2, h3⟩ := gtake_ok (k := k) h
    exact ⟨pre ++ [v], by simp [h1], by simp [h2], by simp [h3]⟩
-- a contract
def agr : Bool → Nat → Nat → Prop
  | true, n, i => i < n
  | false, _, _ => True
def gPc (D : va_G) (cA : Nat → ClassId) (ad : Nat → Nat) (sz : Nat) (av : List Value) (es : List gE) : Array Value → State → Prop := va_Pc (av.map (gv ad)) (fun U => U.heap.size = sz ∧ va_P D vwCl (gw cA ad es) U.heap ∧ gY D cA (va_A (gw cA ad es) sz) U U.heap ∧ va_D (fun _ => True) (gw cA ad es))
abbrev gS : Type := List Value → List gE → gK → Prop
def Ct (l : Launch) (y : MethodName) (ws : List Cond) (rm : Room) (mc ms : Nat) (al : Bool) (sp : gS) : Prop := ∀ (D : va_G) (cA : Nat → ClassId) (ad : Nat → Nat) (sz : Nat) (av : List Value) (es : List gE) (K : gK), sp av es K → Met l y ws rm (gPc D cA ad sz av es) (gQ D cA ad (agr al es.length) (va_A (gw cA ad es) sz) K) mc ms (va_A (gw cA ad es) sz)
theorem gPc_blind {D : va_G} {cA : Nat → ClassId} {ad : Nat → Nat} {sz : Nat} {av : List Value} {es : List gE} : FrameBlind (gPc D cA ad sz av es) :=
  fun a U g mk q => by
    obtain ⟨q0, q1, qP, qY, qD⟩ := q
    exact ⟨q0, q1, qP, gY.same (u := U) (U := U.calling g mk a) rfl qY, qD⟩
theorem lv_args_map (ad : Nat → Nat) : ∀ (i : Nat) (av : List Value), lv_args i (av.map (gv ad)) = lmap ad (lv_args i av)
  | _, [] => rfl
  | i, v :: av => by
    simp only [List.map_cons, lv_args, gv_cat]
    rw [lv_args_map ad _ av]
theorem lg_sl_len (ad : Nat → Nat) (av : List Value) : (lg_sl (av.map (gv ad))).length = (lg_sl av).length := by
  induction av with
  | nil => rfl
  | cons v av ih =>
    simp only [lg_sl, List.map_cons, List.flatMap_cons, List.length_append] at ih ⊢
    rw [ih]
    cases v <;> rfl
/-- the world of the callee: picked out of the caller's -/
theorem gsub_at {cA : Nat → ClassId} {ad : Nat → Nat} {es esc : List gE} {ids : List Nat} (hp : gpick es ids = some esc) (hok : esc.all (okE ids) = true) {j : Nat} {q : Nat × va_E} (h : (gw cA (fun k => ad (gid ids k)) (esc.map (canE ids)))[j]? = some q) : ∃ i e, ids[j]? = some i ∧ es[i]? = some e ∧ esc[j]? = some e ∧ q = (ad i, ge cA ad e) := by
  obtain ⟨h1, h2⟩ := gpick_ok hp
  rw [gw_at, List.getElem?_map] at h
  cases hj : esc[j]? with
  | none => rw [hj] at h; cases h
  | some e =>
    rw [hj] at h
    have hlt : j < ids.length := by rw [← h1]; exact (List.getElem?_eq_some_iff.mp hj).1
    obtain ⟨e', h3, h4⟩ := h2 j ids[j] (List.getElem?_eq_getElem hlt)
    rw [hj] at h4
    cases h4
    have hi : ids[j]? = some ids[j] := List.getElem?_eq_getElem hlt
    refine ⟨ids[j], e, hi, h3, rfl, ?_⟩
    have hoe : okE ids e = true := List.all_eq_true.mp hok e (List.mem_of_getElem? hj)
    simp only [Option.map_some] at h
    rw [can_e hoe, gid_eq hi] at h
    exact (Option.some.inj h).symm
theorem gsub_P {D : va_G} {cA : Nat → ClassId} {ad : Nat → Nat} {es esc : List gE} {ids : List Nat} {H : Heap} (hp : gpick es ids = some esc) (hok : esc.all (okE ids) = true) (hP : va_P D vwCl (gw cA ad es) H) : va_P D vwCl (gw cA (fun k => ad (gid ids k)) (esc.map (canE ids))) H := by
  intro j q h
  obtain ⟨i, e, -, h3, -, rfl⟩ := gsub_at hp hok h
  exact hP i _ (gw_get h3)
theorem gsub_D {cA : Nat → ClassId} {ad : Nat → Nat} {es esc : List gE} {ids : List Nat} {A B : Nat → Prop} (hp : gpick es ids = some esc) (hok : esc.all (okE ids) = true) (hn : va_nd ids = true) (hD : va_D A (gw cA ad es)) (hB : ∀ q, A q → B q) : va_D B (gw cA (fun k => ad (gid ids k)) (esc.map (canE ids))) := by
  refine ⟨fun j j' q q' h h' he => ?_, fun j q h => ?_⟩
  · obtain ⟨i, e, h1, h3, -, rfl⟩ := gsub_at hp hok h
    obtain ⟨i', e', h1', h3', -, rfl⟩ := gsub_at hp hok h'
    have := hD.1 i i' _ _ (gw_get h3) (gw_get h3') he
    subst this
    exact va_nd_inj ids hn j j' i h1 h1'
  · obtain ⟨i, e, h1, h3, -, rfl⟩ := gsub_at hp hok h
    exact hB _ (hD.2 i _ (gw_get h3))
theorem gsub_F {cA : Nat → ClassId} {ad : Nat → Nat} {es esc : List gE} {ids : List Nat} {A : Nat → Prop} {H0 H : Heap} {locs : List Loc} (hp : gpick es ids = some esc) (hok : esc.all (okE ids) = true) (hD : va_D A (gw cA ad es)) (hS : va_S A H0 H locs) (hA : ∀ q, H0.size ≤ q → A q) : ∀ q, va_A (gw cA (fun k => ad (gid ids k)) (esc.map (canE ids))) H.size q → A q := by
  intro q h
  rcases h with ⟨k, e, h⟩ | h
  · obtain ⟨i, e', h1, h3, -, h5⟩ := gsub_at hp hok h
    have := hD.2 i _ (gw_get h3)
    rw [show q = ad i from congrArg Prod.fst h5]
    exact this
  · exact hA q (Nat.le_trans hS.1 h)
theorem g_pre {D : va_G} {cA : Nat → ClassId} {ad : Nat → Nat} {s : State} {es esc : List gE} {ids : List Nat} {A : Nat → Prop} {H : Heap} {locs : List Loc} {av : List Value} (hp : gpick es ids = some esc) (hok : esc.all (okE ids) = true) (hav : av.all (okV ids) = true) (hn : va_nd ids = true) (hY : gY D cA A s s.heap) (hP : va_P D vwCl (gw cA ad es) H) (hD : va_D A (gw cA ad es)) (hS : va_S A s.heap H locs) (hA : ∀ q, s.heap.size ≤ q → A q) :
    ∀ U : State, U.heap = H → s.WarmedH U.vm → gPc D cA (fun k => ad (gid ids k)) H.size (av.map (canV ids)) (esc.map (canE ids)) (av.map (gv ad)).toArray U := by
  intro U hU hW
  refine ⟨by rw [can_vs hav], by rw [hU], by rw [hU]; exact gsub_P hp hok hP, ?_, gsub_D hp hok hn hD (fun _ _ => trivial)⟩
  exact gY.call hY hS (gsub_F hp hok hD hS hA) hW hU
/-- behind a call that makes nothing -/
theorem g_join {D : va_G} {cA : Nat → ClassId} {ad : Nat → Nat} {es esc es' : List gE} {ids : List Nat} {A : Nat → Prop} {H H1 : Heap} (hp : gpick es ids = some esc) (hok : esc.all (okE ids) = true) (hn : va_nd ids = true) (hP : va_P D vwCl (gw cA ad es) H) (hD : va_D A (gw cA ad es)) (hlen : es'.length = ids.length)
    (hk : ∀ q : Nat, q < H.size → ¬ va_A (gw cA (fun k => ad (gid ids k)) (esc.map (canE ids))) H.size q → H1[q]? = H[q]?) (hP1 : va_P D vwCl (gw cA (fun k => ad (gid ids k)) es') H1) :
    va_P D vwCl (gw cA ad (gput es ids (es'.map (renE (gid ids))))) H1 ∧ va_D A (gw cA ad (gput es ids (es'.map (renE (gid ids))))) := by
  have hi_of : ∀ i : Nat, i ∈ ids → ∃ j, ids[j]? = some i := fun i h => List.getElem?_of_mem h
  obtain ⟨hl1, hl2⟩ := gpick_ok hp
  refine ⟨fun i q h => ?_, fun i j p q h h' he => ?_, fun i q h => ?_⟩
  · rw [gw_at] at h
    cases hg : (gput es ids (es'.map (renE (gid ids))))[i]? with
    | none => rw [hg] at h; cases h
    | some e =>
      rw [hg] at h
      cases h
      have hil : i < es.length := by
        have := (List.getElem?_eq_some_iff.mp hg).1
        rwa [gput_len] at this
      by_cases hm : i ∈ ids
      · obtain ⟨j, hj⟩ := hi_of i hm
        have hjl : j < es'.length := by rw [hlen]; exact (List.getElem?_eq_some_iff.mp hj).1
        have hej : es'[j]? = some es'[j] := List.getElem?_eq_getElem hjl
        have := gput_in (es := es) (fs := es'.map (renE (gid ids))) (f := renE (gid ids) es'[j]) hn hj (by rw [List.getElem?_map, hej]; rfl) hil
        rw [hg] at this
        cases this
        have h9 := hP1 j _ (gw_get hej)
        rw [gid_eq hj] at h9
        show va_at D vwCl (ad i, ge cA ad (renE (gid ids) es'[j])) H1
        rw [ren_e]
        exact h9
      · rw [gput_out hm] at hg
        refine (hP i _ (gw_get hg)).kept (hk (ad i) ?_ ?_)
        · exact (hP i _ (gw_get hg)).lt
        · intro h
          rcases h with ⟨k, e', h⟩ | h
          · obtain ⟨i', e2, h1, h3, -, h5⟩ := gsub_at hp hok h
            have h6 : ad i = ad i' := congrArg Prod.fst h5
            have hii := hD.1 i i' _ _ (gw_get hg) (gw_get h3) h6
            subst hii
            exact hm (List.mem_of_getElem? h1)
          · have := (hP i _ (gw_get hg)).lt
            simp only at this
            omega
  · rw [gw_at] at h h'
    cases hg : (gput es ids (es'.map (renE (gid ids))))[i]? with
    | none => rw [hg] at h; cases h
    | some e =>
      cases hg' : (gput es ids (es'.map (renE (gid ids))))[j]? with
      | none => rw [hg'] at h'; cases h'
      | some e' =>
        rw [hg] at h
        rw [hg'] at h'
        cases h
        cases h'
        have hil : i < es.length := by
          have := (List.getElem?_eq_some_iff.mp hg).1
          rwa [gput_len] at this
        have hjl : j < es.length := by
          have := (List.getElem?_eq_some_iff.mp hg').1
          rwa [gput_len] at this
        exact hD.1 i j _ _ (gw_get (List.getElem?_eq_getElem hil)) (gw_get (List.getElem?_eq_getElem hjl)) he
  · rw [gw_at] at h
    cases hg : (gput es ids (es'.map (renE (gid ids))))[i]? with
    | none => rw [hg] at h; cases h
    | some e =>
      rw [hg] at h
      cases h
      have hil : i < es.length := by
        have := (List.getElem?_eq_some_iff.mp hg).1
        rwa [gput_len] at this
      exact hD.2 i (ad i, ge cA ad es[i]) (gw_get (List.getElem?_eq_getElem hil))
def vpush (σ : Nat → Nat) : Option Value → List Value → List Value
  | none, S => S
  | some v, S => renV σ v :: S
theorem vpush_map {σ ad : Nat → Nat} (v : Option Value) (S : List Value) : (vpush σ v S).map (gv ad) = (v.map (gv (fun k => ad (σ k)))).toList ++ S.map (gv ad) := by
  cases v with
  | none => rfl
  | some v => simp only [vpush, List.map_cons, ren_v, Option.map_some, Option.toList_some, List.singleton_append]
theorem g_call {p : Program} {l : Launch} {e : Env} {R : Room} {s : State} {m : MethodId} {args : Array Value} {below : List Frame} {meth : Method} {c : Code} {H : Heap} {locs : List Loc} {k n : Nat} {Q : State → Prop} {pc : Nat} {ls : Array Slot} {rest st0 : List Value} {a : Array Value} {A0 A1 ag : Nat → Prop} {H0 : Heap} {mc ms : Nat} {D : va_G} {cA : Nat → ClassId} {adc : Nat → Nat} {K : gK}
    (hr : va_Run p l e R s m args below meth c H locs k n mc ms (F0 m pc ls st0) rest (gQ D cA adc ag A1 K a) A1) (hS : va_S A0 H0 H locs) (hF : ∀ q, A1 q → A0 q)
    (kk : ∀ (v : Option Value) (es' : List gE) (ad' : Nat → Nat) (H1 : Heap) (locs1 : List Loc), K v es' → (∀ i, ag i → ad' i = adc i) → va_P D vwCl (gw cA ad' es') H1 → va_D A1 (gw cA ad' es') → H.size ≤ H1.size → (∀ q : Nat, q < H.size → ¬ A1 q → H1[q]? = H[q]?) → va_S A0 H0 H1 locs1 →
      W p l e R s m args below meth c H1 locs1 (k + mc) (n + ms) Q (F0 m (pc + 3) ls ((v.map (gv ad')).toList ++ rest))) : W p l e R s m args below meth c H locs k n Q (F0 m pc ls st0) := by
  intro T hT X
  obtain ⟨v, st₀, t, T', L, h0, X', hL, e1, e2, ⟨⟨v', es', ad', hv, hK, hag, hP, hD⟩, hz, hk⟩, st⟩ := hr T hT X
  cases hv
  rw [h0] at hz hk
  obtain ⟨t2, a1, b1⟩ := kk v' es' ad' T'.heap (locs ++ L) hK hag (by rw [e1]; exact hP) hD (by rw [e1]; exact hz) (fun q h1 h2 => by rw [e1]; exact hk q h1 h2)
    ⟨Nat.le_trans hS.1 (by rw [e1]; exact hz), fun q h1 h2 => by rw [e1, hk q (Nat.lt_of_lt_of_le h1 hS.1) (fun z => h2 (hF q z))]; exact hS.2.1 q h1 h2, fun q hq => by
      rcases List.mem_append.mp hq with h | h
      · exact hS.2.2 q h
      · exact hF _ (hL q h)⟩ T' rfl X'
  exact ⟨t2, st t2 a1, b1⟩
def gspec (ids : List Nat) (sp : gS) (av : List Value) (N : gP) (L : List (Nat × Value)) (S' : List Value) (es : List gE) (k n : Nat) : Prop := match gpick es ids with
  | some esc => gif (av.all (okV ids) && esc.all (okE ids)) (sp (av.map (canV ids)) (esc.map (canE ids)) (fun v es' => gif (Nat.beq es'.length ids.length) (N L (vpush (gid ids) v S') (gput es ids (es'.map (renE (gid ids)))) k n)))
  | none => False
theorem gspec_ok {ids : List Nat} {sp : gS} {av : List Value} {N : gP} {L : List (Nat × Value)} {S' : List Value} {es : List gE} {k n : Nat} (h : gspec ids sp av N L S' es k n) : ∃ esc, gpick es ids = some esc ∧ av.all (okV ids) = true ∧ esc.all (okE ids) = true ∧ sp (av.map (canV ids)) (esc.map (canE ids)) (fun v es' => gif (Nat.beq es'.length ids.length) (N L (vpush (gid ids) v S') (gput es ids (es'.map (renE (gid ids)))) k n)) := by
  unfold gspec at h
  cases hp : gpick es ids with
  | none => rw [hp] at h; exact h.elim
  | some esc =>
    rw [hp] at h
    obtain ⟨h1, h2⟩ := bif_t (b := av.all (okV ids) && esc.all (okE ids)) h
    obtain ⟨h1, h3⟩ := and_t h1
    exact ⟨esc, rfl, h1, h3, h2⟩
def oCallV (rc rs ci np : Nat) (ids : List Nat) (sp : gS) : gO := fun _ N L S es k n => match gtake np [] S with
  | some (as, .ref b :: S') => eObj es b ci (fun _ => gif (Nat.ble (scat S') 8 && (Nat.ble k rc && Nat.ble n rs)) (gspec ids sp (.ref b :: as) N L S' es k n))
  | _ => False
def oCallS (rc rs np : Nat) (ids : List Nat) (sp : gS) : gO := fun _ N L S es k n => match gtake np [] S with
  | some (as, S') => gif (Nat.ble (scat S') 8 && (Nat.ble k rc && Nat.ble n rs)) (gspec ids sp as N L S' es k n)
  | _ => False
variable {X : gX} {l0 : Launch} {cc : ByteArray} {own : String} {Ts : List Cond} {R0 : Room} {pc : Nat}
theorem ok_callV (hM : gM X l0 cc own Ts R0) {y : MethodName} {ws ws' : List Cond} {rm : Room} {bytes : ByteArray} {maxL index ci np : Nat} {ret : Option FieldType} {sp : gS} {Cn : String} {Tn : u_T} {Nn : Nat} (ids : List Nat) (hC : Ct l0 y ws rm 0 0 false sp) (hn : va_nd ids = true) (hci : vwCl[ci]? = some (Cn, Tn, Nn)) (hG : GoodIn Ts (wsV own index Cn y ws)) (hw : ws = Cond.code y bytes maxL ret :: ws') (hrc : rm.cells = 0) (hrs : rm.slots = 0)
    (hdy : y.cls = Cn ∧ y.cls ≠ "java/lang/invoke/MethodHandle" ∧ y.cls ≠ "java/lang/invoke/VarHandle" ∧ (parseMethodDescriptor y.desc).map (fun d => d.parameters.length) = some np) (hRm : rm.frames + 1 ≤ R0.frames ∧ 8 + (maxL + 11) + rm.locals ≤ R0.locals) (hd : decode cc pc = .ok (.invokevirtual index, 3)) :
    okO X pc (pc + 3) (oCallV R0.cells R0.slots ci np ids sp) := by
  obtain ⟨p, l, e, R, s, m, args, below, meth, c, D, cA, A, ag, ad0, Q, nL⟩ := X
  obtain ⟨hx, hb, hown, hts, hml, hlk, hY, hA, hR, hL0⟩ := hM
  have hK := hY.1
  subst hR
  subst hL0
  intro J N hJ hN L S es k n h ad H locs ls hag hP hD hS hl
  unfold oCallV at h
  split at h
  · rename_i as b S' htk
    obtain ⟨pre, h1, h2, h3⟩ := gtake_ok htk
    simp only [List.append_nil] at h1
    subst h1
    subst h2
    obtain ⟨fs, hes, h⟩ := eObj_ok h
    obtain ⟨hc1, h⟩ := bif_t (b := Nat.ble (scat S') 8 && (Nat.ble k R.cells && Nat.ble n R.slots)) h
    obtain ⟨hc1, hc2⟩ := and_t hc1
    obtain ⟨hc2, hc3⟩ := and_t hc2
    obtain ⟨esc, hp, hav, hok, h⟩ := gspec_ok h
    have hF := gsub_F hp hok hD hS hA
    have hMet := hC D cA (fun k => ad (gid ids k)) H.size _ _ _ h
    refine g_call (va_runV (As := as.map (gv ad)) (rest := S'.map (gv ad)) (b := ad b) ⟨hx, hb, hml, hown, hts⟩ hMet (cwV np hts hG hw hrc hrs hdy hRm) ⟨gPc_blind, va_recv hK hP hci (q0 := b) (gw_get hes), fun U hU hW => ?_⟩ rfl (by simp [h3]) hl.1 (by simp [gv]) (lv_room (by rw [scat_eq]; exact Nat.le_of_ble_eq_true hc1)) hd ⟨Nat.le_of_ble_eq_true hc2, Nat.le_of_ble_eq_true hc3⟩) hS hF (fun v es' ad' H1 locs1 hKv hag' hP1 hD1 hz hk hS1 => ?_)
    · exact g_pre (av := .ref b :: as) hp hok hav hn hY hP hD hS hA U hU hW
    · have had : ad' = fun k => ad (gid ids k) := funext fun i => hag' i trivial
      subst had
      obtain ⟨hlen, hKv⟩ := bif_t (b := Nat.beq es'.length ids.length) hKv
      obtain ⟨hPn, hDn⟩ := g_join hp hok hn hP hD (Nat.eq_of_beq_eq_true hlen) hk hP1
      rw [← vpush_map]
      exact hN _ _ _ _ _ hKv ad H1 locs1 ls hag hPn hDn hS1 hl
  · exact h.elim
theorem ok_callS (hM : gM X l0 cc own Ts R0) {y : MethodName} {ws ws' : List Cond} {rm : Room} {bytes : ByteArray} {maxL index np : Nat} {ret : Option FieldType} {sp : gS} (ids : List Nat) (hC : Ct l0 y ws rm 0 0 false sp) (hn : va_nd ids = true) (hG : GoodIn Ts (va_wsS own index y ws)) (hw : ws = Cond.code y bytes maxL ret :: ws') (hrc : rm.cells = 0) (hrs : rm.slots = 0)
    (hdy : y.cls ≠ "java/lang/invoke/MethodHandle" ∧ y.cls ≠ "java/lang/invoke/VarHandle" ∧ (parseMethodDescriptor y.desc).map (fun d => d.parameters.length) = some np) (hRm : rm.frames + 1 ≤ R0.frames ∧ 8 + (maxL + 11) + rm.locals ≤ R0.locals) (hd : decode cc pc = .ok (.invokestatic index, 3)) :
    okO X pc (pc + 3) (oCallS R0.cells R0.slots np ids sp) := by
  obtain ⟨p, l, e, R, s, m, args, below, meth, c, D, cA, A, ag, ad0, Q, nL⟩ := X
  obtain ⟨hx, hb, hown, hts, hml, hlk, hY, hA, hR, hL0⟩ := hM
  subst hR
  subst hL0
  intro J N hJ hN L S es k n h ad H locs ls hag hP hD hS hl
  unfold oCallS at h
  split at h
  · rename_i as S' htk
    obtain ⟨pre, h1, h2, h3⟩ := gtake_ok htk
    simp only [List.append_nil] at h1
    subst h1
    subst h2
    obtain ⟨hc1, h⟩ := bif_t (b := Nat.ble (scat S') 8 && (Nat.ble k R.cells && Nat.ble n R.slots)) h
    obtain ⟨hc1, hc2⟩ := and_t hc1
    obtain ⟨hc2, hc3⟩ := and_t hc2
    obtain ⟨esc, hp, hav, hok, h⟩ := gspec_ok h
    have hF := gsub_F hp hok hD hS hA
    have hMet := hC D cA (fun k => ad (gid ids k)) H.size _ _ _ h
    have okw : ∀ w ∈ va_wsS own index y ws, w.before args s = true := fun w h => hts w (hG w h).1
    have hcb := callB_of (R := R) (own := own) (index := index) (maxL := maxL) np hts (fun w h => hG w (by unfold va_wsS; exact List.mem_append_right _ h)) hw hrc hrs (okw _ (by simp [va_wsS])) (okw _ (by simp [va_wsS])) hdy hRm
    refine g_call (va_runS (As := as.map (gv ad)) (rest := S'.map (gv ad)) ⟨hx, hb, hml, hown, hts⟩ hMet ⟨hcb, okw _ (by simp [va_wsS])⟩ ⟨gPc_blind, fun U hU hW => ?_⟩ rfl (by simp [h3]) hl.1 (by simp) (lv_room (by rw [scat_eq]; exact Nat.le_of_ble_eq_true hc1)) hd ⟨Nat.le_of_ble_eq_true hc2, Nat.le_of_ble_eq_true hc3⟩) hS hF (fun v es' ad' H1 locs1 hKv hag' hP1 hD1 hz hk hS1 => ?_)
    · exact g_pre (av := as) hp hok hav hn hY hP hD hS hA U hU hW
    · have had : ad' = fun k => ad (gid ids k) := funext fun i => hag' i trivial
      subst had
      obtain ⟨hlen, hKv⟩ := bif_t (b := Nat.beq es'.length ids.length) hKv
      obtain ⟨hPn, hDn⟩ := g_join hp hok hn hP hD (Nat.eq_of_beq_eq_true hlen) hk hP1
      rw [← vpush_map]
      exact hN _ _ _ _ _ hKv ad H1 locs1 ls hag hPn hDn hS1 hl
  · exact h.elim
theorem ok_callSN (hM : gM X l0 cc own Ts R0) {y : MethodName} {ws ws' : List Cond} {rm : Room} {bytes : ByteArray} {maxL index np : Nat} {ret : Option FieldType} {sp : gS} (ids : List Nat) (hC : Ct l0 y ws rm 0 0 false sp) (hn : va_nd ids = true) (hG : GoodIn Ts ws) (hw : ws = Cond.code y bytes maxL ret :: ws') (hrc : rm.cells = 0) (hrs : rm.slots = 0) (hnest : (own, index, y) ∈ gNest) (hst : Cond.static y ∈ Ts) (hini : Cond.initialized y.cls ∈ Ts)
    (hdy : y.cls ≠ "java/lang/invoke/MethodHandle" ∧ y.cls ≠ "java/lang/invoke/VarHandle" ∧ (parseMethodDescriptor y.desc).map (fun d => d.parameters.length) = some np) (hRm : rm.frames + 1 ≤ R0.frames ∧ 8 + (maxL + 11) + rm.locals ≤ R0.locals) (hd : decode cc pc = .ok (.invokestatic index, 3)) :
    okO X pc (pc + 3) (oCallS R0.cells R0.slots np ids sp) := by
  obtain ⟨p, l, e, R, s, m, args, below, meth, c, D, cA, A, ag, ad0, Q, nL⟩ := X
  obtain ⟨hx, hb, hown, hts, hml, hlk, hY, hA, hR, hL0⟩ := hM
  subst hR
  subst hL0
  intro J N hJ hN L S es k n h ad H locs ls hag hP hD hS hl
  unfold oCallS at h
  split at h
  · rename_i as S' htk
    obtain ⟨pre, h1, h2, h3⟩ := gtake_ok htk
    simp only [List.append_nil] at h1
    subst h1
    subst h2
    obtain ⟨hc1, h⟩ := bif_t (b := Nat.ble (scat S') 8 && (Nat.ble k R.cells && Nat.ble n R.slots)) h
    obtain ⟨hc1, hc2⟩ := and_t hc1
    obtain ⟨hc2, hc3⟩ := and_t hc2
    obtain ⟨esc, hp, hav, hok, h⟩ := gspec_ok h
    have hF := gsub_F hp hok hD hS hA
    have hMet := hC D cA (fun k => ad (gid ids k)) H.size _ _ _ h
    have hcb := va_cnB (R := R) (own := own) (index := index) (host := RX6) (maxL := maxL) np hts hG hw hrc hrs (hY.2.1.1 _ hnest) (hts _ hini) hdy hRm
    refine g_call (va_runSN (As := as.map (gv ad)) (rest := S'.map (gv ad)) ⟨hx, hb, hml, hown, hts⟩ hMet ⟨hcb, hts _ hst, trivial⟩ ⟨gPc_blind, fun U hU hW => ?_⟩ rfl (by simp [h3]) hl.1 (by simp) (lv_room (by rw [scat_eq]; exact Nat.le_of_ble_eq_true hc1)) hd ⟨Nat.le_of_ble_eq_true hc2, Nat.le_of_ble_eq_true hc3⟩) hS hF (fun v es' ad' H1 locs1 hKv hag' hP1 hD1 hz hk hS1 => ?_)
    · exact g_pre (av := as) hp hok hav hn hY hP hD hS hA U hU hW
    · have had : ad' = fun k => ad (gid ids k) := funext fun i => hag' i trivial
      subst had
      obtain ⟨hlen, hKv⟩ := bif_t (b := Nat.beq es'.length ids.length) hKv
      obtain ⟨hPn, hDn⟩ := g_join hp hok hn hP hD (Nat.eq_of_beq_eq_true hlen) hk hP1
      rw [← vpush_map]
      exact hN _ _ _ _ _ hKv ad H1 locs1 ls hag hPn hDn hS1 hl
  · exact h.elim
/-- a contract out of a walk -/
theorem ct_of {l : Launch} {y : MethodName} {ws ws' : List Cond} {rm : Room} {mc ms : Nat} {al : Bool} {sp : gS} {cc : ByteArray} {maxL : Nat} {ret : Option FieldType} {own : String} (hy : plainName y.cls = true) (hown : y.cls = own) (hw : ws = Cond.code y cc maxL ret :: ws') (hav : ∀ av es K, sp av es K → (lg_sl av).length ≤ maxL)
    (body : ∀ (X : gX) (av : List Value) (es : List gE) (K : gK), gM X l cc own ws rm → gR X K mc ms ret → (∀ i, es.length ≤ i → al = true → ¬ X.2.2.2.2.2.2.2.2.2.2.2.2.2.1 i) → (y.name = "<init>" → gInit X) → X.2.2.2.2.2.2.2.2.2.2.2.2.2.2.2.2 = maxL → sp av es K → G X 0 (lv_args 0 av) [] es 0 0) : Ct l y ws rm mc ms al sp := by
  intro D cA ad sz av es K hsp
  refine Met.ofW (cc := cc) (maxL := maxL) (ret := ret) hy hw ?_
  intro p e s m args below meth c s₁ B hml hv
  obtain ⟨rfl, hsz, hP, hY, hD0⟩ := hv
  subst hsz
  have hts := atoms_spec (ws := ws) B.pre
  have hfc : s.vm.findClass own = some m.cls := by rw [← hown]; exact findClass_of_methodNamed B.named
  have hD := hD0.self (sz := s.heap.size)
  have hb := body (p, l, e, (headSpec ws rm).room, s, m, (av.map (gv ad)).toArray, below, meth, c, D, cA, va_A (gw cA ad es) s.heap.size, agr al es.length, ad, MQ below (gQ D cA ad (agr al es.length) (va_A (gw cA ad es) s.heap.size) K) (av.map (gv ad)).toArray s mc ms (va_A (gw cA ad es) s.heap.size), maxL) av es K
    ⟨B.exec, B.bytes, hfc, hts, hml, B.notSynchronized, hY, fun q h => Or.inr h, rfl, rfl⟩ ⟨B.returns, fun _ _ _ h => h⟩ (fun i hi ha h => by
      subst ha
      exact absurd h (Nat.not_lt.mpr hi)) (fun hi => (name_of_methodNamed B.named B.method).1.trans hi) rfl hsp
  have hl := lv_entry (av.map (gv ad)) (n := maxL) (by rw [lg_sl_len]; exact hav av es K hsp)
  rw [lv_args_map] at hl
  rw [lg_entry_eq]
  exact hb ad s.heap [] _ (fun _ _ => rfl) hP hD va_S.rf hl
-- the same cells, named by other functions that agree inside the rows
def eqE : gE → gE → Prop
  | .inl (t, n, .inl f), .inl (t', n', .inl g) => t = t' ∧ n = n' ∧ ∀ j, j < n → f j = g j
  | a, b => a = b
def eqL : List gE → List gE → Prop
  | [], [] => True
  | a :: as, b :: bs => eqE a b ∧ eqL as bs
  | _, _ => False
theorem eqE_rfl (a : gE) : eqE a a := by
  rcases a with ⟨t, n, f | f | f | r⟩ | ⟨c, fs⟩
  · exact ⟨rfl, rfl, fun _ _ => rfl⟩
  · rfl
  · rfl
  · rfl
  · rfl
theorem eqL_rfl : ∀ es : List gE, eqL es es
  | [] => trivial
  | a :: as => ⟨eqE_rfl a, eqL_rfl as⟩
theorem eqL_app : ∀ {a b a' b' : List gE}, eqL a a' → eqL b b' → eqL (a ++ b) (a' ++ b')
  | [], _, [], _, _, h => h
  | [], _, _ :: _, _, h, _ => h.elim
  | _ :: _, _, [], _, h, _ => h.elim
  | _ :: _, _, _ :: _, _, h, h' => ⟨h.1, eqL_app h.2 h'⟩
theorem arr_cong {c : ClassId} {n : Nat} {f g : Nat → Int32} (h : ∀ j, j < n → f j = g j) : vp_cell c (n, .inl f) = vp_cell c (n, .inl g) := by
  have e : (fun j : Fin n => Value.int (f j.val)) = fun j : Fin n => Value.int (g j.val) := funext fun j => by rw [h j.val j.isLt]
  show ({ cls := c, slots := Array.ofFn (fun j : Fin n => Value.int (f j.val)), vm := .none } : Cell) = { cls := c, slots := Array.ofFn (fun j : Fin n => Value.int (g j.val)), vm := .none }
  rw [e]
theorem eqE_ge {D : va_G} {cA : Nat → ClassId} {ad : Nat → Nat} {a b : gE} {q : Nat} {H : Heap} (h : eqE a b) (hv : va_at D vwCl (q, ge cA ad a) H) : va_at D vwCl (q, ge cA ad b) H := by
  by_cases hab : a = b
  · rw [← hab]; exact hv
  · rcases a with ⟨t, n, f | f | f | r⟩ | ⟨c, fs⟩
    · rcases b with ⟨t', n', g | g | g | r'⟩ | ⟨c', fs'⟩
      · obtain ⟨rfl, rfl, h⟩ := h
        show H[q]? = some (vp_cell (cA t) (n, .inl g))
        rw [← arr_cong h]
        exact hv
      · exact absurd h hab
      · exact absurd h hab
      · exact absurd h hab
      · exact absurd h hab
    · exact absurd h hab
    · exact absurd h hab
    · exact absurd h hab
    · exact absurd h hab
theorem eqL_at : ∀ {es es' : List gE}, eqL es es' → es.length = es'.length ∧ ∀ (i : Nat) (b : gE), es'[i]? = some b → ∃ a : gE, es[i]? = some a ∧ eqE a b
  | [], [], _ => ⟨rfl, fun i b h => by simp at h⟩
  | [], _ :: _, h => h.elim
  | _ :: _, [], h => h.elim
  | a :: as, b :: bs, h => by
    obtain ⟨h1, h2⟩ := eqL_at h.2
    refine ⟨by simp [h1], fun i c hc => ?_⟩
    cases i with
    | zero =>
      simp at hc
      subst hc
      exact ⟨a, rfl, h.1⟩
    | succ i =>
      obtain ⟨a', h3, h4⟩ := h2 i c (by simpa using hc)
      exact ⟨a', by simpa using h3, h4⟩
theorem eqL_P {D : va_G} {cA : Nat → ClassId} {ad : Nat → Nat} {es es' : List gE} {H : Heap} (h : eqL es es') (hP : va_P D vwCl (gw cA ad es) H) : va_P D vwCl (gw cA ad es') H := by
  intro i q hq
  rw [gw_at] at hq
  cases hb : es'[i]? with
  | none => rw [hb] at hq; cases hq
  | some b =>
    rw [hb] at hq
    cases hq
    obtain ⟨a, h1, h2⟩ := (eqL_at h).2 i b hb
    exact eqE_ge h2 (hP i _ (gw_get h1))
theorem eqL_D {cA : Nat → ClassId} {ad : Nat → Nat} {es es' : List gE} {A : Nat → Prop} (h : eqL es es') (hD : va_D A (gw cA ad es)) : va_D A (gw cA ad es') := by
  have key : ∀ (i : Nat) (q : Nat × va_E), (gw cA ad es')[i]? = some q → ∃ a, es[i]? = some a ∧ q.1 = ad i := by
    intro i q hq
    rw [gw_at] at hq
    cases hb : es'[i]? with
    | none => rw [hb] at hq; cases hq
    | some b =>
      rw [hb] at hq
      cases hq
      obtain ⟨a, h1, h2⟩ := (eqL_at h).2 i b hb
      exact ⟨a, h1, rfl⟩
  refine ⟨fun i j p q hp hq he => ?_, fun i q hq => ?_⟩
  · obtain ⟨a, h1, h2⟩ := key i p hp
    obtain ⟨b, h3, h4⟩ := key j q hq
    exact hD.1 i j _ _ (gw_get h1) (gw_get h3) (h2.symm.trans (he.trans h4))
  · obtain ⟨a, h1, h2⟩ := key i q hq
    rw [h2]
    exact hD.2 i (ad i, ge cA ad a) (gw_get h1)
def gEq (K : gK) : gK := fun v es => ∃ es2, eqL es es2 ∧ K v es2
theorem G_eqv {X : gX} {pc : Nat} {L : List (Nat × Value)} {S : List Value} {es es' : List gE} {k n : Nat} (he : eqL es es') (h : G X pc L S es' k n) : G X pc L S es k n := by
  obtain ⟨p, l, e, R, s, m, args, below, meth, c, D, cA, A, ag, ad0, Q, nL⟩ := X
  intro ad H locs ls ha hP hD hS hl
  exact h ad H locs ls ha (eqL_P he hP) (eqL_D he hD) hS hl
theorem gQ_eqv {D : va_G} {cA : Nat → ClassId} {ad0 : Nat → Nat} {ag A : Nat → Prop} {K : gK} {a : Array Value} {st t : State} {oc : Outcome} (h : gQ D cA ad0 ag A (gEq K) a st oc t) : gQ D cA ad0 ag A K a st oc t := by
  obtain ⟨⟨v, es, ad, h1, ⟨es2, he, hK⟩, h3, h4, h5⟩, h6⟩ := h
  exact ⟨⟨v, es2, ad, h1, hK, h3, eqL_P he h4, eqL_D he h5⟩, h6⟩
theorem gR_eqv {X : gX} {K : gK} {mc ms : Nat} {ret : Option FieldType} (h : gR X K mc ms ret) : gR X (gEq K) mc ms ret := by
  obtain ⟨p, l, e, R, s, m, args, below, meth, c, D, cA, A, ag, ad0, Q, nL⟩ := X
  refine ⟨h.1, fun H locs g hw => h.2 H locs g ?_⟩
  intro T hT X
  obtain ⟨t, st, o, h1, h2, h3, h4⟩ := hw T hT X
  exact ⟨t, st, o, h1, h2, gQ_eqv h3, h4⟩
end GC
end
section
theorem dX0_init_0 : decode cX0_init 0 = .ok (.aload_n 0, 1) := by decide +kernel
theorem dX0_init_1 : decode cX0_init 1 = .ok (.invokespecial 3, 3) := by decide +kernel
theorem dX0_init_4 : decode cX0_init 4 = .ok (.aload_n 0, 1) := by decide +kernel
theorem dX0_init_5 : decode cX0_init 5 = .ok (.bipush 80, 2) := by decide +kernel
theorem dX0_init_7 : decode cX0_init 7 = .ok (.newarray .char, 2) := by decide +kernel
theorem dX0_init_9 : decode cX0_init 9 = .ok (.putfield 9, 3) := by decide +kernel
theorem dX0_init_12 : decode cX0_init 12 = .ok (.aload_n 0, 1) := by decide +kernel
theorem dX0_init_13 : decode cX0_init 13 = .ok (.iconst 0, 1) := by decide +kernel
theorem dX0_init_14 : decode cX0_init 14 = .ok (.putfield 15, 3) := by decide +kernel
theorem dX0_init_17 : decode cX0_init 17 = .ok (.return_, 1) := by decide +kernel
theorem dX0_append_0 : decode cX0_append 0 = .ok (.aload_n 0, 1) := by decide +kernel
theorem dX0_append_1 : decode cX0_append 1 = .ok (.getfield 15, 3) := by decide +kernel
theorem dX0_append_4 : decode cX0_append 4 = .ok (.bipush 80, 2) := by decide +kernel
theorem dX0_append_6 : decode cX0_append 6 = .ok (.if_icmp .ge 23, 3) := by decide +kernel
theorem dX0_append_9 : decode cX0_append 9 = .ok (.aload_n 0, 1) := by decide +kernel
theorem dX0_append_10 : decode cX0_append 10 = .ok (.getfield 9, 3) := by decide +kernel
theorem dX0_append_13 : decode cX0_append 13 = .ok (.aload_n 0, 1) := by decide +kernel
theorem dX0_append_14 : decode cX0_append 14 = .ok (.getfield 15, 3) := by decide +kernel
theorem dX0_append_17 : decode cX0_append 17 = .ok (.iload_n 1, 1) := by decide +kernel
theorem dX0_append_18 : decode cX0_append 18 = .ok (.castore, 1) := by decide +kernel
theorem dX0_append_19 : decode cX0_append 19 = .ok (.aload_n 0, 1) := by decide +kernel
theorem dX0_append_20 : decode cX0_append 20 = .ok (.dup, 1) := by decide +kernel
theorem dX0_append_21 : decode cX0_append 21 = .ok (.getfield 15, 3) := by decide +kernel
theorem dX0_append_24 : decode cX0_append 24 = .ok (.iconst 1, 1) := by decide +kernel
theorem dX0_append_25 : decode cX0_append 25 = .ok (.iadd, 1) := by decide +kernel
theorem dX0_append_26 : decode cX0_append 26 = .ok (.putfield 15, 3) := by decide +kernel
theorem dX0_append_29 : decode cX0_append 29 = .ok (.return_, 1) := by decide +kernel
theorem dX0_signAt_0 : decode cX0_signAt 0 = .ok (.iload_n 1, 1) := by decide +kernel
theorem dX0_signAt_1 : decode cX0_signAt 1 = .ok (.ifCond .lt 26, 3) := by decide +kernel
theorem dX0_signAt_4 : decode cX0_signAt 4 = .ok (.iload_n 1, 1) := by decide +kernel
theorem dX0_signAt_5 : decode cX0_signAt 5 = .ok (.aload_n 0, 1) := by decide +kernel
theorem dX0_signAt_6 : decode cX0_signAt 6 = .ok (.getfield 15, 3) := by decide +kernel
theorem dX0_signAt_9 : decode cX0_signAt 9 = .ok (.if_icmp .ge 18, 3) := by decide +kernel
theorem dX0_signAt_12 : decode cX0_signAt 12 = .ok (.iload_n 1, 1) := by decide +kernel
theorem dX0_signAt_13 : decode cX0_signAt 13 = .ok (.bipush 80, 2) := by decide +kernel
theorem dX0_signAt_15 : decode cX0_signAt 15 = .ok (.if_icmp .ge 12, 3) := by decide +kernel
theorem dX0_signAt_18 : decode cX0_signAt 18 = .ok (.aload_n 0, 1) := by decide +kernel
theorem dX0_signAt_19 : decode cX0_signAt 19 = .ok (.getfield 9, 3) := by decide +kernel
theorem dX0_signAt_22 : decode cX0_signAt 22 = .ok (.iload_n 1, 1) := by decide +kernel
theorem dX0_signAt_23 : decode cX0_signAt 23 = .ok (.caload, 1) := by decide +kernel
theorem dX0_signAt_24 : decode cX0_signAt 24 = .ok (.goto 4, 3) := by decide +kernel
theorem dX0_signAt_27 : decode cX0_signAt 27 = .ok (.iconst (-1), 1) := by decide +kernel
theorem dX0_signAt_28 : decode cX0_signAt 28 = .ok (.ireturn, 1) := by decide +kernel
theorem dX0_commandBeginsAt_0 : decode cX0_commandBeginsAt 0 = .ok (.iload_n 1, 1) := by decide +kernel
theorem dX0_commandBeginsAt_1 : decode cX0_commandBeginsAt 1 = .ok (.ifCond .eq 15, 3) := by decide +kernel
theorem dX0_commandBeginsAt_4 : decode cX0_commandBeginsAt 4 = .ok (.aload_n 0, 1) := by decide +kernel
theorem dX0_commandBeginsAt_5 : decode cX0_commandBeginsAt 5 = .ok (.iload_n 1, 1) := by decide +kernel
theorem dX0_commandBeginsAt_6 : decode cX0_commandBeginsAt 6 = .ok (.iconst 1, 1) := by decide +kernel
theorem dX0_commandBeginsAt_7 : decode cX0_commandBeginsAt 7 = .ok (.isub, 1) := by decide +kernel
theorem dX0_commandBeginsAt_8 : decode cX0_commandBeginsAt 8 = .ok (.invokevirtual 19, 3) := by decide +kernel
theorem dX0_commandBeginsAt_11 : decode cX0_commandBeginsAt 11 = .ok (.bipush 59, 2) := by decide +kernel
theorem dX0_commandBeginsAt_13 : decode cX0_commandBeginsAt 13 = .ok (.if_icmp .ne 7, 3) := by decide +kernel
theorem dX0_commandBeginsAt_16 : decode cX0_commandBeginsAt 16 = .ok (.iconst 1, 1) := by decide +kernel
theorem dX0_commandBeginsAt_17 : decode cX0_commandBeginsAt 17 = .ok (.goto 4, 3) := by decide +kernel
theorem dX0_commandBeginsAt_20 : decode cX0_commandBeginsAt 20 = .ok (.iconst 0, 1) := by decide +kernel
theorem dX0_commandBeginsAt_21 : decode cX0_commandBeginsAt 21 = .ok (.ireturn, 1) := by decide +kernel
theorem dX0_numberAt_0 : decode cX0_numberAt 0 = .ok (.iconst 0, 1) := by decide +kernel
theorem dX0_numberAt_1 : decode cX0_numberAt 1 = .ok (.istore_n 2, 1) := by decide +kernel
theorem dX0_numberAt_2 : decode cX0_numberAt 2 = .ok (.iload_n 1, 1) := by decide +kernel
theorem dX0_numberAt_3 : decode cX0_numberAt 3 = .ok (.istore_n 3, 1) := by decide +kernel
theorem dX0_numberAt_4 : decode cX0_numberAt 4 = .ok (.iload_n 3, 1) := by decide +kernel
theorem dX0_numberAt_5 : decode cX0_numberAt 5 = .ok (.aload_n 0, 1) := by decide +kernel
theorem dX0_numberAt_6 : decode cX0_numberAt 6 = .ok (.getfield 15, 3) := by decide +kernel
theorem dX0_numberAt_9 : decode cX0_numberAt 9 = .ok (.if_icmp .ge 34, 3) := by decide +kernel
theorem dX0_numberAt_12 : decode cX0_numberAt 12 = .ok (.aload_n 0, 1) := by decide +kernel
theorem dX0_numberAt_13 : decode cX0_numberAt 13 = .ok (.iload_n 3, 1) := by decide +kernel
theorem dX0_numberAt_14 : decode cX0_numberAt 14 = .ok (.invokevirtual 19, 3) := by decide +kernel
theorem dX0_numberAt_17 : decode cX0_numberAt 17 = .ok (.invokestatic 23, 3) := by decide +kernel
theorem dX0_numberAt_20 : decode cX0_numberAt 20 = .ok (.ifCond .eq 23, 3) := by decide +kernel
theorem dX0_numberAt_23 : decode cX0_numberAt 23 = .ok (.iload_n 2, 1) := by decide +kernel
theorem dX0_numberAt_24 : decode cX0_numberAt 24 = .ok (.bipush 10, 2) := by decide +kernel
theorem dX0_numberAt_26 : decode cX0_numberAt 26 = .ok (.imul, 1) := by decide +kernel
theorem dX0_numberAt_27 : decode cX0_numberAt 27 = .ok (.aload_n 0, 1) := by decide +kernel
theorem dX0_numberAt_28 : decode cX0_numberAt 28 = .ok (.iload_n 3, 1) := by decide +kernel
theorem dX0_numberAt_29 : decode cX0_numberAt 29 = .ok (.invokevirtual 19, 3) := by decide +kernel
theorem dX0_numberAt_32 : decode cX0_numberAt 32 = .ok (.iadd, 1) := by decide +kernel
theorem dX0_numberAt_33 : decode cX0_numberAt 33 = .ok (.bipush 48, 2) := by decide +kernel
theorem dX0_numberAt_35 : decode cX0_numberAt 35 = .ok (.isub, 1) := by decide +kernel
theorem dX0_numberAt_36 : decode cX0_numberAt 36 = .ok (.istore_n 2, 1) := by decide +kernel
theorem dX0_numberAt_37 : decode cX0_numberAt 37 = .ok (.iinc 3 1, 3) := by decide +kernel
theorem dX0_numberAt_40 : decode cX0_numberAt 40 = .ok (.goto (-36), 3) := by decide +kernel
theorem dX0_numberAt_43 : decode cX0_numberAt 43 = .ok (.iload_n 2, 1) := by decide +kernel
theorem dX0_numberAt_44 : decode cX0_numberAt 44 = .ok (.ireturn, 1) := by decide +kernel
theorem dX0_firstError_0 : decode cX0_firstError 0 = .ok (.iconst 1, 1) := by decide +kernel
theorem dX0_firstError_1 : decode cX0_firstError 1 = .ok (.istore_n 1, 1) := by decide +kernel
theorem dX0_firstError_2 : decode cX0_firstError 2 = .ok (.iconst 0, 1) := by decide +kernel
theorem dX0_firstError_3 : decode cX0_firstError 3 = .ok (.istore_n 2, 1) := by decide +kernel
theorem dX0_firstError_4 : decode cX0_firstError 4 = .ok (.iconst 0, 1) := by decide +kernel
theorem dX0_firstError_5 : decode cX0_firstError 5 = .ok (.istore_n 3, 1) := by decide +kernel
theorem dX0_firstError_6 : decode cX0_firstError 6 = .ok (.iload_n 3, 1) := by decide +kernel
theorem dX0_firstError_7 : decode cX0_firstError 7 = .ok (.aload_n 0, 1) := by decide +kernel
theorem dX0_firstError_8 : decode cX0_firstError 8 = .ok (.getfield 15, 3) := by decide +kernel
theorem dX0_firstError_11 : decode cX0_firstError 11 = .ok (.if_icmp .ge 60, 3) := by decide +kernel
theorem dX0_firstError_14 : decode cX0_firstError 14 = .ok (.aload_n 0, 1) := by decide +kernel
theorem dX0_firstError_15 : decode cX0_firstError 15 = .ok (.iload_n 3, 1) := by decide +kernel
theorem dX0_firstError_16 : decode cX0_firstError 16 = .ok (.invokevirtual 19, 3) := by decide +kernel
theorem dX0_firstError_19 : decode cX0_firstError 19 = .ok (.istore 4, 2) := by decide +kernel
theorem dX0_firstError_21 : decode cX0_firstError 21 = .ok (.iload_n 1, 1) := by decide +kernel
theorem dX0_firstError_22 : decode cX0_firstError 22 = .ok (.istore 5, 2) := by decide +kernel
theorem dX0_firstError_24 : decode cX0_firstError 24 = .ok (.iload 5, 2) := by decide +kernel
theorem dX0_firstError_26 : decode cX0_firstError 26 = .ok (.iload_n 2, 1) := by decide +kernel
theorem dX0_firstError_27 : decode cX0_firstError 27 = .ok (.iload 4, 2) := by decide +kernel
theorem dX0_firstError_29 : decode cX0_firstError 29 = .ok (.invokestatic 27, 3) := by decide +kernel
theorem dX0_firstError_32 : decode cX0_firstError 32 = .ok (.istore_n 1, 1) := by decide +kernel
theorem dX0_firstError_33 : decode cX0_firstError 33 = .ok (.iload_n 1, 1) := by decide +kernel
theorem dX0_firstError_34 : decode cX0_firstError 34 = .ok (.ifCond .ne 5, 3) := by decide +kernel
theorem dX0_firstError_37 : decode cX0_firstError 37 = .ok (.iload_n 3, 1) := by decide +kernel
theorem dX0_firstError_38 : decode cX0_firstError 38 = .ok (.ireturn, 1) := by decide +kernel
theorem dX0_firstError_39 : decode cX0_firstError 39 = .ok (.iload_n 1, 1) := by decide +kernel
theorem dX0_firstError_40 : decode cX0_firstError 40 = .ok (.iconst 4, 1) := by decide +kernel
theorem dX0_firstError_41 : decode cX0_firstError 41 = .ok (.if_icmp .ne 24, 3) := by decide +kernel
theorem dX0_firstError_44 : decode cX0_firstError 44 = .ok (.iload 5, 2) := by decide +kernel
theorem dX0_firstError_46 : decode cX0_firstError 46 = .ok (.iconst 4, 1) := by decide +kernel
theorem dX0_firstError_47 : decode cX0_firstError 47 = .ok (.if_icmp .ne 10, 3) := by decide +kernel
theorem dX0_firstError_50 : decode cX0_firstError 50 = .ok (.iload_n 2, 1) := by decide +kernel
theorem dX0_firstError_51 : decode cX0_firstError 51 = .ok (.bipush 10, 2) := by decide +kernel
theorem dX0_firstError_53 : decode cX0_firstError 53 = .ok (.imul, 1) := by decide +kernel
theorem dX0_firstError_54 : decode cX0_firstError 54 = .ok (.goto 4, 3) := by decide +kernel
theorem dX0_firstError_57 : decode cX0_firstError 57 = .ok (.iconst 0, 1) := by decide +kernel
theorem dX0_firstError_58 : decode cX0_firstError 58 = .ok (.iload 4, 2) := by decide +kernel
theorem dX0_firstError_60 : decode cX0_firstError 60 = .ok (.iadd, 1) := by decide +kernel
theorem dX0_firstError_61 : decode cX0_firstError 61 = .ok (.bipush 48, 2) := by decide +kernel
theorem dX0_firstError_63 : decode cX0_firstError 63 = .ok (.isub, 1) := by decide +kernel
theorem dX0_firstError_64 : decode cX0_firstError 64 = .ok (.istore_n 2, 1) := by decide +kernel
theorem dX0_firstError_65 : decode cX0_firstError 65 = .ok (.iinc 3 1, 3) := by decide +kernel
theorem dX0_firstError_68 : decode cX0_firstError 68 = .ok (.goto (-62), 3) := by decide +kernel
theorem dX0_firstError_71 : decode cX0_firstError 71 = .ok (.iload_n 1, 1) := by decide +kernel
theorem dX0_firstError_72 : decode cX0_firstError 72 = .ok (.iconst 4, 1) := by decide +kernel
theorem dX0_firstError_73 : decode cX0_firstError 73 = .ok (.if_icmp .eq 9, 3) := by decide +kernel
theorem dX0_firstError_76 : decode cX0_firstError 76 = .ok (.iload_n 1, 1) := by decide +kernel
theorem dX0_firstError_77 : decode cX0_firstError 77 = .ok (.bipush 6, 2) := by decide +kernel
theorem dX0_firstError_79 : decode cX0_firstError 79 = .ok (.if_icmp .ne 7, 3) := by decide +kernel
theorem dX0_firstError_82 : decode cX0_firstError 82 = .ok (.iconst (-1), 1) := by decide +kernel
theorem dX0_firstError_83 : decode cX0_firstError 83 = .ok (.goto 7, 3) := by decide +kernel
theorem dX0_firstError_86 : decode cX0_firstError 86 = .ok (.aload_n 0, 1) := by decide +kernel
theorem dX0_firstError_87 : decode cX0_firstError 87 = .ok (.getfield 15, 3) := by decide +kernel
theorem dX0_firstError_90 : decode cX0_firstError 90 = .ok (.ireturn, 1) := by decide +kernel
theorem dX0_stageAfter_0 : decode cX0_stageAfter 0 = .ok (.iload_n 0, 1) := by decide +kernel
theorem dX0_stageAfter_1 : decode cX0_stageAfter 1 = .ok (.tableswitch 127 1 6 #[39, 44, 56, 69, 101, 115], 39) := by decide +kernel
theorem dX0_stageAfter_40 : decode cX0_stageAfter 40 = .ok (.iload_n 2, 1) := by decide +kernel
theorem dX0_stageAfter_41 : decode cX0_stageAfter 41 = .ok (.invokestatic 31, 3) := by decide +kernel
theorem dX0_stageAfter_44 : decode cX0_stageAfter 44 = .ok (.ireturn, 1) := by decide +kernel
theorem dX0_stageAfter_45 : decode cX0_stageAfter 45 = .ok (.iload_n 2, 1) := by decide +kernel
theorem dX0_stageAfter_46 : decode cX0_stageAfter 46 = .ok (.bipush 58, 2) := by decide +kernel
theorem dX0_stageAfter_48 : decode cX0_stageAfter 48 = .ok (.if_icmp .ne 7, 3) := by decide +kernel
theorem dX0_stageAfter_51 : decode cX0_stageAfter 51 = .ok (.iconst 3, 1) := by decide +kernel
theorem dX0_stageAfter_52 : decode cX0_stageAfter 52 = .ok (.goto 4, 3) := by decide +kernel
theorem dX0_stageAfter_55 : decode cX0_stageAfter 55 = .ok (.iconst 0, 1) := by decide +kernel
theorem dX0_stageAfter_56 : decode cX0_stageAfter 56 = .ok (.ireturn, 1) := by decide +kernel
theorem dX0_stageAfter_57 : decode cX0_stageAfter 57 = .ok (.iload_n 2, 1) := by decide +kernel
theorem dX0_stageAfter_58 : decode cX0_stageAfter 58 = .ok (.invokestatic 23, 3) := by decide +kernel
theorem dX0_stageAfter_61 : decode cX0_stageAfter 61 = .ok (.ifCond .eq 7, 3) := by decide +kernel
theorem dX0_stageAfter_64 : decode cX0_stageAfter 64 = .ok (.iconst 4, 1) := by decide +kernel
theorem dX0_stageAfter_65 : decode cX0_stageAfter 65 = .ok (.goto 4, 3) := by decide +kernel
theorem dX0_stageAfter_68 : decode cX0_stageAfter 68 = .ok (.iconst 0, 1) := by decide +kernel
theorem dX0_stageAfter_69 : decode cX0_stageAfter 69 = .ok (.ireturn, 1) := by decide +kernel
theorem dX0_stageAfter_70 : decode cX0_stageAfter 70 = .ok (.iload_n 2, 1) := by decide +kernel
theorem dX0_stageAfter_71 : decode cX0_stageAfter 71 = .ok (.bipush 59, 2) := by decide +kernel
theorem dX0_stageAfter_73 : decode cX0_stageAfter 73 = .ok (.if_icmp .ne 5, 3) := by decide +kernel
theorem dX0_stageAfter_76 : decode cX0_stageAfter 76 = .ok (.iconst 1, 1) := by decide +kernel
theorem dX0_stageAfter_77 : decode cX0_stageAfter 77 = .ok (.ireturn, 1) := by decide +kernel
theorem dX0_stageAfter_78 : decode cX0_stageAfter 78 = .ok (.iload_n 2, 1) := by decide +kernel
theorem dX0_stageAfter_79 : decode cX0_stageAfter 79 = .ok (.invokestatic 23, 3) := by decide +kernel
theorem dX0_stageAfter_82 : decode cX0_stageAfter 82 = .ok (.ifCond .eq 18, 3) := by decide +kernel
theorem dX0_stageAfter_85 : decode cX0_stageAfter 85 = .ok (.iload_n 1, 1) := by decide +kernel
theorem dX0_stageAfter_86 : decode cX0_stageAfter 86 = .ok (.iload_n 2, 1) := by decide +kernel
theorem dX0_stageAfter_87 : decode cX0_stageAfter 87 = .ok (.bipush 48, 2) := by decide +kernel
theorem dX0_stageAfter_89 : decode cX0_stageAfter 89 = .ok (.isub, 1) := by decide +kernel
theorem dX0_stageAfter_90 : decode cX0_stageAfter 90 = .ok (.invokestatic 34, 3) := by decide +kernel
theorem dX0_stageAfter_93 : decode cX0_stageAfter 93 = .ok (.ifCond .eq 7, 3) := by decide +kernel
theorem dX0_stageAfter_96 : decode cX0_stageAfter 96 = .ok (.iconst 4, 1) := by decide +kernel
theorem dX0_stageAfter_97 : decode cX0_stageAfter 97 = .ok (.goto 4, 3) := by decide +kernel
theorem dX0_stageAfter_100 : decode cX0_stageAfter 100 = .ok (.iconst 0, 1) := by decide +kernel
theorem dX0_stageAfter_101 : decode cX0_stageAfter 101 = .ok (.ireturn, 1) := by decide +kernel
theorem dX0_stageAfter_102 : decode cX0_stageAfter 102 = .ok (.iload_n 2, 1) := by decide +kernel
theorem dX0_stageAfter_103 : decode cX0_stageAfter 103 = .ok (.invokestatic 38, 3) := by decide +kernel
theorem dX0_stageAfter_106 : decode cX0_stageAfter 106 = .ok (.ifCond .eq 8, 3) := by decide +kernel
theorem dX0_stageAfter_109 : decode cX0_stageAfter 109 = .ok (.bipush 6, 2) := by decide +kernel
theorem dX0_stageAfter_111 : decode cX0_stageAfter 111 = .ok (.goto 4, 3) := by decide +kernel
theorem dX0_stageAfter_114 : decode cX0_stageAfter 114 = .ok (.iconst 0, 1) := by decide +kernel
theorem dX0_stageAfter_115 : decode cX0_stageAfter 115 = .ok (.ireturn, 1) := by decide +kernel
theorem dX0_stageAfter_116 : decode cX0_stageAfter 116 = .ok (.iload_n 2, 1) := by decide +kernel
theorem dX0_stageAfter_117 : decode cX0_stageAfter 117 = .ok (.bipush 59, 2) := by decide +kernel
theorem dX0_stageAfter_119 : decode cX0_stageAfter 119 = .ok (.if_icmp .ne 7, 3) := by decide +kernel
theorem dX0_stageAfter_122 : decode cX0_stageAfter 122 = .ok (.iconst 1, 1) := by decide +kernel
theorem dX0_stageAfter_123 : decode cX0_stageAfter 123 = .ok (.goto 4, 3) := by decide +kernel
theorem dX0_stageAfter_126 : decode cX0_stageAfter 126 = .ok (.iconst 0, 1) := by decide +kernel
theorem dX0_stageAfter_127 : decode cX0_stageAfter 127 = .ok (.ireturn, 1) := by decide +kernel
theorem dX0_stageAfter_128 : decode cX0_stageAfter 128 = .ok (.iconst 0, 1) := by decide +kernel
theorem dX0_stageAfter_129 : decode cX0_stageAfter 129 = .ok (.ireturn, 1) := by decide +kernel
theorem dX0_stageAfterFirst_0 : decode cX0_stageAfterFirst 0 = .ok (.iload_n 0, 1) := by decide +kernel
theorem dX0_stageAfterFirst_1 : decode cX0_stageAfterFirst 1 = .ok (.invokestatic 38, 3) := by decide +kernel
theorem dX0_stageAfterFirst_4 : decode cX0_stageAfterFirst 4 = .ok (.ifCond .eq 5, 3) := by decide +kernel
theorem dX0_stageAfterFirst_7 : decode cX0_stageAfterFirst 7 = .ok (.iconst 2, 1) := by decide +kernel
theorem dX0_stageAfterFirst_8 : decode cX0_stageAfterFirst 8 = .ok (.ireturn, 1) := by decide +kernel
theorem dX0_stageAfterFirst_9 : decode cX0_stageAfterFirst 9 = .ok (.iload_n 0, 1) := by decide +kernel
theorem dX0_stageAfterFirst_10 : decode cX0_stageAfterFirst 10 = .ok (.bipush 102, 2) := by decide +kernel
theorem dX0_stageAfterFirst_12 : decode cX0_stageAfterFirst 12 = .ok (.if_icmp .ne 5, 3) := by decide +kernel
theorem dX0_stageAfterFirst_15 : decode cX0_stageAfterFirst 15 = .ok (.iconst 5, 1) := by decide +kernel
theorem dX0_stageAfterFirst_16 : decode cX0_stageAfterFirst 16 = .ok (.ireturn, 1) := by decide +kernel
theorem dX0_stageAfterFirst_17 : decode cX0_stageAfterFirst 17 = .ok (.iload_n 0, 1) := by decide +kernel
theorem dX0_stageAfterFirst_18 : decode cX0_stageAfterFirst 18 = .ok (.bipush 109, 2) := by decide +kernel
theorem dX0_stageAfterFirst_20 : decode cX0_stageAfterFirst 20 = .ok (.if_icmp .eq 9, 3) := by decide +kernel
theorem dX0_stageAfterFirst_23 : decode cX0_stageAfterFirst 23 = .ok (.iload_n 0, 1) := by decide +kernel
theorem dX0_stageAfterFirst_24 : decode cX0_stageAfterFirst 24 = .ok (.bipush 104, 2) := by decide +kernel
theorem dX0_stageAfterFirst_26 : decode cX0_stageAfterFirst 26 = .ok (.if_icmp .ne 8, 3) := by decide +kernel
theorem dX0_stageAfterFirst_29 : decode cX0_stageAfterFirst 29 = .ok (.bipush 6, 2) := by decide +kernel
theorem dX0_stageAfterFirst_31 : decode cX0_stageAfterFirst 31 = .ok (.goto 4, 3) := by decide +kernel
theorem dX0_stageAfterFirst_34 : decode cX0_stageAfterFirst 34 = .ok (.iconst 0, 1) := by decide +kernel
theorem dX0_stageAfterFirst_35 : decode cX0_stageAfterFirst 35 = .ok (.ireturn, 1) := by decide +kernel
theorem dX0_mayGoOn_0 : decode cX0_mayGoOn 0 = .ok (.iload_n 0, 1) := by decide +kernel
theorem dX0_mayGoOn_1 : decode cX0_mayGoOn 1 = .ok (.ifCond .eq 19, 3) := by decide +kernel
theorem dX0_mayGoOn_4 : decode cX0_mayGoOn 4 = .ok (.iload_n 0, 1) := by decide +kernel
theorem dX0_mayGoOn_5 : decode cX0_mayGoOn 5 = .ok (.bipush 10, 2) := by decide +kernel
theorem dX0_mayGoOn_7 : decode cX0_mayGoOn 7 = .ok (.imul, 1) := by decide +kernel
theorem dX0_mayGoOn_8 : decode cX0_mayGoOn 8 = .ok (.iload_n 1, 1) := by decide +kernel
theorem dX0_mayGoOn_9 : decode cX0_mayGoOn 9 = .ok (.iadd, 1) := by decide +kernel
theorem dX0_mayGoOn_10 : decode cX0_mayGoOn 10 = .ok (.sipush 256, 3) := by decide +kernel
theorem dX0_mayGoOn_13 : decode cX0_mayGoOn 13 = .ok (.if_icmp .ge 7, 3) := by decide +kernel
theorem dX0_mayGoOn_16 : decode cX0_mayGoOn 16 = .ok (.iconst 1, 1) := by decide +kernel
theorem dX0_mayGoOn_17 : decode cX0_mayGoOn 17 = .ok (.goto 4, 3) := by decide +kernel
theorem dX0_mayGoOn_20 : decode cX0_mayGoOn 20 = .ok (.iconst 0, 1) := by decide +kernel
theorem dX0_mayGoOn_21 : decode cX0_mayGoOn 21 = .ok (.ireturn, 1) := by decide +kernel
theorem dX0_isDigit_0 : decode cX0_isDigit 0 = .ok (.iload_n 0, 1) := by decide +kernel
theorem dX0_isDigit_1 : decode cX0_isDigit 1 = .ok (.bipush 48, 2) := by decide +kernel
theorem dX0_isDigit_3 : decode cX0_isDigit 3 = .ok (.if_icmp .lt 13, 3) := by decide +kernel
theorem dX0_isDigit_6 : decode cX0_isDigit 6 = .ok (.iload_n 0, 1) := by decide +kernel
theorem dX0_isDigit_7 : decode cX0_isDigit 7 = .ok (.bipush 57, 2) := by decide +kernel
theorem dX0_isDigit_9 : decode cX0_isDigit 9 = .ok (.if_icmp .gt 7, 3) := by decide +kernel
theorem dX0_isDigit_12 : decode cX0_isDigit 12 = .ok (.iconst 1, 1) := by decide +kernel
theorem dX0_isDigit_13 : decode cX0_isDigit 13 = .ok (.goto 4, 3) := by decide +kernel
theorem dX0_isDigit_16 : decode cX0_isDigit 16 = .ok (.iconst 0, 1) := by decide +kernel
theorem dX0_isDigit_17 : decode cX0_isDigit 17 = .ok (.ireturn, 1) := by decide +kernel
theorem dX0_isTenantDigit_0 : decode cX0_isTenantDigit 0 = .ok (.iload_n 0, 1) := by decide +kernel
theorem dX0_isTenantDigit_1 : decode cX0_isTenantDigit 1 = .ok (.bipush 48, 2) := by decide +kernel
theorem dX0_isTenantDigit_3 : decode cX0_isTenantDigit 3 = .ok (.if_icmp .lt 13, 3) := by decide +kernel
theorem dX0_isTenantDigit_6 : decode cX0_isTenantDigit 6 = .ok (.iload_n 0, 1) := by decide +kernel
theorem dX0_isTenantDigit_7 : decode cX0_isTenantDigit 7 = .ok (.bipush 52, 2) := by decide +kernel
theorem dX0_isTenantDigit_9 : decode cX0_isTenantDigit 9 = .ok (.if_icmp .ge 7, 3) := by decide +kernel
theorem dX0_isTenantDigit_12 : decode cX0_isTenantDigit 12 = .ok (.iconst 1, 1) := by decide +kernel
theorem dX0_isTenantDigit_13 : decode cX0_isTenantDigit 13 = .ok (.goto 4, 3) := by decide +kernel
theorem dX0_isTenantDigit_16 : decode cX0_isTenantDigit 16 = .ok (.iconst 0, 1) := by decide +kernel
theorem dX0_isTenantDigit_17 : decode cX0_isTenantDigit 17 = .ok (.ireturn, 1) := by decide +kernel
theorem dX1_init_0 : decode cX1_init 0 = .ok (.aload_n 0, 1) := by decide +kernel
theorem dX1_init_1 : decode cX1_init 1 = .ok (.invokespecial 3, 3) := by decide +kernel
theorem dX1_init_4 : decode cX1_init 4 = .ok (.aload_n 0, 1) := by decide +kernel
theorem dX1_init_5 : decode cX1_init 5 = .ok (.bipush 6, 2) := by decide +kernel
theorem dX1_init_7 : decode cX1_init 7 = .ok (.anewarray 9, 3) := by decide +kernel
theorem dX1_init_10 : decode cX1_init 10 = .ok (.putfield 11, 3) := by decide +kernel
theorem dX1_init_13 : decode cX1_init 13 = .ok (.aload_n 0, 1) := by decide +kernel
theorem dX1_init_14 : decode cX1_init 14 = .ok (.iconst 0, 1) := by decide +kernel
theorem dX1_init_15 : decode cX1_init 15 = .ok (.putfield 17, 3) := by decide +kernel
theorem dX1_init_18 : decode cX1_init 18 = .ok (.aload_n 0, 1) := by decide +kernel
theorem dX1_init_19 : decode cX1_init 19 = .ok (.iconst 0, 1) := by decide +kernel
theorem dX1_init_20 : decode cX1_init 20 = .ok (.putfield 21, 3) := by decide +kernel
theorem dX1_init_23 : decode cX1_init 23 = .ok (.iconst 0, 1) := by decide +kernel
theorem dX1_init_24 : decode cX1_init 24 = .ok (.istore_n 1, 1) := by decide +kernel
theorem dX1_init_25 : decode cX1_init 25 = .ok (.iload_n 1, 1) := by decide +kernel
theorem dX1_init_26 : decode cX1_init 26 = .ok (.bipush 6, 2) := by decide +kernel
theorem dX1_init_28 : decode cX1_init 28 = .ok (.if_icmp .ge 22, 3) := by decide +kernel
theorem dX1_init_31 : decode cX1_init 31 = .ok (.aload_n 0, 1) := by decide +kernel
theorem dX1_init_32 : decode cX1_init 32 = .ok (.getfield 11, 3) := by decide +kernel
theorem dX1_init_35 : decode cX1_init 35 = .ok (.iload_n 1, 1) := by decide +kernel
theorem dX1_init_36 : decode cX1_init 36 = .ok (.new 9, 3) := by decide +kernel
theorem dX1_init_39 : decode cX1_init 39 = .ok (.dup, 1) := by decide +kernel
theorem dX1_init_40 : decode cX1_init 40 = .ok (.invokespecial 24, 3) := by decide +kernel
theorem dX1_init_43 : decode cX1_init 43 = .ok (.aastore, 1) := by decide +kernel
theorem dX1_init_44 : decode cX1_init 44 = .ok (.iinc 1 1, 3) := by decide +kernel
theorem dX1_init_47 : decode cX1_init 47 = .ok (.goto (-22), 3) := by decide +kernel
theorem dX1_init_50 : decode cX1_init 50 = .ok (.return_, 1) := by decide +kernel
theorem dX1_push_0 : decode cX1_push 0 = .ok (.aload_n 0, 1) := by decide +kernel
theorem dX1_push_1 : decode cX1_push 1 = .ok (.getfield 11, 3) := by decide +kernel
theorem dX1_push_4 : decode cX1_push 4 = .ok (.aload_n 0, 1) := by decide +kernel
theorem dX1_push_5 : decode cX1_push 5 = .ok (.getfield 17, 3) := by decide +kernel
theorem dX1_push_8 : decode cX1_push 8 = .ok (.aload_n 0, 1) := by decide +kernel
theorem dX1_push_9 : decode cX1_push 9 = .ok (.getfield 21, 3) := by decide +kernel
theorem dX1_push_12 : decode cX1_push 12 = .ok (.iadd, 1) := by decide +kernel
theorem dX1_push_13 : decode cX1_push 13 = .ok (.bipush 6, 2) := by decide +kernel
theorem dX1_push_15 : decode cX1_push 15 = .ok (.irem, 1) := by decide +kernel
theorem dX1_push_16 : decode cX1_push 16 = .ok (.aaload, 1) := by decide +kernel
theorem dX1_push_17 : decode cX1_push 17 = .ok (.aload_n 1, 1) := by decide +kernel
theorem dX1_push_18 : decode cX1_push 18 = .ok (.invokevirtual 25, 3) := by decide +kernel
theorem dX1_push_21 : decode cX1_push 21 = .ok (.aload_n 0, 1) := by decide +kernel
theorem dX1_push_22 : decode cX1_push 22 = .ok (.getfield 21, 3) := by decide +kernel
theorem dX1_push_25 : decode cX1_push 25 = .ok (.bipush 6, 2) := by decide +kernel
theorem dX1_push_27 : decode cX1_push 27 = .ok (.if_icmp .ge 16, 3) := by decide +kernel
theorem dX1_push_30 : decode cX1_push 30 = .ok (.aload_n 0, 1) := by decide +kernel
theorem dX1_push_31 : decode cX1_push 31 = .ok (.dup, 1) := by decide +kernel
theorem dX1_push_32 : decode cX1_push 32 = .ok (.getfield 21, 3) := by decide +kernel
theorem dX1_push_35 : decode cX1_push 35 = .ok (.iconst 1, 1) := by decide +kernel
theorem dX1_push_36 : decode cX1_push 36 = .ok (.iadd, 1) := by decide +kernel
theorem dX1_push_37 : decode cX1_push 37 = .ok (.putfield 21, 3) := by decide +kernel
theorem dX1_push_40 : decode cX1_push 40 = .ok (.goto 16, 3) := by decide +kernel
theorem dX1_push_43 : decode cX1_push 43 = .ok (.aload_n 0, 1) := by decide +kernel
theorem dX1_push_44 : decode cX1_push 44 = .ok (.aload_n 0, 1) := by decide +kernel
theorem dX1_push_45 : decode cX1_push 45 = .ok (.getfield 17, 3) := by decide +kernel
theorem dX1_push_48 : decode cX1_push 48 = .ok (.iconst 1, 1) := by decide +kernel
theorem dX1_push_49 : decode cX1_push 49 = .ok (.iadd, 1) := by decide +kernel
theorem dX1_push_50 : decode cX1_push 50 = .ok (.bipush 6, 2) := by decide +kernel
theorem dX1_push_52 : decode cX1_push 52 = .ok (.irem, 1) := by decide +kernel
theorem dX1_push_53 : decode cX1_push 53 = .ok (.putfield 17, 3) := by decide +kernel
theorem dX1_push_56 : decode cX1_push 56 = .ok (.return_, 1) := by decide +kernel
theorem dX1_popInto_0 : decode cX1_popInto 0 = .ok (.aload_n 0, 1) := by decide +kernel
theorem dX1_popInto_1 : decode cX1_popInto 1 = .ok (.getfield 21, 3) := by decide +kernel
theorem dX1_popInto_4 : decode cX1_popInto 4 = .ok (.ifCond .le 34, 3) := by decide +kernel
theorem dX1_popInto_7 : decode cX1_popInto 7 = .ok (.aload_n 0, 1) := by decide +kernel
theorem dX1_popInto_8 : decode cX1_popInto 8 = .ok (.dup, 1) := by decide +kernel
theorem dX1_popInto_9 : decode cX1_popInto 9 = .ok (.getfield 21, 3) := by decide +kernel
theorem dX1_popInto_12 : decode cX1_popInto 12 = .ok (.iconst 1, 1) := by decide +kernel
theorem dX1_popInto_13 : decode cX1_popInto 13 = .ok (.isub, 1) := by decide +kernel
theorem dX1_popInto_14 : decode cX1_popInto 14 = .ok (.putfield 21, 3) := by decide +kernel
theorem dX1_popInto_17 : decode cX1_popInto 17 = .ok (.aload_n 1, 1) := by decide +kernel
theorem dX1_popInto_18 : decode cX1_popInto 18 = .ok (.aload_n 0, 1) := by decide +kernel
theorem dX1_popInto_19 : decode cX1_popInto 19 = .ok (.getfield 11, 3) := by decide +kernel
theorem dX1_popInto_22 : decode cX1_popInto 22 = .ok (.aload_n 0, 1) := by decide +kernel
theorem dX1_popInto_23 : decode cX1_popInto 23 = .ok (.getfield 17, 3) := by decide +kernel
theorem dX1_popInto_26 : decode cX1_popInto 26 = .ok (.aload_n 0, 1) := by decide +kernel
theorem dX1_popInto_27 : decode cX1_popInto 27 = .ok (.getfield 21, 3) := by decide +kernel
theorem dX1_popInto_30 : decode cX1_popInto 30 = .ok (.iadd, 1) := by decide +kernel
theorem dX1_popInto_31 : decode cX1_popInto 31 = .ok (.bipush 6, 2) := by decide +kernel
theorem dX1_popInto_33 : decode cX1_popInto 33 = .ok (.irem, 1) := by decide +kernel
theorem dX1_popInto_34 : decode cX1_popInto 34 = .ok (.aaload, 1) := by decide +kernel
theorem dX1_popInto_35 : decode cX1_popInto 35 = .ok (.invokevirtual 25, 3) := by decide +kernel
theorem dX1_popInto_38 : decode cX1_popInto 38 = .ok (.return_, 1) := by decide +kernel
theorem dX2_init_0 : decode cX2_init 0 = .ok (.aload_n 0, 1) := by decide +kernel
theorem dX2_init_1 : decode cX2_init 1 = .ok (.invokespecial 3, 3) := by decide +kernel
theorem dX2_init_4 : decode cX2_init 4 = .ok (.aload_n 0, 1) := by decide +kernel
theorem dX2_init_5 : decode cX2_init 5 = .ok (.bipush 64, 2) := by decide +kernel
theorem dX2_init_7 : decode cX2_init 7 = .ok (.newarray .int, 2) := by decide +kernel
theorem dX2_init_9 : decode cX2_init 9 = .ok (.putfield 9, 3) := by decide +kernel
theorem dX2_init_12 : decode cX2_init 12 = .ok (.aload_n 0, 1) := by decide +kernel
theorem dX2_init_13 : decode cX2_init 13 = .ok (.bipush 32, 2) := by decide +kernel
theorem dX2_init_15 : decode cX2_init 15 = .ok (.newarray .int, 2) := by decide +kernel
theorem dX2_init_17 : decode cX2_init 17 = .ok (.putfield 15, 3) := by decide +kernel
theorem dX2_init_20 : decode cX2_init 20 = .ok (.iconst 0, 1) := by decide +kernel
theorem dX2_init_21 : decode cX2_init 21 = .ok (.istore_n 1, 1) := by decide +kernel
theorem dX2_init_22 : decode cX2_init 22 = .ok (.iload_n 1, 1) := by decide +kernel
theorem dX2_init_23 : decode cX2_init 23 = .ok (.aload_n 0, 1) := by decide +kernel
theorem dX2_init_24 : decode cX2_init 24 = .ok (.getfield 9, 3) := by decide +kernel
theorem dX2_init_27 : decode cX2_init 27 = .ok (.arraylength, 1) := by decide +kernel
theorem dX2_init_28 : decode cX2_init 28 = .ok (.if_icmp .ge 16, 3) := by decide +kernel
theorem dX2_init_31 : decode cX2_init 31 = .ok (.aload_n 0, 1) := by decide +kernel
theorem dX2_init_32 : decode cX2_init 32 = .ok (.getfield 9, 3) := by decide +kernel
theorem dX2_init_35 : decode cX2_init 35 = .ok (.iload_n 1, 1) := by decide +kernel
theorem dX2_init_36 : decode cX2_init 36 = .ok (.iconst (-1), 1) := by decide +kernel
theorem dX2_init_37 : decode cX2_init 37 = .ok (.iastore, 1) := by decide +kernel
theorem dX2_init_38 : decode cX2_init 38 = .ok (.iinc 1 1, 3) := by decide +kernel
theorem dX2_init_41 : decode cX2_init 41 = .ok (.goto (-19), 3) := by decide +kernel
theorem dX2_init_44 : decode cX2_init 44 = .ok (.return_, 1) := by decide +kernel
theorem dX2_copyFrom_0 : decode cX2_copyFrom 0 = .ok (.aload_n 1, 1) := by decide +kernel
theorem dX2_copyFrom_1 : decode cX2_copyFrom 1 = .ok (.getfield 9, 3) := by decide +kernel
theorem dX2_copyFrom_4 : decode cX2_copyFrom 4 = .ok (.iconst 0, 1) := by decide +kernel
theorem dX2_copyFrom_5 : decode cX2_copyFrom 5 = .ok (.aload_n 0, 1) := by decide +kernel
theorem dX2_copyFrom_6 : decode cX2_copyFrom 6 = .ok (.getfield 9, 3) := by decide +kernel
theorem dX2_copyFrom_9 : decode cX2_copyFrom 9 = .ok (.iconst 0, 1) := by decide +kernel
theorem dX2_copyFrom_10 : decode cX2_copyFrom 10 = .ok (.aload_n 0, 1) := by decide +kernel
theorem dX2_copyFrom_11 : decode cX2_copyFrom 11 = .ok (.getfield 9, 3) := by decide +kernel
theorem dX2_copyFrom_14 : decode cX2_copyFrom 14 = .ok (.arraylength, 1) := by decide +kernel
theorem dX2_copyFrom_15 : decode cX2_copyFrom 15 = .ok (.invokestatic 18, 3) := by decide +kernel
theorem dX2_copyFrom_18 : decode cX2_copyFrom 18 = .ok (.aload_n 1, 1) := by decide +kernel
theorem dX2_copyFrom_19 : decode cX2_copyFrom 19 = .ok (.getfield 15, 3) := by decide +kernel
theorem dX2_copyFrom_22 : decode cX2_copyFrom 22 = .ok (.iconst 0, 1) := by decide +kernel
theorem dX2_copyFrom_23 : decode cX2_copyFrom 23 = .ok (.aload_n 0, 1) := by decide +kernel
theorem dX2_copyFrom_24 : decode cX2_copyFrom 24 = .ok (.getfield 15, 3) := by decide +kernel
theorem dX2_copyFrom_27 : decode cX2_copyFrom 27 = .ok (.iconst 0, 1) := by decide +kernel
theorem dX2_copyFrom_28 : decode cX2_copyFrom 28 = .ok (.aload_n 0, 1) := by decide +kernel
theorem dX2_copyFrom_29 : decode cX2_copyFrom 29 = .ok (.getfield 15, 3) := by decide +kernel
theorem dX2_copyFrom_32 : decode cX2_copyFrom 32 = .ok (.arraylength, 1) := by decide +kernel
theorem dX2_copyFrom_33 : decode cX2_copyFrom 33 = .ok (.invokestatic 18, 3) := by decide +kernel
theorem dX2_copyFrom_36 : decode cX2_copyFrom 36 = .ok (.return_, 1) := by decide +kernel
theorem dX2_note_0 : decode cX2_note 0 = .ok (.iload_n 2, 1) := by decide +kernel
theorem dX2_note_1 : decode cX2_note 1 = .ok (.iconst 4, 1) := by decide +kernel
theorem dX2_note_2 : decode cX2_note 2 = .ok (.irem, 1) := by decide +kernel
theorem dX2_note_3 : decode cX2_note 3 = .ok (.istore_n 3, 1) := by decide +kernel
theorem dX2_note_4 : decode cX2_note 4 = .ok (.iload_n 3, 1) := by decide +kernel
theorem dX2_note_5 : decode cX2_note 5 = .ok (.invokestatic 24, 3) := by decide +kernel
theorem dX2_note_8 : decode cX2_note 8 = .ok (.ifCond .ne 4, 3) := by decide +kernel
theorem dX2_note_11 : decode cX2_note 11 = .ok (.return_, 1) := by decide +kernel
theorem dX2_note_12 : decode cX2_note 12 = .ok (.iload_n 1, 1) := by decide +kernel
theorem dX2_note_13 : decode cX2_note 13 = .ok (.iload_n 3, 1) := by decide +kernel
theorem dX2_note_14 : decode cX2_note 14 = .ok (.invokestatic 28, 3) := by decide +kernel
theorem dX2_note_17 : decode cX2_note 17 = .ok (.istore 4, 2) := by decide +kernel
theorem dX2_note_19 : decode cX2_note 19 = .ok (.bipush 7, 2) := by decide +kernel
theorem dX2_note_21 : decode cX2_note 21 = .ok (.istore 5, 2) := by decide +kernel
theorem dX2_note_23 : decode cX2_note 23 = .ok (.iconst 0, 1) := by decide +kernel
theorem dX2_note_24 : decode cX2_note 24 = .ok (.istore 6, 2) := by decide +kernel
theorem dX2_note_26 : decode cX2_note 26 = .ok (.iload 6, 2) := by decide +kernel
theorem dX2_note_28 : decode cX2_note 28 = .ok (.bipush 8, 2) := by decide +kernel
theorem dX2_note_30 : decode cX2_note 30 = .ok (.if_icmp .ge 43, 3) := by decide +kernel
theorem dX2_note_33 : decode cX2_note 33 = .ok (.aload_n 0, 1) := by decide +kernel
theorem dX2_note_34 : decode cX2_note 34 = .ok (.getfield 9, 3) := by decide +kernel
theorem dX2_note_37 : decode cX2_note 37 = .ok (.iload 4, 2) := by decide +kernel
theorem dX2_note_39 : decode cX2_note 39 = .ok (.iload 6, 2) := by decide +kernel
theorem dX2_note_41 : decode cX2_note 41 = .ok (.iadd, 1) := by decide +kernel
theorem dX2_note_42 : decode cX2_note 42 = .ok (.iaload, 1) := by decide +kernel
theorem dX2_note_43 : decode cX2_note 43 = .ok (.iload_n 2, 1) := by decide +kernel
theorem dX2_note_44 : decode cX2_note 44 = .ok (.if_icmp .ne 23, 3) := by decide +kernel
theorem dX2_note_47 : decode cX2_note 47 = .ok (.aload_n 0, 1) := by decide +kernel
theorem dX2_note_48 : decode cX2_note 48 = .ok (.getfield 15, 3) := by decide +kernel
theorem dX2_note_51 : decode cX2_note 51 = .ok (.iload_n 1, 1) := by decide +kernel
theorem dX2_note_52 : decode cX2_note 52 = .ok (.bipush 8, 2) := by decide +kernel
theorem dX2_note_54 : decode cX2_note 54 = .ok (.imul, 1) := by decide +kernel
theorem dX2_note_55 : decode cX2_note 55 = .ok (.iload 6, 2) := by decide +kernel
theorem dX2_note_57 : decode cX2_note 57 = .ok (.iadd, 1) := by decide +kernel
theorem dX2_note_58 : decode cX2_note 58 = .ok (.dup2, 1) := by decide +kernel
theorem dX2_note_59 : decode cX2_note 59 = .ok (.iaload, 1) := by decide +kernel
theorem dX2_note_60 : decode cX2_note 60 = .ok (.iconst 1, 1) := by decide +kernel
theorem dX2_note_61 : decode cX2_note 61 = .ok (.iadd, 1) := by decide +kernel
theorem dX2_note_62 : decode cX2_note 62 = .ok (.iastore, 1) := by decide +kernel
theorem dX2_note_63 : decode cX2_note 63 = .ok (.iload 6, 2) := by decide +kernel
theorem dX2_note_65 : decode cX2_note 65 = .ok (.istore 5, 2) := by decide +kernel
theorem dX2_note_67 : decode cX2_note 67 = .ok (.iinc 6 1, 3) := by decide +kernel
theorem dX2_note_70 : decode cX2_note 70 = .ok (.goto (-44), 3) := by decide +kernel
theorem dX2_note_73 : decode cX2_note 73 = .ok (.iload 5, 2) := by decide +kernel
theorem dX2_note_75 : decode cX2_note 75 = .ok (.istore 6, 2) := by decide +kernel
theorem dX2_note_77 : decode cX2_note 77 = .ok (.iload 6, 2) := by decide +kernel
theorem dX2_note_79 : decode cX2_note 79 = .ok (.ifCond .le 31, 3) := by decide +kernel
theorem dX2_note_82 : decode cX2_note 82 = .ok (.aload_n 0, 1) := by decide +kernel
theorem dX2_note_83 : decode cX2_note 83 = .ok (.getfield 9, 3) := by decide +kernel
theorem dX2_note_86 : decode cX2_note 86 = .ok (.iload 4, 2) := by decide +kernel
theorem dX2_note_88 : decode cX2_note 88 = .ok (.iload 6, 2) := by decide +kernel
theorem dX2_note_90 : decode cX2_note 90 = .ok (.iadd, 1) := by decide +kernel
theorem dX2_note_91 : decode cX2_note 91 = .ok (.aload_n 0, 1) := by decide +kernel
theorem dX2_note_92 : decode cX2_note 92 = .ok (.getfield 9, 3) := by decide +kernel
theorem dX2_note_95 : decode cX2_note 95 = .ok (.iload 4, 2) := by decide +kernel
theorem dX2_note_97 : decode cX2_note 97 = .ok (.iload 6, 2) := by decide +kernel
theorem dX2_note_99 : decode cX2_note 99 = .ok (.iadd, 1) := by decide +kernel
theorem dX2_note_100 : decode cX2_note 100 = .ok (.iconst 1, 1) := by decide +kernel
theorem dX2_note_101 : decode cX2_note 101 = .ok (.isub, 1) := by decide +kernel
theorem dX2_note_102 : decode cX2_note 102 = .ok (.iaload, 1) := by decide +kernel
theorem dX2_note_103 : decode cX2_note 103 = .ok (.iastore, 1) := by decide +kernel
theorem dX2_note_104 : decode cX2_note 104 = .ok (.iinc 6 (-1), 3) := by decide +kernel
theorem dX2_note_107 : decode cX2_note 107 = .ok (.goto (-30), 3) := by decide +kernel
theorem dX2_note_110 : decode cX2_note 110 = .ok (.aload_n 0, 1) := by decide +kernel
theorem dX2_note_111 : decode cX2_note 111 = .ok (.getfield 9, 3) := by decide +kernel
theorem dX2_note_114 : decode cX2_note 114 = .ok (.iload 4, 2) := by decide +kernel
theorem dX2_note_116 : decode cX2_note 116 = .ok (.iload_n 2, 1) := by decide +kernel
theorem dX2_note_117 : decode cX2_note 117 = .ok (.iastore, 1) := by decide +kernel
theorem dX2_note_118 : decode cX2_note 118 = .ok (.return_, 1) := by decide +kernel
theorem dX2_utilityOf_0 : decode cX2_utilityOf 0 = .ok (.iconst 0, 1) := by decide +kernel
theorem dX2_utilityOf_1 : decode cX2_utilityOf 1 = .ok (.istore_n 3, 1) := by decide +kernel
theorem dX2_utilityOf_2 : decode cX2_utilityOf 2 = .ok (.iconst 0, 1) := by decide +kernel
theorem dX2_utilityOf_3 : decode cX2_utilityOf 3 = .ok (.istore 4, 2) := by decide +kernel
theorem dX2_utilityOf_5 : decode cX2_utilityOf 5 = .ok (.iload 4, 2) := by decide +kernel
theorem dX2_utilityOf_7 : decode cX2_utilityOf 7 = .ok (.bipush 8, 2) := by decide +kernel
theorem dX2_utilityOf_9 : decode cX2_utilityOf 9 = .ok (.if_icmp .ge 30, 3) := by decide +kernel
theorem dX2_utilityOf_12 : decode cX2_utilityOf 12 = .ok (.iload 4, 2) := by decide +kernel
theorem dX2_utilityOf_14 : decode cX2_utilityOf 14 = .ok (.iload_n 2, 1) := by decide +kernel
theorem dX2_utilityOf_15 : decode cX2_utilityOf 15 = .ok (.if_icmp .ge 24, 3) := by decide +kernel
theorem dX2_utilityOf_18 : decode cX2_utilityOf 18 = .ok (.iload_n 3, 1) := by decide +kernel
theorem dX2_utilityOf_19 : decode cX2_utilityOf 19 = .ok (.aload_n 0, 1) := by decide +kernel
theorem dX2_utilityOf_20 : decode cX2_utilityOf 20 = .ok (.getfield 15, 3) := by decide +kernel
theorem dX2_utilityOf_23 : decode cX2_utilityOf 23 = .ok (.iload_n 1, 1) := by decide +kernel
theorem dX2_utilityOf_24 : decode cX2_utilityOf 24 = .ok (.bipush 8, 2) := by decide +kernel
theorem dX2_utilityOf_26 : decode cX2_utilityOf 26 = .ok (.imul, 1) := by decide +kernel
theorem dX2_utilityOf_27 : decode cX2_utilityOf 27 = .ok (.iload 4, 2) := by decide +kernel
theorem dX2_utilityOf_29 : decode cX2_utilityOf 29 = .ok (.iadd, 1) := by decide +kernel
theorem dX2_utilityOf_30 : decode cX2_utilityOf 30 = .ok (.iaload, 1) := by decide +kernel
theorem dX2_utilityOf_31 : decode cX2_utilityOf 31 = .ok (.iadd, 1) := by decide +kernel
theorem dX2_utilityOf_32 : decode cX2_utilityOf 32 = .ok (.istore_n 3, 1) := by decide +kernel
theorem dX2_utilityOf_33 : decode cX2_utilityOf 33 = .ok (.iinc 4 1, 3) := by decide +kernel
theorem dX2_utilityOf_36 : decode cX2_utilityOf 36 = .ok (.goto (-31), 3) := by decide +kernel
theorem dX2_utilityOf_39 : decode cX2_utilityOf 39 = .ok (.iload_n 3, 1) := by decide +kernel
theorem dX2_utilityOf_40 : decode cX2_utilityOf 40 = .ok (.ireturn, 1) := by decide +kernel
theorem dX2_sumOfGains_0 : decode cX2_sumOfGains 0 = .ok (.iconst 0, 1) := by decide +kernel
theorem dX2_sumOfGains_1 : decode cX2_sumOfGains 1 = .ok (.istore_n 1, 1) := by decide +kernel
theorem dX2_sumOfGains_2 : decode cX2_sumOfGains 2 = .ok (.iconst 0, 1) := by decide +kernel
theorem dX2_sumOfGains_3 : decode cX2_sumOfGains 3 = .ok (.istore_n 2, 1) := by decide +kernel
theorem dX2_sumOfGains_4 : decode cX2_sumOfGains 4 = .ok (.iload_n 2, 1) := by decide +kernel
theorem dX2_sumOfGains_5 : decode cX2_sumOfGains 5 = .ok (.aload_n 0, 1) := by decide +kernel
theorem dX2_sumOfGains_6 : decode cX2_sumOfGains 6 = .ok (.getfield 15, 3) := by decide +kernel
theorem dX2_sumOfGains_9 : decode cX2_sumOfGains 9 = .ok (.arraylength, 1) := by decide +kernel
theorem dX2_sumOfGains_10 : decode cX2_sumOfGains 10 = .ok (.if_icmp .ge 18, 3) := by decide +kernel
theorem dX2_sumOfGains_13 : decode cX2_sumOfGains 13 = .ok (.iload_n 1, 1) := by decide +kernel
theorem dX2_sumOfGains_14 : decode cX2_sumOfGains 14 = .ok (.aload_n 0, 1) := by decide +kernel
theorem dX2_sumOfGains_15 : decode cX2_sumOfGains 15 = .ok (.getfield 15, 3) := by decide +kernel
theorem dX2_sumOfGains_18 : decode cX2_sumOfGains 18 = .ok (.iload_n 2, 1) := by decide +kernel
theorem dX2_sumOfGains_19 : decode cX2_sumOfGains 19 = .ok (.iaload, 1) := by decide +kernel
theorem dX2_sumOfGains_20 : decode cX2_sumOfGains 20 = .ok (.iadd, 1) := by decide +kernel
theorem dX2_sumOfGains_21 : decode cX2_sumOfGains 21 = .ok (.istore_n 1, 1) := by decide +kernel
theorem dX2_sumOfGains_22 : decode cX2_sumOfGains 22 = .ok (.iinc 2 1, 3) := by decide +kernel
theorem dX2_sumOfGains_25 : decode cX2_sumOfGains 25 = .ok (.goto (-21), 3) := by decide +kernel
theorem dX2_sumOfGains_28 : decode cX2_sumOfGains 28 = .ok (.iload_n 1, 1) := by decide +kernel
theorem dX2_sumOfGains_29 : decode cX2_sumOfGains 29 = .ok (.ireturn, 1) := by decide +kernel
theorem dX2_halve_0 : decode cX2_halve 0 = .ok (.iconst 0, 1) := by decide +kernel
theorem dX2_halve_1 : decode cX2_halve 1 = .ok (.istore_n 1, 1) := by decide +kernel
theorem dX2_halve_2 : decode cX2_halve 2 = .ok (.iload_n 1, 1) := by decide +kernel
theorem dX2_halve_3 : decode cX2_halve 3 = .ok (.aload_n 0, 1) := by decide +kernel
theorem dX2_halve_4 : decode cX2_halve 4 = .ok (.getfield 15, 3) := by decide +kernel
theorem dX2_halve_7 : decode cX2_halve 7 = .ok (.arraylength, 1) := by decide +kernel
theorem dX2_halve_8 : decode cX2_halve 8 = .ok (.if_icmp .ge 19, 3) := by decide +kernel
theorem dX2_halve_11 : decode cX2_halve 11 = .ok (.aload_n 0, 1) := by decide +kernel
theorem dX2_halve_12 : decode cX2_halve 12 = .ok (.getfield 15, 3) := by decide +kernel
theorem dX2_halve_15 : decode cX2_halve 15 = .ok (.iload_n 1, 1) := by decide +kernel
theorem dX2_halve_16 : decode cX2_halve 16 = .ok (.dup2, 1) := by decide +kernel
theorem dX2_halve_17 : decode cX2_halve 17 = .ok (.iaload, 1) := by decide +kernel
theorem dX2_halve_18 : decode cX2_halve 18 = .ok (.iconst 2, 1) := by decide +kernel
theorem dX2_halve_19 : decode cX2_halve 19 = .ok (.idiv, 1) := by decide +kernel
theorem dX2_halve_20 : decode cX2_halve 20 = .ok (.iastore, 1) := by decide +kernel
theorem dX2_halve_21 : decode cX2_halve 21 = .ok (.iinc 1 1, 3) := by decide +kernel
theorem dX2_halve_24 : decode cX2_halve 24 = .ok (.goto (-22), 3) := by decide +kernel
theorem dX2_halve_27 : decode cX2_halve 27 = .ok (.return_, 1) := by decide +kernel
theorem dX3_init_0 : decode cX3_init 0 = .ok (.aload_n 0, 1) := by decide +kernel
theorem dX3_init_1 : decode cX3_init 1 = .ok (.invokespecial 3, 3) := by decide +kernel
theorem dX3_init_4 : decode cX3_init 4 = .ok (.aload_n 0, 1) := by decide +kernel
theorem dX3_init_5 : decode cX3_init 5 = .ok (.bipush 8, 2) := by decide +kernel
theorem dX3_init_7 : decode cX3_init 7 = .ok (.newarray .int, 2) := by decide +kernel
theorem dX3_init_9 : decode cX3_init 9 = .ok (.putfield 9, 3) := by decide +kernel
theorem dX3_init_12 : decode cX3_init 12 = .ok (.aload_n 0, 1) := by decide +kernel
theorem dX3_init_13 : decode cX3_init 13 = .ok (.bipush 32, 2) := by decide +kernel
theorem dX3_init_15 : decode cX3_init 15 = .ok (.newarray .int, 2) := by decide +kernel
theorem dX3_init_17 : decode cX3_init 17 = .ok (.putfield 15, 3) := by decide +kernel
theorem dX3_init_20 : decode cX3_init 20 = .ok (.aload_n 0, 1) := by decide +kernel
theorem dX3_init_21 : decode cX3_init 21 = .ok (.bipush 32, 2) := by decide +kernel
theorem dX3_init_23 : decode cX3_init 23 = .ok (.newarray .int, 2) := by decide +kernel
theorem dX3_init_25 : decode cX3_init 25 = .ok (.putfield 18, 3) := by decide +kernel
theorem dX3_init_28 : decode cX3_init 28 = .ok (.iconst 0, 1) := by decide +kernel
theorem dX3_init_29 : decode cX3_init 29 = .ok (.istore_n 1, 1) := by decide +kernel
theorem dX3_init_30 : decode cX3_init 30 = .ok (.iload_n 1, 1) := by decide +kernel
theorem dX3_init_31 : decode cX3_init 31 = .ok (.bipush 8, 2) := by decide +kernel
theorem dX3_init_33 : decode cX3_init 33 = .ok (.if_icmp .ge 18, 3) := by decide +kernel
theorem dX3_init_36 : decode cX3_init 36 = .ok (.aload_n 0, 1) := by decide +kernel
theorem dX3_init_37 : decode cX3_init 37 = .ok (.getfield 9, 3) := by decide +kernel
theorem dX3_init_40 : decode cX3_init 40 = .ok (.iload_n 1, 1) := by decide +kernel
theorem dX3_init_41 : decode cX3_init 41 = .ok (.iload_n 1, 1) := by decide +kernel
theorem dX3_init_42 : decode cX3_init 42 = .ok (.iconst 4, 1) := by decide +kernel
theorem dX3_init_43 : decode cX3_init 43 = .ok (.irem, 1) := by decide +kernel
theorem dX3_init_44 : decode cX3_init 44 = .ok (.iastore, 1) := by decide +kernel
theorem dX3_init_45 : decode cX3_init 45 = .ok (.iinc 1 1, 3) := by decide +kernel
theorem dX3_init_48 : decode cX3_init 48 = .ok (.goto (-18), 3) := by decide +kernel
theorem dX3_init_51 : decode cX3_init 51 = .ok (.iconst 0, 1) := by decide +kernel
theorem dX3_init_52 : decode cX3_init 52 = .ok (.istore_n 1, 1) := by decide +kernel
theorem dX3_init_53 : decode cX3_init 53 = .ok (.iload_n 1, 1) := by decide +kernel
theorem dX3_init_54 : decode cX3_init 54 = .ok (.bipush 32, 2) := by decide +kernel
theorem dX3_init_56 : decode cX3_init 56 = .ok (.if_icmp .ge 16, 3) := by decide +kernel
theorem dX3_init_59 : decode cX3_init 59 = .ok (.aload_n 0, 1) := by decide +kernel
theorem dX3_init_60 : decode cX3_init 60 = .ok (.getfield 15, 3) := by decide +kernel
theorem dX3_init_63 : decode cX3_init 63 = .ok (.iload_n 1, 1) := by decide +kernel
theorem dX3_init_64 : decode cX3_init 64 = .ok (.iconst (-1), 1) := by decide +kernel
theorem dX3_init_65 : decode cX3_init 65 = .ok (.iastore, 1) := by decide +kernel
theorem dX3_init_66 : decode cX3_init 66 = .ok (.iinc 1 1, 3) := by decide +kernel
theorem dX3_init_69 : decode cX3_init 69 = .ok (.goto (-16), 3) := by decide +kernel
theorem dX3_init_72 : decode cX3_init 72 = .ok (.return_, 1) := by decide +kernel
theorem dX3_copyFrom_0 : decode cX3_copyFrom 0 = .ok (.aload_n 1, 1) := by decide +kernel
theorem dX3_copyFrom_1 : decode cX3_copyFrom 1 = .ok (.getfield 9, 3) := by decide +kernel
theorem dX3_copyFrom_4 : decode cX3_copyFrom 4 = .ok (.iconst 0, 1) := by decide +kernel
theorem dX3_copyFrom_5 : decode cX3_copyFrom 5 = .ok (.aload_n 0, 1) := by decide +kernel
theorem dX3_copyFrom_6 : decode cX3_copyFrom 6 = .ok (.getfield 9, 3) := by decide +kernel
theorem dX3_copyFrom_9 : decode cX3_copyFrom 9 = .ok (.iconst 0, 1) := by decide +kernel
theorem dX3_copyFrom_10 : decode cX3_copyFrom 10 = .ok (.bipush 8, 2) := by decide +kernel
theorem dX3_copyFrom_12 : decode cX3_copyFrom 12 = .ok (.invokestatic 21, 3) := by decide +kernel
theorem dX3_copyFrom_15 : decode cX3_copyFrom 15 = .ok (.aload_n 1, 1) := by decide +kernel
theorem dX3_copyFrom_16 : decode cX3_copyFrom 16 = .ok (.getfield 15, 3) := by decide +kernel
theorem dX3_copyFrom_19 : decode cX3_copyFrom 19 = .ok (.iconst 0, 1) := by decide +kernel
theorem dX3_copyFrom_20 : decode cX3_copyFrom 20 = .ok (.aload_n 0, 1) := by decide +kernel
theorem dX3_copyFrom_21 : decode cX3_copyFrom 21 = .ok (.getfield 15, 3) := by decide +kernel
theorem dX3_copyFrom_24 : decode cX3_copyFrom 24 = .ok (.iconst 0, 1) := by decide +kernel
theorem dX3_copyFrom_25 : decode cX3_copyFrom 25 = .ok (.bipush 32, 2) := by decide +kernel
theorem dX3_copyFrom_27 : decode cX3_copyFrom 27 = .ok (.invokestatic 21, 3) := by decide +kernel
theorem dX3_copyFrom_30 : decode cX3_copyFrom 30 = .ok (.aload_n 1, 1) := by decide +kernel
theorem dX3_copyFrom_31 : decode cX3_copyFrom 31 = .ok (.getfield 18, 3) := by decide +kernel
theorem dX3_copyFrom_34 : decode cX3_copyFrom 34 = .ok (.iconst 0, 1) := by decide +kernel
theorem dX3_copyFrom_35 : decode cX3_copyFrom 35 = .ok (.aload_n 0, 1) := by decide +kernel
theorem dX3_copyFrom_36 : decode cX3_copyFrom 36 = .ok (.getfield 18, 3) := by decide +kernel
theorem dX3_copyFrom_39 : decode cX3_copyFrom 39 = .ok (.iconst 0, 1) := by decide +kernel
theorem dX3_copyFrom_40 : decode cX3_copyFrom 40 = .ok (.bipush 32, 2) := by decide +kernel
theorem dX3_copyFrom_42 : decode cX3_copyFrom 42 = .ok (.invokestatic 21, 3) := by decide +kernel
theorem dX3_copyFrom_45 : decode cX3_copyFrom 45 = .ok (.return_, 1) := by decide +kernel
theorem dX3_ownedWays_0 : decode cX3_ownedWays 0 = .ok (.iconst 0, 1) := by decide +kernel
theorem dX3_ownedWays_1 : decode cX3_ownedWays 1 = .ok (.istore_n 2, 1) := by decide +kernel
theorem dX3_ownedWays_2 : decode cX3_ownedWays 2 = .ok (.iconst 0, 1) := by decide +kernel
theorem dX3_ownedWays_3 : decode cX3_ownedWays 3 = .ok (.istore_n 3, 1) := by decide +kernel
theorem dX3_ownedWays_4 : decode cX3_ownedWays 4 = .ok (.iload_n 3, 1) := by decide +kernel
theorem dX3_ownedWays_5 : decode cX3_ownedWays 5 = .ok (.bipush 8, 2) := by decide +kernel
theorem dX3_ownedWays_7 : decode cX3_ownedWays 7 = .ok (.if_icmp .ge 22, 3) := by decide +kernel
theorem dX3_ownedWays_10 : decode cX3_ownedWays 10 = .ok (.aload_n 0, 1) := by decide +kernel
theorem dX3_ownedWays_11 : decode cX3_ownedWays 11 = .ok (.getfield 9, 3) := by decide +kernel
theorem dX3_ownedWays_14 : decode cX3_ownedWays 14 = .ok (.iload_n 3, 1) := by decide +kernel
theorem dX3_ownedWays_15 : decode cX3_ownedWays 15 = .ok (.iaload, 1) := by decide +kernel
theorem dX3_ownedWays_16 : decode cX3_ownedWays 16 = .ok (.iload_n 1, 1) := by decide +kernel
theorem dX3_ownedWays_17 : decode cX3_ownedWays 17 = .ok (.if_icmp .ne 6, 3) := by decide +kernel
theorem dX3_ownedWays_20 : decode cX3_ownedWays 20 = .ok (.iinc 2 1, 3) := by decide +kernel
theorem dX3_ownedWays_23 : decode cX3_ownedWays 23 = .ok (.iinc 3 1, 3) := by decide +kernel
theorem dX3_ownedWays_26 : decode cX3_ownedWays 26 = .ok (.goto (-22), 3) := by decide +kernel
theorem dX3_ownedWays_29 : decode cX3_ownedWays 29 = .ok (.iload_n 2, 1) := by decide +kernel
theorem dX3_ownedWays_30 : decode cX3_ownedWays 30 = .ok (.ireturn, 1) := by decide +kernel
theorem dX3_resultOf_0 : decode cX3_resultOf 0 = .ok (.aload_n 0, 1) := by decide +kernel
theorem dX3_resultOf_1 : decode cX3_resultOf 1 = .ok (.iload_n 1, 1) := by decide +kernel
theorem dX3_resultOf_2 : decode cX3_resultOf 2 = .ok (.iload_n 2, 1) := by decide +kernel
theorem dX3_resultOf_3 : decode cX3_resultOf 3 = .ok (.invokevirtual 27, 3) := by decide +kernel
theorem dX3_resultOf_6 : decode cX3_resultOf 6 = .ok (.iconst (-1), 1) := by decide +kernel
theorem dX3_resultOf_7 : decode cX3_resultOf 7 = .ok (.if_icmp .eq 5, 3) := by decide +kernel
theorem dX3_resultOf_10 : decode cX3_resultOf 10 = .ok (.iconst 1, 1) := by decide +kernel
theorem dX3_resultOf_11 : decode cX3_resultOf 11 = .ok (.ireturn, 1) := by decide +kernel
theorem dX3_resultOf_12 : decode cX3_resultOf 12 = .ok (.aload_n 0, 1) := by decide +kernel
theorem dX3_resultOf_13 : decode cX3_resultOf 13 = .ok (.iload_n 1, 1) := by decide +kernel
theorem dX3_resultOf_14 : decode cX3_resultOf 14 = .ok (.invokevirtual 31, 3) := by decide +kernel
theorem dX3_resultOf_17 : decode cX3_resultOf 17 = .ok (.ifCond .ne 7, 3) := by decide +kernel
theorem dX3_resultOf_20 : decode cX3_resultOf 20 = .ok (.iconst 2, 1) := by decide +kernel
theorem dX3_resultOf_21 : decode cX3_resultOf 21 = .ok (.goto 4, 3) := by decide +kernel
theorem dX3_resultOf_24 : decode cX3_resultOf 24 = .ok (.iconst 0, 1) := by decide +kernel
theorem dX3_resultOf_25 : decode cX3_resultOf 25 = .ok (.ireturn, 1) := by decide +kernel
theorem dX3_placeOf_0 : decode cX3_placeOf 0 = .ok (.iload_n 2, 1) := by decide +kernel
theorem dX3_placeOf_1 : decode cX3_placeOf 1 = .ok (.iconst 4, 1) := by decide +kernel
theorem dX3_placeOf_2 : decode cX3_placeOf 2 = .ok (.irem, 1) := by decide +kernel
theorem dX3_placeOf_3 : decode cX3_placeOf 3 = .ok (.bipush 8, 2) := by decide +kernel
theorem dX3_placeOf_5 : decode cX3_placeOf 5 = .ok (.imul, 1) := by decide +kernel
theorem dX3_placeOf_6 : decode cX3_placeOf 6 = .ok (.istore_n 3, 1) := by decide +kernel
theorem dX3_placeOf_7 : decode cX3_placeOf 7 = .ok (.iconst 0, 1) := by decide +kernel
theorem dX3_placeOf_8 : decode cX3_placeOf 8 = .ok (.istore 4, 2) := by decide +kernel
theorem dX3_placeOf_10 : decode cX3_placeOf 10 = .ok (.iload 4, 2) := by decide +kernel
theorem dX3_placeOf_12 : decode cX3_placeOf 12 = .ok (.bipush 8, 2) := by decide +kernel
theorem dX3_placeOf_14 : decode cX3_placeOf 14 = .ok (.if_icmp .ge 33, 3) := by decide +kernel
theorem dX3_placeOf_17 : decode cX3_placeOf 17 = .ok (.aload_n 0, 1) := by decide +kernel
theorem dX3_placeOf_18 : decode cX3_placeOf 18 = .ok (.getfield 15, 3) := by decide +kernel
theorem dX3_placeOf_21 : decode cX3_placeOf 21 = .ok (.iload_n 3, 1) := by decide +kernel
theorem dX3_placeOf_22 : decode cX3_placeOf 22 = .ok (.iload 4, 2) := by decide +kernel
theorem dX3_placeOf_24 : decode cX3_placeOf 24 = .ok (.iadd, 1) := by decide +kernel
theorem dX3_placeOf_25 : decode cX3_placeOf 25 = .ok (.iaload, 1) := by decide +kernel
theorem dX3_placeOf_26 : decode cX3_placeOf 26 = .ok (.iload_n 1, 1) := by decide +kernel
theorem dX3_placeOf_27 : decode cX3_placeOf 27 = .ok (.sipush 256, 3) := by decide +kernel
theorem dX3_placeOf_30 : decode cX3_placeOf 30 = .ok (.imul, 1) := by decide +kernel
theorem dX3_placeOf_31 : decode cX3_placeOf 31 = .ok (.iload_n 2, 1) := by decide +kernel
theorem dX3_placeOf_32 : decode cX3_placeOf 32 = .ok (.iadd, 1) := by decide +kernel
theorem dX3_placeOf_33 : decode cX3_placeOf 33 = .ok (.if_icmp .ne 8, 3) := by decide +kernel
theorem dX3_placeOf_36 : decode cX3_placeOf 36 = .ok (.iload_n 3, 1) := by decide +kernel
theorem dX3_placeOf_37 : decode cX3_placeOf 37 = .ok (.iload 4, 2) := by decide +kernel
theorem dX3_placeOf_39 : decode cX3_placeOf 39 = .ok (.iadd, 1) := by decide +kernel
theorem dX3_placeOf_40 : decode cX3_placeOf 40 = .ok (.ireturn, 1) := by decide +kernel
theorem dX3_placeOf_41 : decode cX3_placeOf 41 = .ok (.iinc 4 1, 3) := by decide +kernel
theorem dX3_placeOf_44 : decode cX3_placeOf 44 = .ok (.goto (-34), 3) := by decide +kernel
theorem dX3_placeOf_47 : decode cX3_placeOf 47 = .ok (.iconst (-1), 1) := by decide +kernel
theorem dX3_placeOf_48 : decode cX3_placeOf 48 = .ok (.ireturn, 1) := by decide +kernel
theorem dX3_renew_0 : decode cX3_renew 0 = .ok (.aload_n 0, 1) := by decide +kernel
theorem dX3_renew_1 : decode cX3_renew 1 = .ok (.iload_n 1, 1) := by decide +kernel
theorem dX3_renew_2 : decode cX3_renew 2 = .ok (.iload_n 2, 1) := by decide +kernel
theorem dX3_renew_3 : decode cX3_renew 3 = .ok (.invokevirtual 27, 3) := by decide +kernel
theorem dX3_renew_6 : decode cX3_renew 6 = .ok (.istore 4, 2) := by decide +kernel
theorem dX3_renew_8 : decode cX3_renew 8 = .ok (.iload 4, 2) := by decide +kernel
theorem dX3_renew_10 : decode cX3_renew 10 = .ok (.iconst (-1), 1) := by decide +kernel
theorem dX3_renew_11 : decode cX3_renew 11 = .ok (.if_icmp .eq 11, 3) := by decide +kernel
theorem dX3_renew_14 : decode cX3_renew 14 = .ok (.aload_n 0, 1) := by decide +kernel
theorem dX3_renew_15 : decode cX3_renew 15 = .ok (.getfield 18, 3) := by decide +kernel
theorem dX3_renew_18 : decode cX3_renew 18 = .ok (.iload 4, 2) := by decide +kernel
theorem dX3_renew_20 : decode cX3_renew 20 = .ok (.iload_n 3, 1) := by decide +kernel
theorem dX3_renew_21 : decode cX3_renew 21 = .ok (.iastore, 1) := by decide +kernel
theorem dX3_renew_22 : decode cX3_renew 22 = .ok (.return_, 1) := by decide +kernel
theorem dX3_placeToFill_0 : decode cX3_placeToFill 0 = .ok (.iload_n 2, 1) := by decide +kernel
theorem dX3_placeToFill_1 : decode cX3_placeToFill 1 = .ok (.iconst 4, 1) := by decide +kernel
theorem dX3_placeToFill_2 : decode cX3_placeToFill 2 = .ok (.irem, 1) := by decide +kernel
theorem dX3_placeToFill_3 : decode cX3_placeToFill 3 = .ok (.bipush 8, 2) := by decide +kernel
theorem dX3_placeToFill_5 : decode cX3_placeToFill 5 = .ok (.imul, 1) := by decide +kernel
theorem dX3_placeToFill_6 : decode cX3_placeToFill 6 = .ok (.istore_n 3, 1) := by decide +kernel
theorem dX3_placeToFill_7 : decode cX3_placeToFill 7 = .ok (.iconst (-1), 1) := by decide +kernel
theorem dX3_placeToFill_8 : decode cX3_placeToFill 8 = .ok (.istore 4, 2) := by decide +kernel
theorem dX3_placeToFill_10 : decode cX3_placeToFill 10 = .ok (.iconst 0, 1) := by decide +kernel
theorem dX3_placeToFill_11 : decode cX3_placeToFill 11 = .ok (.istore 5, 2) := by decide +kernel
theorem dX3_placeToFill_13 : decode cX3_placeToFill 13 = .ok (.iload 5, 2) := by decide +kernel
theorem dX3_placeToFill_15 : decode cX3_placeToFill 15 = .ok (.bipush 8, 2) := by decide +kernel
theorem dX3_placeToFill_17 : decode cX3_placeToFill 17 = .ok (.if_icmp .ge 70, 3) := by decide +kernel
theorem dX3_placeToFill_20 : decode cX3_placeToFill 20 = .ok (.iload_n 3, 1) := by decide +kernel
theorem dX3_placeToFill_21 : decode cX3_placeToFill 21 = .ok (.iload 5, 2) := by decide +kernel
theorem dX3_placeToFill_23 : decode cX3_placeToFill 23 = .ok (.iadd, 1) := by decide +kernel
theorem dX3_placeToFill_24 : decode cX3_placeToFill 24 = .ok (.istore 6, 2) := by decide +kernel
theorem dX3_placeToFill_26 : decode cX3_placeToFill 26 = .ok (.aload_n 0, 1) := by decide +kernel
theorem dX3_placeToFill_27 : decode cX3_placeToFill 27 = .ok (.getfield 9, 3) := by decide +kernel
theorem dX3_placeToFill_30 : decode cX3_placeToFill 30 = .ok (.iload 5, 2) := by decide +kernel
theorem dX3_placeToFill_32 : decode cX3_placeToFill 32 = .ok (.iaload, 1) := by decide +kernel
theorem dX3_placeToFill_33 : decode cX3_placeToFill 33 = .ok (.iload_n 1, 1) := by decide +kernel
theorem dX3_placeToFill_34 : decode cX3_placeToFill 34 = .ok (.if_icmp .eq 6, 3) := by decide +kernel
theorem dX3_placeToFill_37 : decode cX3_placeToFill 37 = .ok (.goto 44, 3) := by decide +kernel
theorem dX3_placeToFill_40 : decode cX3_placeToFill 40 = .ok (.aload_n 0, 1) := by decide +kernel
theorem dX3_placeToFill_41 : decode cX3_placeToFill 41 = .ok (.getfield 15, 3) := by decide +kernel
theorem dX3_placeToFill_44 : decode cX3_placeToFill 44 = .ok (.iload 6, 2) := by decide +kernel
theorem dX3_placeToFill_46 : decode cX3_placeToFill 46 = .ok (.iaload, 1) := by decide +kernel
theorem dX3_placeToFill_47 : decode cX3_placeToFill 47 = .ok (.iconst (-1), 1) := by decide +kernel
theorem dX3_placeToFill_48 : decode cX3_placeToFill 48 = .ok (.if_icmp .ne 6, 3) := by decide +kernel
theorem dX3_placeToFill_51 : decode cX3_placeToFill 51 = .ok (.iload 6, 2) := by decide +kernel
theorem dX3_placeToFill_53 : decode cX3_placeToFill 53 = .ok (.ireturn, 1) := by decide +kernel
theorem dX3_placeToFill_54 : decode cX3_placeToFill 54 = .ok (.iload 4, 2) := by decide +kernel
theorem dX3_placeToFill_56 : decode cX3_placeToFill 56 = .ok (.iconst (-1), 1) := by decide +kernel
theorem dX3_placeToFill_57 : decode cX3_placeToFill 57 = .ok (.if_icmp .eq 20, 3) := by decide +kernel
theorem dX3_placeToFill_60 : decode cX3_placeToFill 60 = .ok (.aload_n 0, 1) := by decide +kernel
theorem dX3_placeToFill_61 : decode cX3_placeToFill 61 = .ok (.getfield 18, 3) := by decide +kernel
theorem dX3_placeToFill_64 : decode cX3_placeToFill 64 = .ok (.iload 6, 2) := by decide +kernel
theorem dX3_placeToFill_66 : decode cX3_placeToFill 66 = .ok (.iaload, 1) := by decide +kernel
theorem dX3_placeToFill_67 : decode cX3_placeToFill 67 = .ok (.aload_n 0, 1) := by decide +kernel
theorem dX3_placeToFill_68 : decode cX3_placeToFill 68 = .ok (.getfield 18, 3) := by decide +kernel
theorem dX3_placeToFill_71 : decode cX3_placeToFill 71 = .ok (.iload 4, 2) := by decide +kernel
theorem dX3_placeToFill_73 : decode cX3_placeToFill 73 = .ok (.iaload, 1) := by decide +kernel
theorem dX3_placeToFill_74 : decode cX3_placeToFill 74 = .ok (.if_icmp .ge 7, 3) := by decide +kernel
theorem dX3_placeToFill_77 : decode cX3_placeToFill 77 = .ok (.iload 6, 2) := by decide +kernel
theorem dX3_placeToFill_79 : decode cX3_placeToFill 79 = .ok (.istore 4, 2) := by decide +kernel
theorem dX3_placeToFill_81 : decode cX3_placeToFill 81 = .ok (.iinc 5 1, 3) := by decide +kernel
theorem dX3_placeToFill_84 : decode cX3_placeToFill 84 = .ok (.goto (-71), 3) := by decide +kernel
theorem dX3_placeToFill_87 : decode cX3_placeToFill 87 = .ok (.iload 4, 2) := by decide +kernel
theorem dX3_placeToFill_89 : decode cX3_placeToFill 89 = .ok (.ireturn, 1) := by decide +kernel
theorem dX3_holdsLineOf_0 : decode cX3_holdsLineOf 0 = .ok (.aload_n 0, 1) := by decide +kernel
theorem dX3_holdsLineOf_1 : decode cX3_holdsLineOf 1 = .ok (.getfield 15, 3) := by decide +kernel
theorem dX3_holdsLineOf_4 : decode cX3_holdsLineOf 4 = .ok (.iload_n 2, 1) := by decide +kernel
theorem dX3_holdsLineOf_5 : decode cX3_holdsLineOf 5 = .ok (.iaload, 1) := by decide +kernel
theorem dX3_holdsLineOf_6 : decode cX3_holdsLineOf 6 = .ok (.iconst (-1), 1) := by decide +kernel
theorem dX3_holdsLineOf_7 : decode cX3_holdsLineOf 7 = .ok (.if_icmp .eq 21, 3) := by decide +kernel
theorem dX3_holdsLineOf_10 : decode cX3_holdsLineOf 10 = .ok (.aload_n 0, 1) := by decide +kernel
theorem dX3_holdsLineOf_11 : decode cX3_holdsLineOf 11 = .ok (.getfield 15, 3) := by decide +kernel
theorem dX3_holdsLineOf_14 : decode cX3_holdsLineOf 14 = .ok (.iload_n 2, 1) := by decide +kernel
theorem dX3_holdsLineOf_15 : decode cX3_holdsLineOf 15 = .ok (.iaload, 1) := by decide +kernel
theorem dX3_holdsLineOf_16 : decode cX3_holdsLineOf 16 = .ok (.sipush 256, 3) := by decide +kernel
theorem dX3_holdsLineOf_19 : decode cX3_holdsLineOf 19 = .ok (.idiv, 1) := by decide +kernel
theorem dX3_holdsLineOf_20 : decode cX3_holdsLineOf 20 = .ok (.iload_n 1, 1) := by decide +kernel
theorem dX3_holdsLineOf_21 : decode cX3_holdsLineOf 21 = .ok (.if_icmp .ne 7, 3) := by decide +kernel
theorem dX3_holdsLineOf_24 : decode cX3_holdsLineOf 24 = .ok (.iconst 1, 1) := by decide +kernel
theorem dX3_holdsLineOf_25 : decode cX3_holdsLineOf 25 = .ok (.goto 4, 3) := by decide +kernel
theorem dX3_holdsLineOf_28 : decode cX3_holdsLineOf 28 = .ok (.iconst 0, 1) := by decide +kernel
theorem dX3_holdsLineOf_29 : decode cX3_holdsLineOf 29 = .ok (.ireturn, 1) := by decide +kernel
theorem dX3_linesInWay_0 : decode cX3_linesInWay 0 = .ok (.iconst 0, 1) := by decide +kernel
theorem dX3_linesInWay_1 : decode cX3_linesInWay 1 = .ok (.istore_n 3, 1) := by decide +kernel
theorem dX3_linesInWay_2 : decode cX3_linesInWay 2 = .ok (.iconst 0, 1) := by decide +kernel
theorem dX3_linesInWay_3 : decode cX3_linesInWay 3 = .ok (.istore 4, 2) := by decide +kernel
theorem dX3_linesInWay_5 : decode cX3_linesInWay 5 = .ok (.iload 4, 2) := by decide +kernel
theorem dX3_linesInWay_7 : decode cX3_linesInWay 7 = .ok (.iconst 4, 1) := by decide +kernel
theorem dX3_linesInWay_8 : decode cX3_linesInWay 8 = .ok (.if_icmp .ge 27, 3) := by decide +kernel
theorem dX3_linesInWay_11 : decode cX3_linesInWay 11 = .ok (.aload_n 0, 1) := by decide +kernel
theorem dX3_linesInWay_12 : decode cX3_linesInWay 12 = .ok (.iload_n 1, 1) := by decide +kernel
theorem dX3_linesInWay_13 : decode cX3_linesInWay 13 = .ok (.iload 4, 2) := by decide +kernel
theorem dX3_linesInWay_15 : decode cX3_linesInWay 15 = .ok (.bipush 8, 2) := by decide +kernel
theorem dX3_linesInWay_17 : decode cX3_linesInWay 17 = .ok (.imul, 1) := by decide +kernel
theorem dX3_linesInWay_18 : decode cX3_linesInWay 18 = .ok (.iload_n 2, 1) := by decide +kernel
theorem dX3_linesInWay_19 : decode cX3_linesInWay 19 = .ok (.iadd, 1) := by decide +kernel
theorem dX3_linesInWay_20 : decode cX3_linesInWay 20 = .ok (.invokevirtual 35, 3) := by decide +kernel
theorem dX3_linesInWay_23 : decode cX3_linesInWay 23 = .ok (.ifCond .eq 6, 3) := by decide +kernel
theorem dX3_linesInWay_26 : decode cX3_linesInWay 26 = .ok (.iinc 3 1, 3) := by decide +kernel
theorem dX3_linesInWay_29 : decode cX3_linesInWay 29 = .ok (.iinc 4 1, 3) := by decide +kernel
theorem dX3_linesInWay_32 : decode cX3_linesInWay 32 = .ok (.goto (-27), 3) := by decide +kernel
theorem dX3_linesInWay_35 : decode cX3_linesInWay 35 = .ok (.iload_n 3, 1) := by decide +kernel
theorem dX3_linesInWay_36 : decode cX3_linesInWay 36 = .ok (.ireturn, 1) := by decide +kernel
theorem dX3_linesOf_0 : decode cX3_linesOf 0 = .ok (.iconst 0, 1) := by decide +kernel
theorem dX3_linesOf_1 : decode cX3_linesOf 1 = .ok (.istore_n 2, 1) := by decide +kernel
theorem dX3_linesOf_2 : decode cX3_linesOf 2 = .ok (.iconst 0, 1) := by decide +kernel
theorem dX3_linesOf_3 : decode cX3_linesOf 3 = .ok (.istore_n 3, 1) := by decide +kernel
theorem dX3_linesOf_4 : decode cX3_linesOf 4 = .ok (.iload_n 3, 1) := by decide +kernel
theorem dX3_linesOf_5 : decode cX3_linesOf 5 = .ok (.bipush 8, 2) := by decide +kernel
theorem dX3_linesOf_7 : decode cX3_linesOf 7 = .ok (.if_icmp .ge 18, 3) := by decide +kernel
theorem dX3_linesOf_10 : decode cX3_linesOf 10 = .ok (.iload_n 2, 1) := by decide +kernel
theorem dX3_linesOf_11 : decode cX3_linesOf 11 = .ok (.aload_n 0, 1) := by decide +kernel
theorem dX3_linesOf_12 : decode cX3_linesOf 12 = .ok (.iload_n 1, 1) := by decide +kernel
theorem dX3_linesOf_13 : decode cX3_linesOf 13 = .ok (.iload_n 3, 1) := by decide +kernel
theorem dX3_linesOf_14 : decode cX3_linesOf 14 = .ok (.invokevirtual 39, 3) := by decide +kernel
theorem dX3_linesOf_17 : decode cX3_linesOf 17 = .ok (.iadd, 1) := by decide +kernel
theorem dX3_linesOf_18 : decode cX3_linesOf 18 = .ok (.istore_n 2, 1) := by decide +kernel
theorem dX3_linesOf_19 : decode cX3_linesOf 19 = .ok (.iinc 3 1, 3) := by decide +kernel
theorem dX3_linesOf_22 : decode cX3_linesOf 22 = .ok (.goto (-18), 3) := by decide +kernel
theorem dX3_linesOf_25 : decode cX3_linesOf 25 = .ok (.iload_n 2, 1) := by decide +kernel
theorem dX3_linesOf_26 : decode cX3_linesOf 26 = .ok (.ireturn, 1) := by decide +kernel
theorem dX3_linesInOwnWays_0 : decode cX3_linesInOwnWays 0 = .ok (.iconst 0, 1) := by decide +kernel
theorem dX3_linesInOwnWays_1 : decode cX3_linesInOwnWays 1 = .ok (.istore_n 2, 1) := by decide +kernel
theorem dX3_linesInOwnWays_2 : decode cX3_linesInOwnWays 2 = .ok (.iconst 0, 1) := by decide +kernel
theorem dX3_linesInOwnWays_3 : decode cX3_linesInOwnWays 3 = .ok (.istore_n 3, 1) := by decide +kernel
theorem dX3_linesInOwnWays_4 : decode cX3_linesInOwnWays 4 = .ok (.iload_n 3, 1) := by decide +kernel
theorem dX3_linesInOwnWays_5 : decode cX3_linesInOwnWays 5 = .ok (.bipush 8, 2) := by decide +kernel
theorem dX3_linesInOwnWays_7 : decode cX3_linesInOwnWays 7 = .ok (.if_icmp .ge 28, 3) := by decide +kernel
theorem dX3_linesInOwnWays_10 : decode cX3_linesInOwnWays 10 = .ok (.aload_n 0, 1) := by decide +kernel
theorem dX3_linesInOwnWays_11 : decode cX3_linesInOwnWays 11 = .ok (.getfield 9, 3) := by decide +kernel
theorem dX3_linesInOwnWays_14 : decode cX3_linesInOwnWays 14 = .ok (.iload_n 3, 1) := by decide +kernel
theorem dX3_linesInOwnWays_15 : decode cX3_linesInOwnWays 15 = .ok (.iaload, 1) := by decide +kernel
theorem dX3_linesInOwnWays_16 : decode cX3_linesInOwnWays 16 = .ok (.iload_n 1, 1) := by decide +kernel
theorem dX3_linesInOwnWays_17 : decode cX3_linesInOwnWays 17 = .ok (.if_icmp .ne 12, 3) := by decide +kernel
theorem dX3_linesInOwnWays_20 : decode cX3_linesInOwnWays 20 = .ok (.iload_n 2, 1) := by decide +kernel
theorem dX3_linesInOwnWays_21 : decode cX3_linesInOwnWays 21 = .ok (.aload_n 0, 1) := by decide +kernel
theorem dX3_linesInOwnWays_22 : decode cX3_linesInOwnWays 22 = .ok (.iload_n 1, 1) := by decide +kernel
theorem dX3_linesInOwnWays_23 : decode cX3_linesInOwnWays 23 = .ok (.iload_n 3, 1) := by decide +kernel
theorem dX3_linesInOwnWays_24 : decode cX3_linesInOwnWays 24 = .ok (.invokevirtual 39, 3) := by decide +kernel
theorem dX3_linesInOwnWays_27 : decode cX3_linesInOwnWays 27 = .ok (.iadd, 1) := by decide +kernel
theorem dX3_linesInOwnWays_28 : decode cX3_linesInOwnWays 28 = .ok (.istore_n 2, 1) := by decide +kernel
theorem dX3_linesInOwnWays_29 : decode cX3_linesInOwnWays 29 = .ok (.iinc 3 1, 3) := by decide +kernel
theorem dX3_linesInOwnWays_32 : decode cX3_linesInOwnWays 32 = .ok (.goto (-28), 3) := by decide +kernel
theorem dX3_linesInOwnWays_35 : decode cX3_linesInOwnWays 35 = .ok (.iload_n 2, 1) := by decide +kernel
theorem dX3_linesInOwnWays_36 : decode cX3_linesInOwnWays 36 = .ok (.ireturn, 1) := by decide +kernel
theorem dX3_allLines_0 : decode cX3_allLines 0 = .ok (.iconst 0, 1) := by decide +kernel
theorem dX3_allLines_1 : decode cX3_allLines 1 = .ok (.istore_n 1, 1) := by decide +kernel
theorem dX3_allLines_2 : decode cX3_allLines 2 = .ok (.iconst 0, 1) := by decide +kernel
theorem dX3_allLines_3 : decode cX3_allLines 3 = .ok (.istore_n 2, 1) := by decide +kernel
theorem dX3_allLines_4 : decode cX3_allLines 4 = .ok (.iload_n 2, 1) := by decide +kernel
theorem dX3_allLines_5 : decode cX3_allLines 5 = .ok (.iconst 4, 1) := by decide +kernel
theorem dX3_allLines_6 : decode cX3_allLines 6 = .ok (.if_icmp .ge 17, 3) := by decide +kernel
theorem dX3_allLines_9 : decode cX3_allLines 9 = .ok (.iload_n 1, 1) := by decide +kernel
theorem dX3_allLines_10 : decode cX3_allLines 10 = .ok (.aload_n 0, 1) := by decide +kernel
theorem dX3_allLines_11 : decode cX3_allLines 11 = .ok (.iload_n 2, 1) := by decide +kernel
theorem dX3_allLines_12 : decode cX3_allLines 12 = .ok (.invokevirtual 42, 3) := by decide +kernel
theorem dX3_allLines_15 : decode cX3_allLines 15 = .ok (.iadd, 1) := by decide +kernel
theorem dX3_allLines_16 : decode cX3_allLines 16 = .ok (.istore_n 1, 1) := by decide +kernel
theorem dX3_allLines_17 : decode cX3_allLines 17 = .ok (.iinc 2 1, 3) := by decide +kernel
theorem dX3_allLines_20 : decode cX3_allLines 20 = .ok (.goto (-16), 3) := by decide +kernel
theorem dX3_allLines_23 : decode cX3_allLines 23 = .ok (.iload_n 1, 1) := by decide +kernel
theorem dX3_allLines_24 : decode cX3_allLines 24 = .ok (.ireturn, 1) := by decide +kernel
theorem dX3_removeLinesOf_0 : decode cX3_removeLinesOf 0 = .ok (.iconst 0, 1) := by decide +kernel
theorem dX3_removeLinesOf_1 : decode cX3_removeLinesOf 1 = .ok (.istore_n 2, 1) := by decide +kernel
theorem dX3_removeLinesOf_2 : decode cX3_removeLinesOf 2 = .ok (.iconst 0, 1) := by decide +kernel
theorem dX3_removeLinesOf_3 : decode cX3_removeLinesOf 3 = .ok (.istore_n 3, 1) := by decide +kernel
theorem dX3_removeLinesOf_4 : decode cX3_removeLinesOf 4 = .ok (.iload_n 3, 1) := by decide +kernel
theorem dX3_removeLinesOf_5 : decode cX3_removeLinesOf 5 = .ok (.bipush 32, 2) := by decide +kernel
theorem dX3_removeLinesOf_7 : decode cX3_removeLinesOf 7 = .ok (.if_icmp .ge 28, 3) := by decide +kernel
theorem dX3_removeLinesOf_10 : decode cX3_removeLinesOf 10 = .ok (.aload_n 0, 1) := by decide +kernel
theorem dX3_removeLinesOf_11 : decode cX3_removeLinesOf 11 = .ok (.iload_n 1, 1) := by decide +kernel
theorem dX3_removeLinesOf_12 : decode cX3_removeLinesOf 12 = .ok (.iload_n 3, 1) := by decide +kernel
theorem dX3_removeLinesOf_13 : decode cX3_removeLinesOf 13 = .ok (.invokevirtual 35, 3) := by decide +kernel
theorem dX3_removeLinesOf_16 : decode cX3_removeLinesOf 16 = .ok (.ifCond .eq 13, 3) := by decide +kernel
theorem dX3_removeLinesOf_19 : decode cX3_removeLinesOf 19 = .ok (.aload_n 0, 1) := by decide +kernel
theorem dX3_removeLinesOf_20 : decode cX3_removeLinesOf 20 = .ok (.getfield 15, 3) := by decide +kernel
theorem dX3_removeLinesOf_23 : decode cX3_removeLinesOf 23 = .ok (.iload_n 3, 1) := by decide +kernel
theorem dX3_removeLinesOf_24 : decode cX3_removeLinesOf 24 = .ok (.iconst (-1), 1) := by decide +kernel
theorem dX3_removeLinesOf_25 : decode cX3_removeLinesOf 25 = .ok (.iastore, 1) := by decide +kernel
theorem dX3_removeLinesOf_26 : decode cX3_removeLinesOf 26 = .ok (.iinc 2 1, 3) := by decide +kernel
theorem dX3_removeLinesOf_29 : decode cX3_removeLinesOf 29 = .ok (.iinc 3 1, 3) := by decide +kernel
theorem dX3_removeLinesOf_32 : decode cX3_removeLinesOf 32 = .ok (.goto (-28), 3) := by decide +kernel
theorem dX3_removeLinesOf_35 : decode cX3_removeLinesOf 35 = .ok (.iload_n 2, 1) := by decide +kernel
theorem dX3_removeLinesOf_36 : decode cX3_removeLinesOf 36 = .ok (.ireturn, 1) := by decide +kernel
theorem dX3_wayWithFewestLines_0 : decode cX3_wayWithFewestLines 0 = .ok (.iconst (-1), 1) := by decide +kernel
theorem dX3_wayWithFewestLines_1 : decode cX3_wayWithFewestLines 1 = .ok (.istore_n 2, 1) := by decide +kernel
theorem dX3_wayWithFewestLines_2 : decode cX3_wayWithFewestLines 2 = .ok (.iconst 5, 1) := by decide +kernel
theorem dX3_wayWithFewestLines_3 : decode cX3_wayWithFewestLines 3 = .ok (.istore_n 3, 1) := by decide +kernel
theorem dX3_wayWithFewestLines_4 : decode cX3_wayWithFewestLines 4 = .ok (.iconst 0, 1) := by decide +kernel
theorem dX3_wayWithFewestLines_5 : decode cX3_wayWithFewestLines 5 = .ok (.istore 4, 2) := by decide +kernel
theorem dX3_wayWithFewestLines_7 : decode cX3_wayWithFewestLines 7 = .ok (.iload 4, 2) := by decide +kernel
theorem dX3_wayWithFewestLines_9 : decode cX3_wayWithFewestLines 9 = .ok (.bipush 8, 2) := by decide +kernel
theorem dX3_wayWithFewestLines_11 : decode cX3_wayWithFewestLines 11 = .ok (.if_icmp .ge 42, 3) := by decide +kernel
theorem dX3_wayWithFewestLines_14 : decode cX3_wayWithFewestLines 14 = .ok (.aload_n 0, 1) := by decide +kernel
theorem dX3_wayWithFewestLines_15 : decode cX3_wayWithFewestLines 15 = .ok (.getfield 9, 3) := by decide +kernel
theorem dX3_wayWithFewestLines_18 : decode cX3_wayWithFewestLines 18 = .ok (.iload 4, 2) := by decide +kernel
theorem dX3_wayWithFewestLines_20 : decode cX3_wayWithFewestLines 20 = .ok (.iaload, 1) := by decide +kernel
theorem dX3_wayWithFewestLines_21 : decode cX3_wayWithFewestLines 21 = .ok (.iload_n 1, 1) := by decide +kernel
theorem dX3_wayWithFewestLines_22 : decode cX3_wayWithFewestLines 22 = .ok (.if_icmp .ne 25, 3) := by decide +kernel
theorem dX3_wayWithFewestLines_25 : decode cX3_wayWithFewestLines 25 = .ok (.aload_n 0, 1) := by decide +kernel
theorem dX3_wayWithFewestLines_26 : decode cX3_wayWithFewestLines 26 = .ok (.iload_n 1, 1) := by decide +kernel
theorem dX3_wayWithFewestLines_27 : decode cX3_wayWithFewestLines 27 = .ok (.iload 4, 2) := by decide +kernel
theorem dX3_wayWithFewestLines_29 : decode cX3_wayWithFewestLines 29 = .ok (.invokevirtual 39, 3) := by decide +kernel
theorem dX3_wayWithFewestLines_32 : decode cX3_wayWithFewestLines 32 = .ok (.iload_n 3, 1) := by decide +kernel
theorem dX3_wayWithFewestLines_33 : decode cX3_wayWithFewestLines 33 = .ok (.if_icmp .ge 14, 3) := by decide +kernel
theorem dX3_wayWithFewestLines_36 : decode cX3_wayWithFewestLines 36 = .ok (.iload 4, 2) := by decide +kernel
theorem dX3_wayWithFewestLines_38 : decode cX3_wayWithFewestLines 38 = .ok (.istore_n 2, 1) := by decide +kernel
theorem dX3_wayWithFewestLines_39 : decode cX3_wayWithFewestLines 39 = .ok (.aload_n 0, 1) := by decide +kernel
theorem dX3_wayWithFewestLines_40 : decode cX3_wayWithFewestLines 40 = .ok (.iload_n 1, 1) := by decide +kernel
theorem dX3_wayWithFewestLines_41 : decode cX3_wayWithFewestLines 41 = .ok (.iload 4, 2) := by decide +kernel
theorem dX3_wayWithFewestLines_43 : decode cX3_wayWithFewestLines 43 = .ok (.invokevirtual 39, 3) := by decide +kernel
theorem dX3_wayWithFewestLines_46 : decode cX3_wayWithFewestLines 46 = .ok (.istore_n 3, 1) := by decide +kernel
theorem dX3_wayWithFewestLines_47 : decode cX3_wayWithFewestLines 47 = .ok (.iinc 4 1, 3) := by decide +kernel
theorem dX3_wayWithFewestLines_50 : decode cX3_wayWithFewestLines 50 = .ok (.goto (-43), 3) := by decide +kernel
theorem dX3_wayWithFewestLines_53 : decode cX3_wayWithFewestLines 53 = .ok (.iload_n 2, 1) := by decide +kernel
theorem dX3_wayWithFewestLines_54 : decode cX3_wayWithFewestLines 54 = .ok (.ireturn, 1) := by decide +kernel
theorem dX4_init_0 : decode cX4_init 0 = .ok (.aload_n 0, 1) := by decide +kernel
theorem dX4_init_1 : decode cX4_init 1 = .ok (.invokespecial 3, 3) := by decide +kernel
theorem dX4_init_4 : decode cX4_init 4 = .ok (.aload_n 0, 1) := by decide +kernel
theorem dX4_init_5 : decode cX4_init 5 = .ok (.new 9, 3) := by decide +kernel
theorem dX4_init_8 : decode cX4_init 8 = .ok (.dup, 1) := by decide +kernel
theorem dX4_init_9 : decode cX4_init 9 = .ok (.invokespecial 11, 3) := by decide +kernel
theorem dX4_init_12 : decode cX4_init 12 = .ok (.putfield 12, 3) := by decide +kernel
theorem dX4_init_15 : decode cX4_init 15 = .ok (.aload_n 0, 1) := by decide +kernel
theorem dX4_init_16 : decode cX4_init 16 = .ok (.new 18, 3) := by decide +kernel
theorem dX4_init_19 : decode cX4_init 19 = .ok (.dup, 1) := by decide +kernel
theorem dX4_init_20 : decode cX4_init 20 = .ok (.invokespecial 20, 3) := by decide +kernel
theorem dX4_init_23 : decode cX4_init 23 = .ok (.putfield 21, 3) := by decide +kernel
theorem dX4_init_26 : decode cX4_init 26 = .ok (.aload_n 0, 1) := by decide +kernel
theorem dX4_init_27 : decode cX4_init 27 = .ok (.iconst 4, 1) := by decide +kernel
theorem dX4_init_28 : decode cX4_init 28 = .ok (.newarray .int, 2) := by decide +kernel
theorem dX4_init_30 : decode cX4_init 30 = .ok (.putfield 25, 3) := by decide +kernel
theorem dX4_init_33 : decode cX4_init 33 = .ok (.aload_n 0, 1) := by decide +kernel
theorem dX4_init_34 : decode cX4_init 34 = .ok (.bipush 16, 2) := by decide +kernel
theorem dX4_init_36 : decode cX4_init 36 = .ok (.newarray .int, 2) := by decide +kernel
theorem dX4_init_38 : decode cX4_init 38 = .ok (.putfield 29, 3) := by decide +kernel
theorem dX4_init_41 : decode cX4_init 41 = .ok (.aload_n 0, 1) := by decide +kernel
theorem dX4_init_42 : decode cX4_init 42 = .ok (.iconst 0, 1) := by decide +kernel
theorem dX4_init_43 : decode cX4_init 43 = .ok (.putfield 32, 3) := by decide +kernel
theorem dX4_init_46 : decode cX4_init 46 = .ok (.aload_n 0, 1) := by decide +kernel
theorem dX4_init_47 : decode cX4_init 47 = .ok (.iconst 0, 1) := by decide +kernel
theorem dX4_init_48 : decode cX4_init 48 = .ok (.putfield 36, 3) := by decide +kernel
theorem dX4_init_51 : decode cX4_init 51 = .ok (.iconst 0, 1) := by decide +kernel
theorem dX4_init_52 : decode cX4_init 52 = .ok (.istore_n 1, 1) := by decide +kernel
theorem dX4_init_53 : decode cX4_init 53 = .ok (.iload_n 1, 1) := by decide +kernel
theorem dX4_init_54 : decode cX4_init 54 = .ok (.iconst 4, 1) := by decide +kernel
theorem dX4_init_55 : decode cX4_init 55 = .ok (.if_icmp .ge 16, 3) := by decide +kernel
theorem dX4_init_58 : decode cX4_init 58 = .ok (.aload_n 0, 1) := by decide +kernel
theorem dX4_init_59 : decode cX4_init 59 = .ok (.getfield 25, 3) := by decide +kernel
theorem dX4_init_62 : decode cX4_init 62 = .ok (.iload_n 1, 1) := by decide +kernel
theorem dX4_init_63 : decode cX4_init 63 = .ok (.iconst 1, 1) := by decide +kernel
theorem dX4_init_64 : decode cX4_init 64 = .ok (.iastore, 1) := by decide +kernel
theorem dX4_init_65 : decode cX4_init 65 = .ok (.iinc 1 1, 3) := by decide +kernel
theorem dX4_init_68 : decode cX4_init 68 = .ok (.goto (-15), 3) := by decide +kernel
theorem dX4_init_71 : decode cX4_init 71 = .ok (.return_, 1) := by decide +kernel
theorem dX4_copyFrom_0 : decode cX4_copyFrom 0 = .ok (.aload_n 0, 1) := by decide +kernel
theorem dX4_copyFrom_1 : decode cX4_copyFrom 1 = .ok (.getfield 12, 3) := by decide +kernel
theorem dX4_copyFrom_4 : decode cX4_copyFrom 4 = .ok (.aload_n 1, 1) := by decide +kernel
theorem dX4_copyFrom_5 : decode cX4_copyFrom 5 = .ok (.getfield 12, 3) := by decide +kernel
theorem dX4_copyFrom_8 : decode cX4_copyFrom 8 = .ok (.invokevirtual 39, 3) := by decide +kernel
theorem dX4_copyFrom_11 : decode cX4_copyFrom 11 = .ok (.aload_n 0, 1) := by decide +kernel
theorem dX4_copyFrom_12 : decode cX4_copyFrom 12 = .ok (.getfield 21, 3) := by decide +kernel
theorem dX4_copyFrom_15 : decode cX4_copyFrom 15 = .ok (.aload_n 1, 1) := by decide +kernel
theorem dX4_copyFrom_16 : decode cX4_copyFrom 16 = .ok (.getfield 21, 3) := by decide +kernel
theorem dX4_copyFrom_19 : decode cX4_copyFrom 19 = .ok (.invokevirtual 43, 3) := by decide +kernel
theorem dX4_copyFrom_22 : decode cX4_copyFrom 22 = .ok (.aload_n 1, 1) := by decide +kernel
theorem dX4_copyFrom_23 : decode cX4_copyFrom 23 = .ok (.getfield 25, 3) := by decide +kernel
theorem dX4_copyFrom_26 : decode cX4_copyFrom 26 = .ok (.iconst 0, 1) := by decide +kernel
theorem dX4_copyFrom_27 : decode cX4_copyFrom 27 = .ok (.aload_n 0, 1) := by decide +kernel
theorem dX4_copyFrom_28 : decode cX4_copyFrom 28 = .ok (.getfield 25, 3) := by decide +kernel
theorem dX4_copyFrom_31 : decode cX4_copyFrom 31 = .ok (.iconst 0, 1) := by decide +kernel
theorem dX4_copyFrom_32 : decode cX4_copyFrom 32 = .ok (.aload_n 0, 1) := by decide +kernel
theorem dX4_copyFrom_33 : decode cX4_copyFrom 33 = .ok (.getfield 25, 3) := by decide +kernel
theorem dX4_copyFrom_36 : decode cX4_copyFrom 36 = .ok (.arraylength, 1) := by decide +kernel
theorem dX4_copyFrom_37 : decode cX4_copyFrom 37 = .ok (.invokestatic 46, 3) := by decide +kernel
theorem dX4_copyFrom_40 : decode cX4_copyFrom 40 = .ok (.aload_n 1, 1) := by decide +kernel
theorem dX4_copyFrom_41 : decode cX4_copyFrom 41 = .ok (.getfield 29, 3) := by decide +kernel
theorem dX4_copyFrom_44 : decode cX4_copyFrom 44 = .ok (.iconst 0, 1) := by decide +kernel
theorem dX4_copyFrom_45 : decode cX4_copyFrom 45 = .ok (.aload_n 0, 1) := by decide +kernel
theorem dX4_copyFrom_46 : decode cX4_copyFrom 46 = .ok (.getfield 29, 3) := by decide +kernel
theorem dX4_copyFrom_49 : decode cX4_copyFrom 49 = .ok (.iconst 0, 1) := by decide +kernel
theorem dX4_copyFrom_50 : decode cX4_copyFrom 50 = .ok (.aload_n 0, 1) := by decide +kernel
theorem dX4_copyFrom_51 : decode cX4_copyFrom 51 = .ok (.getfield 29, 3) := by decide +kernel
theorem dX4_copyFrom_54 : decode cX4_copyFrom 54 = .ok (.arraylength, 1) := by decide +kernel
theorem dX4_copyFrom_55 : decode cX4_copyFrom 55 = .ok (.invokestatic 46, 3) := by decide +kernel
theorem dX4_copyFrom_58 : decode cX4_copyFrom 58 = .ok (.aload_n 0, 1) := by decide +kernel
theorem dX4_copyFrom_59 : decode cX4_copyFrom 59 = .ok (.aload_n 1, 1) := by decide +kernel
theorem dX4_copyFrom_60 : decode cX4_copyFrom 60 = .ok (.getfield 32, 3) := by decide +kernel
theorem dX4_copyFrom_63 : decode cX4_copyFrom 63 = .ok (.putfield 32, 3) := by decide +kernel
theorem dX4_copyFrom_66 : decode cX4_copyFrom 66 = .ok (.aload_n 0, 1) := by decide +kernel
theorem dX4_copyFrom_67 : decode cX4_copyFrom 67 = .ok (.aload_n 1, 1) := by decide +kernel
theorem dX4_copyFrom_68 : decode cX4_copyFrom 68 = .ok (.getfield 36, 3) := by decide +kernel
theorem dX4_copyFrom_71 : decode cX4_copyFrom 71 = .ok (.putfield 36, 3) := by decide +kernel
theorem dX4_copyFrom_74 : decode cX4_copyFrom 74 = .ok (.return_, 1) := by decide +kernel
theorem dX5_init_0 : decode cX5_init 0 = .ok (.aload_n 0, 1) := by decide +kernel
theorem dX5_init_1 : decode cX5_init 1 = .ok (.invokespecial 3, 3) := by decide +kernel
theorem dX5_init_4 : decode cX5_init 4 = .ok (.aload_n 0, 1) := by decide +kernel
theorem dX5_init_5 : decode cX5_init 5 = .ok (.iconst 4, 1) := by decide +kernel
theorem dX5_init_6 : decode cX5_init 6 = .ok (.newarray .int, 2) := by decide +kernel
theorem dX5_init_8 : decode cX5_init 8 = .ok (.putfield 9, 3) := by decide +kernel
theorem dX5_init_11 : decode cX5_init 11 = .ok (.return_, 1) := by decide +kernel
theorem dX5_compute_0 : decode cX5_compute 0 = .ok (.bipush 8, 2) := by decide +kernel
theorem dX5_compute_2 : decode cX5_compute 2 = .ok (.istore_n 2, 1) := by decide +kernel
theorem dX5_compute_3 : decode cX5_compute 3 = .ok (.iconst 0, 1) := by decide +kernel
theorem dX5_compute_4 : decode cX5_compute 4 = .ok (.istore_n 3, 1) := by decide +kernel
theorem dX5_compute_5 : decode cX5_compute 5 = .ok (.iload_n 3, 1) := by decide +kernel
theorem dX5_compute_6 : decode cX5_compute 6 = .ok (.iconst 4, 1) := by decide +kernel
theorem dX5_compute_7 : decode cX5_compute 7 = .ok (.if_icmp .ge 30, 3) := by decide +kernel
theorem dX5_compute_10 : decode cX5_compute 10 = .ok (.aload_n 0, 1) := by decide +kernel
theorem dX5_compute_11 : decode cX5_compute 11 = .ok (.getfield 9, 3) := by decide +kernel
theorem dX5_compute_14 : decode cX5_compute 14 = .ok (.iload_n 3, 1) := by decide +kernel
theorem dX5_compute_15 : decode cX5_compute 15 = .ok (.aload_n 1, 1) := by decide +kernel
theorem dX5_compute_16 : decode cX5_compute 16 = .ok (.getfield 15, 3) := by decide +kernel
theorem dX5_compute_19 : decode cX5_compute 19 = .ok (.iload_n 3, 1) := by decide +kernel
theorem dX5_compute_20 : decode cX5_compute 20 = .ok (.iaload, 1) := by decide +kernel
theorem dX5_compute_21 : decode cX5_compute 21 = .ok (.iastore, 1) := by decide +kernel
theorem dX5_compute_22 : decode cX5_compute 22 = .ok (.iload_n 2, 1) := by decide +kernel
theorem dX5_compute_23 : decode cX5_compute 23 = .ok (.aload_n 0, 1) := by decide +kernel
theorem dX5_compute_24 : decode cX5_compute 24 = .ok (.getfield 9, 3) := by decide +kernel
theorem dX5_compute_27 : decode cX5_compute 27 = .ok (.iload_n 3, 1) := by decide +kernel
theorem dX5_compute_28 : decode cX5_compute 28 = .ok (.iaload, 1) := by decide +kernel
theorem dX5_compute_29 : decode cX5_compute 29 = .ok (.isub, 1) := by decide +kernel
theorem dX5_compute_30 : decode cX5_compute 30 = .ok (.istore_n 2, 1) := by decide +kernel
theorem dX5_compute_31 : decode cX5_compute 31 = .ok (.iinc 3 1, 3) := by decide +kernel
theorem dX5_compute_34 : decode cX5_compute 34 = .ok (.goto (-29), 3) := by decide +kernel
theorem dX5_compute_37 : decode cX5_compute 37 = .ok (.iconst 0, 1) := by decide +kernel
theorem dX5_compute_38 : decode cX5_compute 38 = .ok (.istore_n 3, 1) := by decide +kernel
theorem dX5_compute_39 : decode cX5_compute 39 = .ok (.iload_n 3, 1) := by decide +kernel
theorem dX5_compute_40 : decode cX5_compute 40 = .ok (.bipush 8, 2) := by decide +kernel
theorem dX5_compute_42 : decode cX5_compute 42 = .ok (.if_icmp .ge 25, 3) := by decide +kernel
theorem dX5_compute_45 : decode cX5_compute 45 = .ok (.iload_n 2, 1) := by decide +kernel
theorem dX5_compute_46 : decode cX5_compute 46 = .ok (.ifCond .le 21, 3) := by decide +kernel
theorem dX5_compute_49 : decode cX5_compute 49 = .ok (.iload_n 2, 1) := by decide +kernel
theorem dX5_compute_50 : decode cX5_compute 50 = .ok (.aload_n 0, 1) := by decide +kernel
theorem dX5_compute_51 : decode cX5_compute 51 = .ok (.aload_n 1, 1) := by decide +kernel
theorem dX5_compute_52 : decode cX5_compute 52 = .ok (.getfield 20, 3) := by decide +kernel
theorem dX5_compute_55 : decode cX5_compute 55 = .ok (.iload_n 2, 1) := by decide +kernel
theorem dX5_compute_56 : decode cX5_compute 56 = .ok (.invokevirtual 24, 3) := by decide +kernel
theorem dX5_compute_59 : decode cX5_compute 59 = .ok (.isub, 1) := by decide +kernel
theorem dX5_compute_60 : decode cX5_compute 60 = .ok (.istore_n 2, 1) := by decide +kernel
theorem dX5_compute_61 : decode cX5_compute 61 = .ok (.iinc 3 1, 3) := by decide +kernel
theorem dX5_compute_64 : decode cX5_compute 64 = .ok (.goto (-25), 3) := by decide +kernel
theorem dX5_compute_67 : decode cX5_compute 67 = .ok (.return_, 1) := by decide +kernel
theorem dX5_growOne_0 : decode cX5_growOne 0 = .ok (.iconst (-1), 1) := by decide +kernel
theorem dX5_growOne_1 : decode cX5_growOne 1 = .ok (.istore_n 3, 1) := by decide +kernel
theorem dX5_growOne_2 : decode cX5_growOne 2 = .ok (.iconst 1, 1) := by decide +kernel
theorem dX5_growOne_3 : decode cX5_growOne 3 = .ok (.istore 4, 2) := by decide +kernel
theorem dX5_growOne_5 : decode cX5_growOne 5 = .ok (.iconst 0, 1) := by decide +kernel
theorem dX5_growOne_6 : decode cX5_growOne 6 = .ok (.istore 5, 2) := by decide +kernel
theorem dX5_growOne_8 : decode cX5_growOne 8 = .ok (.iconst 0, 1) := by decide +kernel
theorem dX5_growOne_9 : decode cX5_growOne 9 = .ok (.istore 6, 2) := by decide +kernel
theorem dX5_growOne_11 : decode cX5_growOne 11 = .ok (.iload 6, 2) := by decide +kernel
theorem dX5_growOne_13 : decode cX5_growOne 13 = .ok (.iconst 4, 1) := by decide +kernel
theorem dX5_growOne_14 : decode cX5_growOne 14 = .ok (.if_icmp .ge 94, 3) := by decide +kernel
theorem dX5_growOne_17 : decode cX5_growOne 17 = .ok (.iconst 0, 1) := by decide +kernel
theorem dX5_growOne_18 : decode cX5_growOne 18 = .ok (.istore 7, 2) := by decide +kernel
theorem dX5_growOne_20 : decode cX5_growOne 20 = .ok (.iconst 1, 1) := by decide +kernel
theorem dX5_growOne_21 : decode cX5_growOne 21 = .ok (.istore 8, 2) := by decide +kernel
theorem dX5_growOne_23 : decode cX5_growOne 23 = .ok (.iload 8, 2) := by decide +kernel
theorem dX5_growOne_25 : decode cX5_growOne 25 = .ok (.iload_n 2, 1) := by decide +kernel
theorem dX5_growOne_26 : decode cX5_growOne 26 = .ok (.if_icmp .gt 76, 3) := by decide +kernel
theorem dX5_growOne_29 : decode cX5_growOne 29 = .ok (.aload_n 0, 1) := by decide +kernel
theorem dX5_growOne_30 : decode cX5_growOne 30 = .ok (.getfield 9, 3) := by decide +kernel
theorem dX5_growOne_33 : decode cX5_growOne 33 = .ok (.iload 6, 2) := by decide +kernel
theorem dX5_growOne_35 : decode cX5_growOne 35 = .ok (.iaload, 1) := by decide +kernel
theorem dX5_growOne_36 : decode cX5_growOne 36 = .ok (.iload 8, 2) := by decide +kernel
theorem dX5_growOne_38 : decode cX5_growOne 38 = .ok (.iadd, 1) := by decide +kernel
theorem dX5_growOne_39 : decode cX5_growOne 39 = .ok (.bipush 8, 2) := by decide +kernel
theorem dX5_growOne_41 : decode cX5_growOne 41 = .ok (.if_icmp .gt 61, 3) := by decide +kernel
theorem dX5_growOne_44 : decode cX5_growOne 44 = .ok (.iload 7, 2) := by decide +kernel
theorem dX5_growOne_46 : decode cX5_growOne 46 = .ok (.aload_n 1, 1) := by decide +kernel
theorem dX5_growOne_47 : decode cX5_growOne 47 = .ok (.getfield 28, 3) := by decide +kernel
theorem dX5_growOne_50 : decode cX5_growOne 50 = .ok (.iload 6, 2) := by decide +kernel
theorem dX5_growOne_52 : decode cX5_growOne 52 = .ok (.bipush 8, 2) := by decide +kernel
theorem dX5_growOne_54 : decode cX5_growOne 54 = .ok (.imul, 1) := by decide +kernel
theorem dX5_growOne_55 : decode cX5_growOne 55 = .ok (.aload_n 0, 1) := by decide +kernel
theorem dX5_growOne_56 : decode cX5_growOne 56 = .ok (.getfield 9, 3) := by decide +kernel
theorem dX5_growOne_59 : decode cX5_growOne 59 = .ok (.iload 6, 2) := by decide +kernel
theorem dX5_growOne_61 : decode cX5_growOne 61 = .ok (.iaload, 1) := by decide +kernel
theorem dX5_growOne_62 : decode cX5_growOne 62 = .ok (.iadd, 1) := by decide +kernel
theorem dX5_growOne_63 : decode cX5_growOne 63 = .ok (.iload 8, 2) := by decide +kernel
theorem dX5_growOne_65 : decode cX5_growOne 65 = .ok (.iadd, 1) := by decide +kernel
theorem dX5_growOne_66 : decode cX5_growOne 66 = .ok (.iconst 1, 1) := by decide +kernel
theorem dX5_growOne_67 : decode cX5_growOne 67 = .ok (.isub, 1) := by decide +kernel
theorem dX5_growOne_68 : decode cX5_growOne 68 = .ok (.iaload, 1) := by decide +kernel
theorem dX5_growOne_69 : decode cX5_growOne 69 = .ok (.iadd, 1) := by decide +kernel
theorem dX5_growOne_70 : decode cX5_growOne 70 = .ok (.istore 7, 2) := by decide +kernel
theorem dX5_growOne_72 : decode cX5_growOne 72 = .ok (.iload 7, 2) := by decide +kernel
theorem dX5_growOne_74 : decode cX5_growOne 74 = .ok (.iload 4, 2) := by decide +kernel
theorem dX5_growOne_76 : decode cX5_growOne 76 = .ok (.imul, 1) := by decide +kernel
theorem dX5_growOne_77 : decode cX5_growOne 77 = .ok (.iload 5, 2) := by decide +kernel
theorem dX5_growOne_79 : decode cX5_growOne 79 = .ok (.iload 8, 2) := by decide +kernel
theorem dX5_growOne_81 : decode cX5_growOne 81 = .ok (.imul, 1) := by decide +kernel
theorem dX5_growOne_82 : decode cX5_growOne 82 = .ok (.if_icmp .le 14, 3) := by decide +kernel
theorem dX5_growOne_85 : decode cX5_growOne 85 = .ok (.iload 6, 2) := by decide +kernel
theorem dX5_growOne_87 : decode cX5_growOne 87 = .ok (.istore_n 3, 1) := by decide +kernel
theorem dX5_growOne_88 : decode cX5_growOne 88 = .ok (.iload 8, 2) := by decide +kernel
theorem dX5_growOne_90 : decode cX5_growOne 90 = .ok (.istore 4, 2) := by decide +kernel
theorem dX5_growOne_92 : decode cX5_growOne 92 = .ok (.iload 7, 2) := by decide +kernel
theorem dX5_growOne_94 : decode cX5_growOne 94 = .ok (.istore 5, 2) := by decide +kernel
theorem dX5_growOne_96 : decode cX5_growOne 96 = .ok (.iinc 8 1, 3) := by decide +kernel
theorem dX5_growOne_99 : decode cX5_growOne 99 = .ok (.goto (-76), 3) := by decide +kernel
theorem dX5_growOne_102 : decode cX5_growOne 102 = .ok (.iinc 6 1, 3) := by decide +kernel
theorem dX5_growOne_105 : decode cX5_growOne 105 = .ok (.goto (-94), 3) := by decide +kernel
theorem dX5_growOne_108 : decode cX5_growOne 108 = .ok (.aload_n 0, 1) := by decide +kernel
theorem dX5_growOne_109 : decode cX5_growOne 109 = .ok (.getfield 9, 3) := by decide +kernel
theorem dX5_growOne_112 : decode cX5_growOne 112 = .ok (.iload_n 3, 1) := by decide +kernel
theorem dX5_growOne_113 : decode cX5_growOne 113 = .ok (.iconst (-1), 1) := by decide +kernel
theorem dX5_growOne_114 : decode cX5_growOne 114 = .ok (.if_icmp .ne 10, 3) := by decide +kernel
theorem dX5_growOne_117 : decode cX5_growOne 117 = .ok (.aload_n 0, 1) := by decide +kernel
theorem dX5_growOne_118 : decode cX5_growOne 118 = .ok (.invokevirtual 33, 3) := by decide +kernel
theorem dX5_growOne_121 : decode cX5_growOne 121 = .ok (.goto 4, 3) := by decide +kernel
theorem dX5_growOne_124 : decode cX5_growOne 124 = .ok (.iload_n 3, 1) := by decide +kernel
theorem dX5_growOne_125 : decode cX5_growOne 125 = .ok (.dup2, 1) := by decide +kernel
theorem dX5_growOne_126 : decode cX5_growOne 126 = .ok (.iaload, 1) := by decide +kernel
theorem dX5_growOne_127 : decode cX5_growOne 127 = .ok (.iload 4, 2) := by decide +kernel
theorem dX5_growOne_129 : decode cX5_growOne 129 = .ok (.iadd, 1) := by decide +kernel
theorem dX5_growOne_130 : decode cX5_growOne 130 = .ok (.iastore, 1) := by decide +kernel
theorem dX5_growOne_131 : decode cX5_growOne 131 = .ok (.iload 4, 2) := by decide +kernel
theorem dX5_growOne_133 : decode cX5_growOne 133 = .ok (.ireturn, 1) := by decide +kernel
theorem dX5_lowest_0 : decode cX5_lowest 0 = .ok (.iconst 0, 1) := by decide +kernel
theorem dX5_lowest_1 : decode cX5_lowest 1 = .ok (.istore_n 1, 1) := by decide +kernel
theorem dX5_lowest_2 : decode cX5_lowest 2 = .ok (.iconst 1, 1) := by decide +kernel
theorem dX5_lowest_3 : decode cX5_lowest 3 = .ok (.istore_n 2, 1) := by decide +kernel
theorem dX5_lowest_4 : decode cX5_lowest 4 = .ok (.iload_n 2, 1) := by decide +kernel
theorem dX5_lowest_5 : decode cX5_lowest 5 = .ok (.iconst 4, 1) := by decide +kernel
theorem dX5_lowest_6 : decode cX5_lowest 6 = .ok (.if_icmp .ge 26, 3) := by decide +kernel
theorem dX5_lowest_9 : decode cX5_lowest 9 = .ok (.aload_n 0, 1) := by decide +kernel
theorem dX5_lowest_10 : decode cX5_lowest 10 = .ok (.getfield 9, 3) := by decide +kernel
theorem dX5_lowest_13 : decode cX5_lowest 13 = .ok (.iload_n 2, 1) := by decide +kernel
theorem dX5_lowest_14 : decode cX5_lowest 14 = .ok (.iaload, 1) := by decide +kernel
theorem dX5_lowest_15 : decode cX5_lowest 15 = .ok (.aload_n 0, 1) := by decide +kernel
theorem dX5_lowest_16 : decode cX5_lowest 16 = .ok (.getfield 9, 3) := by decide +kernel
theorem dX5_lowest_19 : decode cX5_lowest 19 = .ok (.iload_n 1, 1) := by decide +kernel
theorem dX5_lowest_20 : decode cX5_lowest 20 = .ok (.iaload, 1) := by decide +kernel
theorem dX5_lowest_21 : decode cX5_lowest 21 = .ok (.if_icmp .ge 5, 3) := by decide +kernel
theorem dX5_lowest_24 : decode cX5_lowest 24 = .ok (.iload_n 2, 1) := by decide +kernel
theorem dX5_lowest_25 : decode cX5_lowest 25 = .ok (.istore_n 1, 1) := by decide +kernel
theorem dX5_lowest_26 : decode cX5_lowest 26 = .ok (.iinc 2 1, 3) := by decide +kernel
theorem dX5_lowest_29 : decode cX5_lowest 29 = .ok (.goto (-25), 3) := by decide +kernel
theorem dX5_lowest_32 : decode cX5_lowest 32 = .ok (.iload_n 1, 1) := by decide +kernel
theorem dX5_lowest_33 : decode cX5_lowest 33 = .ok (.ireturn, 1) := by decide +kernel
end
section
set_option maxRecDepth 20000 in
theorem ggX0_commandBeginsAt_X0_signAt : GoodIn wsX0_commandBeginsAt wsX0_signAt := goodIn_r _ [5, 6, 7, 8, 9] (by decide +kernel) (by decide +kernel)
set_option maxRecDepth 20000 in
theorem gX0_commandBeginsAt_X0_signAt : GoodIn wsX0_commandBeginsAt (wsV RX0 19 RX0 yX0_signAt wsX0_signAt) := goodIn_app (goodIn_of _ (by decide +kernel)) ggX0_commandBeginsAt_X0_signAt
set_option maxRecDepth 20000 in
theorem ggX0_numberAt_X0_signAt : GoodIn wsX0_numberAt wsX0_signAt := goodIn_r _ [6, 1, 7, 11, 12] (by decide +kernel) (by decide +kernel)
set_option maxRecDepth 20000 in
theorem gX0_numberAt_X0_signAt : GoodIn wsX0_numberAt (wsV RX0 19 RX0 yX0_signAt wsX0_signAt) := goodIn_app (goodIn_of _ (by decide +kernel)) ggX0_numberAt_X0_signAt
set_option maxRecDepth 20000 in
theorem ggX0_numberAt_X0_isDigit : GoodIn wsX0_numberAt wsX0_isDigit := goodIn_r _ [10] (by decide +kernel) (by decide +kernel)
set_option maxRecDepth 20000 in
theorem gX0_numberAt_X0_isDigit : GoodIn wsX0_numberAt (va_wsS RX0 23 yX0_isDigit wsX0_isDigit) := goodIn_app (goodIn_of _ (by decide +kernel)) ggX0_numberAt_X0_isDigit
set_option maxRecDepth 20000 in
theorem ggX0_firstError_X0_signAt : GoodIn wsX0_firstError wsX0_signAt := goodIn_r _ [6, 1, 7, 23, 24] (by decide +kernel) (by decide +kernel)
set_option maxRecDepth 20000 in
theorem gX0_firstError_X0_signAt : GoodIn wsX0_firstError (wsV RX0 19 RX0 yX0_signAt wsX0_signAt) := goodIn_app (goodIn_of _ (by decide +kernel)) ggX0_firstError_X0_signAt
set_option maxRecDepth 20000 in
theorem ggX0_firstError_X0_stageAfter : GoodIn wsX0_firstError wsX0_stageAfter := goodIn_r _ [10, 11, 12, 5, 13, 14, 15, 16, 17, 18, 19, 20, 21, 22] (by decide +kernel) (by decide +kernel)
set_option maxRecDepth 20000 in
theorem gX0_firstError_X0_stageAfter : GoodIn wsX0_firstError (va_wsS RX0 27 yX0_stageAfter wsX0_stageAfter) := goodIn_app (goodIn_of _ (by decide +kernel)) ggX0_firstError_X0_stageAfter
set_option maxRecDepth 20000 in
theorem ggX0_stageAfter_X0_stageAfterFirst : GoodIn wsX0_stageAfter wsX0_stageAfterFirst := goodIn_r _ [4, 5, 6, 3, 7] (by decide +kernel) (by decide +kernel)
set_option maxRecDepth 20000 in
theorem gX0_stageAfter_X0_stageAfterFirst : GoodIn wsX0_stageAfter (va_wsS RX0 31 yX0_stageAfterFirst wsX0_stageAfterFirst) := goodIn_app (goodIn_of _ (by decide +kernel)) ggX0_stageAfter_X0_stageAfterFirst
set_option maxRecDepth 20000 in
theorem ggX0_stageAfter_X0_isDigit : GoodIn wsX0_stageAfter wsX0_isDigit := goodIn_r _ [10] (by decide +kernel) (by decide +kernel)
set_option maxRecDepth 20000 in
theorem gX0_stageAfter_X0_isDigit : GoodIn wsX0_stageAfter (va_wsS RX0 23 yX0_isDigit wsX0_isDigit) := goodIn_app (goodIn_of _ (by decide +kernel)) ggX0_stageAfter_X0_isDigit
set_option maxRecDepth 20000 in
theorem ggX0_stageAfter_X0_mayGoOn : GoodIn wsX0_stageAfter wsX0_mayGoOn := goodIn_r _ [13] (by decide +kernel) (by decide +kernel)
set_option maxRecDepth 20000 in
theorem gX0_stageAfter_X0_mayGoOn : GoodIn wsX0_stageAfter (va_wsS RX0 34 yX0_mayGoOn wsX0_mayGoOn) := goodIn_app (goodIn_of _ (by decide +kernel)) ggX0_stageAfter_X0_mayGoOn
set_option maxRecDepth 20000 in
theorem ggX0_stageAfter_X0_isTenantDigit : GoodIn wsX0_stageAfter wsX0_isTenantDigit := goodIn_r _ [7] (by decide +kernel) (by decide +kernel)
set_option maxRecDepth 20000 in
theorem gX0_stageAfter_X0_isTenantDigit : GoodIn wsX0_stageAfter (va_wsS RX0 38 yX0_isTenantDigit wsX0_isTenantDigit) := goodIn_app (goodIn_of _ (by decide +kernel)) ggX0_stageAfter_X0_isTenantDigit
set_option maxRecDepth 20000 in
theorem ggX0_stageAfterFirst_X0_isTenantDigit : GoodIn wsX0_stageAfterFirst wsX0_isTenantDigit := goodIn_r _ [4] (by decide +kernel) (by decide +kernel)
set_option maxRecDepth 20000 in
theorem gX0_stageAfterFirst_X0_isTenantDigit : GoodIn wsX0_stageAfterFirst (va_wsS RX0 38 yX0_isTenantDigit wsX0_isTenantDigit) := goodIn_app (goodIn_of _ (by decide +kernel)) ggX0_stageAfterFirst_X0_isTenantDigit
set_option maxRecDepth 20000 in
theorem ggX1_init_X4_init : GoodIn wsX1_init wsX4_init := goodIn_r _ [12, 13, 2, 3, 14, 15, 16, 17, 18, 19, 20, 21, 22, 23, 24, 25, 26, 27, 28, 29, 30, 31, 32, 33, 34, 35, 36, 37, 38, 39, 49, 50, 51, 43, 44, 45, 46, 47, 48, 52, 53] (by decide +kernel) (by decide +kernel)
set_option maxRecDepth 20000 in
theorem gX1_init_X4_init : GoodIn wsX1_init (wsX4_init) := ggX1_init_X4_init
set_option maxRecDepth 20000 in
theorem ggX1_push_X4_copyFrom : GoodIn wsX1_push wsX4_copyFrom := goodIn_r _ [8, 9, 10, 11, 12, 13, 14, 15, 16, 17, 18, 19, 20, 21, 22, 23, 24, 25, 26, 27, 28, 29, 30, 31, 32, 33, 34, 35, 39, 40, 41, 42, 43, 44, 45, 46, 47, 48, 49] (by decide +kernel) (by decide +kernel)
set_option maxRecDepth 20000 in
theorem gX1_push_X4_copyFrom : GoodIn wsX1_push (wsV RX1 25 RX4 yX4_copyFrom wsX4_copyFrom) := goodIn_app (goodIn_of _ (by decide +kernel)) ggX1_push_X4_copyFrom
set_option maxRecDepth 20000 in
theorem ggX1_popInto_X4_copyFrom : GoodIn wsX1_popInto wsX4_copyFrom := goodIn_r _ [8, 9, 10, 11, 12, 13, 14, 15, 16, 17, 18, 19, 20, 21, 22, 23, 24, 25, 26, 27, 28, 29, 30, 31, 32, 33, 34, 35, 39, 40, 41, 42, 43, 44, 45, 46, 47, 48, 49] (by decide +kernel) (by decide +kernel)
set_option maxRecDepth 20000 in
theorem gX1_popInto_X4_copyFrom : GoodIn wsX1_popInto (wsV RX1 25 RX4 yX4_copyFrom wsX4_copyFrom) := goodIn_app (goodIn_of _ (by decide +kernel)) ggX1_popInto_X4_copyFrom
set_option maxRecDepth 20000 in
theorem ggX2_note_X6_isSampled : GoodIn wsX2_note wsX6_isSampled := goodIn_r _ [5] (by decide +kernel) (by decide +kernel)
set_option maxRecDepth 20000 in
theorem gX2_note_X6_isSampled_n24 : GoodIn wsX2_note (wsX6_isSampled) := ggX2_note_X6_isSampled
set_option maxRecDepth 20000 in
theorem ggX2_note_X6_listStart : GoodIn wsX2_note wsX6_listStart := goodIn_r _ [7] (by decide +kernel) (by decide +kernel)
set_option maxRecDepth 20000 in
theorem gX2_note_X6_listStart_n28 : GoodIn wsX2_note (wsX6_listStart) := ggX2_note_X6_listStart
set_option maxRecDepth 20000 in
theorem ggX3_resultOf_X3_placeOf : GoodIn wsX3_resultOf wsX3_placeOf := goodIn_r _ [5, 6, 12, 13, 14] (by decide +kernel) (by decide +kernel)
set_option maxRecDepth 20000 in
theorem gX3_resultOf_X3_placeOf : GoodIn wsX3_resultOf (wsV RX3 27 RX3 yX3_placeOf wsX3_placeOf) := goodIn_app (goodIn_of _ (by decide +kernel)) ggX3_resultOf_X3_placeOf
set_option maxRecDepth 20000 in
theorem ggX3_resultOf_X3_ownedWays : GoodIn wsX3_resultOf wsX3_ownedWays := goodIn_r _ [10, 11, 12, 13, 14] (by decide +kernel) (by decide +kernel)
set_option maxRecDepth 20000 in
theorem gX3_resultOf_X3_ownedWays : GoodIn wsX3_resultOf (wsV RX3 31 RX3 yX3_ownedWays wsX3_ownedWays) := goodIn_app (goodIn_of _ (by decide +kernel)) ggX3_resultOf_X3_ownedWays
set_option maxRecDepth 20000 in
theorem ggX3_renew_X3_placeOf : GoodIn wsX3_renew wsX3_placeOf := goodIn_r _ [6, 7, 8, 9, 10] (by decide +kernel) (by decide +kernel)
set_option maxRecDepth 20000 in
theorem gX3_renew_X3_placeOf : GoodIn wsX3_renew (wsV RX3 27 RX3 yX3_placeOf wsX3_placeOf) := goodIn_app (goodIn_of _ (by decide +kernel)) ggX3_renew_X3_placeOf
set_option maxRecDepth 20000 in
theorem ggX3_linesInWay_X3_holdsLineOf : GoodIn wsX3_linesInWay wsX3_holdsLineOf := goodIn_r _ [5, 6, 7, 8, 9] (by decide +kernel) (by decide +kernel)
set_option maxRecDepth 20000 in
theorem gX3_linesInWay_X3_holdsLineOf : GoodIn wsX3_linesInWay (wsV RX3 35 RX3 yX3_holdsLineOf wsX3_holdsLineOf) := goodIn_app (goodIn_of _ (by decide +kernel)) ggX3_linesInWay_X3_holdsLineOf
set_option maxRecDepth 20000 in
theorem ggX3_linesOf_X3_linesInWay : GoodIn wsX3_linesOf wsX3_linesInWay := goodIn_r _ [5, 6, 7, 8, 4, 9, 10, 11, 12, 13] (by decide +kernel) (by decide +kernel)
set_option maxRecDepth 20000 in
theorem gX3_linesOf_X3_linesInWay : GoodIn wsX3_linesOf (wsV RX3 39 RX3 yX3_linesInWay wsX3_linesInWay) := goodIn_app (goodIn_of _ (by decide +kernel)) ggX3_linesOf_X3_linesInWay
set_option maxRecDepth 20000 in
theorem ggX3_linesInOwnWays_X3_linesInWay : GoodIn wsX3_linesInOwnWays wsX3_linesInWay := goodIn_r _ [6, 7, 8, 9, 5, 10, 11, 12, 13, 14] (by decide +kernel) (by decide +kernel)
set_option maxRecDepth 20000 in
theorem gX3_linesInOwnWays_X3_linesInWay : GoodIn wsX3_linesInOwnWays (wsV RX3 39 RX3 yX3_linesInWay wsX3_linesInWay) := goodIn_app (goodIn_of _ (by decide +kernel)) ggX3_linesInOwnWays_X3_linesInWay
set_option maxRecDepth 20000 in
theorem ggX3_allLines_X3_linesOf : GoodIn wsX3_allLines wsX3_linesOf := goodIn_r _ [5, 6, 7, 8, 4, 9, 10, 11, 12, 13, 14, 15, 16, 17] (by decide +kernel) (by decide +kernel)
set_option maxRecDepth 20000 in
theorem gX3_allLines_X3_linesOf : GoodIn wsX3_allLines (wsV RX3 42 RX3 yX3_linesOf wsX3_linesOf) := goodIn_app (goodIn_of _ (by decide +kernel)) ggX3_allLines_X3_linesOf
set_option maxRecDepth 20000 in
theorem ggX3_removeLinesOf_X3_holdsLineOf : GoodIn wsX3_removeLinesOf wsX3_holdsLineOf := goodIn_r _ [6, 1, 7, 8, 9] (by decide +kernel) (by decide +kernel)
set_option maxRecDepth 20000 in
theorem gX3_removeLinesOf_X3_holdsLineOf : GoodIn wsX3_removeLinesOf (wsV RX3 35 RX3 yX3_holdsLineOf wsX3_holdsLineOf) := goodIn_app (goodIn_of _ (by decide +kernel)) ggX3_removeLinesOf_X3_holdsLineOf
set_option maxRecDepth 20000 in
theorem ggX3_wayWithFewestLines_X3_linesInWay : GoodIn wsX3_wayWithFewestLines wsX3_linesInWay := goodIn_r _ [6, 7, 8, 9, 5, 10, 11, 12, 13, 14] (by decide +kernel) (by decide +kernel)
set_option maxRecDepth 20000 in
theorem gX3_wayWithFewestLines_X3_linesInWay : GoodIn wsX3_wayWithFewestLines (wsV RX3 39 RX3 yX3_linesInWay wsX3_linesInWay) := goodIn_app (goodIn_of _ (by decide +kernel)) ggX3_wayWithFewestLines_X3_linesInWay
set_option maxRecDepth 20000 in
theorem ggX4_init_X3_init : GoodIn wsX4_init wsX3_init := goodIn_r _ [19, 20, 2, 3, 12, 21, 22, 23, 30, 31, 32] (by decide +kernel) (by decide +kernel)
set_option maxRecDepth 20000 in
theorem gX4_init_X3_init : GoodIn wsX4_init (wsX3_init) := ggX4_init_X3_init
set_option maxRecDepth 20000 in
theorem ggX4_init_X2_init : GoodIn wsX4_init wsX2_init := goodIn_r _ [26, 27, 2, 3, 12, 28, 29, 39, 40] (by decide +kernel) (by decide +kernel)
set_option maxRecDepth 20000 in
theorem gX4_init_X2_init : GoodIn wsX4_init (wsX2_init) := ggX4_init_X2_init
set_option maxRecDepth 20000 in
theorem ggX4_copyFrom_X3_copyFrom : GoodIn wsX4_copyFrom wsX3_copyFrom := goodIn_r _ [15, 16, 17, 5, 6, 7, 18, 19, 34, 35, 36] (by decide +kernel) (by decide +kernel)
set_option maxRecDepth 20000 in
theorem gX4_copyFrom_X3_copyFrom : GoodIn wsX4_copyFrom (wsV RX4 39 RX3 yX3_copyFrom wsX3_copyFrom) := goodIn_app (goodIn_of _ (by decide +kernel)) ggX4_copyFrom_X3_copyFrom
set_option maxRecDepth 20000 in
theorem ggX4_copyFrom_X2_copyFrom : GoodIn wsX4_copyFrom wsX2_copyFrom := goodIn_r _ [24, 25, 26, 5, 6, 7, 27, 37, 38] (by decide +kernel) (by decide +kernel)
set_option maxRecDepth 20000 in
theorem gX4_copyFrom_X2_copyFrom : GoodIn wsX4_copyFrom (wsV RX4 43 RX2 yX2_copyFrom wsX2_copyFrom) := goodIn_app (goodIn_of _ (by decide +kernel)) ggX4_copyFrom_X2_copyFrom
set_option maxRecDepth 20000 in
theorem ggX5_compute_X5_growOne : GoodIn wsX5_compute wsX5_growOne := goodIn_r _ [8, 1, 9, 10, 11, 12, 7, 13, 14, 21, 22] (by decide +kernel) (by decide +kernel)
set_option maxRecDepth 20000 in
theorem gX5_compute_X5_growOne : GoodIn wsX5_compute (wsV RX5 24 RX5 yX5_growOne wsX5_growOne) := goodIn_app (goodIn_of _ (by decide +kernel)) ggX5_compute_X5_growOne
set_option maxRecDepth 20000 in
theorem ggX5_growOne_X5_lowest : GoodIn wsX5_growOne wsX5_lowest := goodIn_r _ [7, 1, 8] (by decide +kernel) (by decide +kernel)
set_option maxRecDepth 20000 in
theorem gX5_growOne_X5_lowest : GoodIn wsX5_growOne (wsV RX5 33 RX5 yX5_lowest wsX5_lowest) := goodIn_app (goodIn_of _ (by decide +kernel)) ggX5_growOne_X5_lowest
end
section
theorem dX6_init_0 : decode cX6_init 0 = .ok (.aload_n 0, 1) := by decide +kernel
theorem dX6_init_1 : decode cX6_init 1 = .ok (.invokespecial 3, 3) := by decide +kernel
theorem dX6_init_4 : decode cX6_init 4 = .ok (.aload_n 0, 1) := by decide +kernel
theorem dX6_init_5 : decode cX6_init 5 = .ok (.new 9, 3) := by decide +kernel
theorem dX6_init_8 : decode cX6_init 8 = .ok (.dup, 1) := by decide +kernel
theorem dX6_init_9 : decode cX6_init 9 = .ok (.invokespecial 11, 3) := by decide +kernel
theorem dX6_init_12 : decode cX6_init 12 = .ok (.putfield 12, 3) := by decide +kernel
theorem dX6_init_15 : decode cX6_init 15 = .ok (.aload_n 0, 1) := by decide +kernel
theorem dX6_init_16 : decode cX6_init 16 = .ok (.new 16, 3) := by decide +kernel
theorem dX6_init_19 : decode cX6_init 19 = .ok (.dup, 1) := by decide +kernel
theorem dX6_init_20 : decode cX6_init 20 = .ok (.invokespecial 18, 3) := by decide +kernel
theorem dX6_init_23 : decode cX6_init 23 = .ok (.putfield 19, 3) := by decide +kernel
theorem dX6_init_26 : decode cX6_init 26 = .ok (.aload_n 0, 1) := by decide +kernel
theorem dX6_init_27 : decode cX6_init 27 = .ok (.new 23, 3) := by decide +kernel
theorem dX6_init_30 : decode cX6_init 30 = .ok (.dup, 1) := by decide +kernel
theorem dX6_init_31 : decode cX6_init 31 = .ok (.invokespecial 25, 3) := by decide +kernel
theorem dX6_init_34 : decode cX6_init 34 = .ok (.putfield 26, 3) := by decide +kernel
theorem dX6_init_37 : decode cX6_init 37 = .ok (.aload_n 0, 1) := by decide +kernel
theorem dX6_init_38 : decode cX6_init 38 = .ok (.new 30, 3) := by decide +kernel
theorem dX6_init_41 : decode cX6_init 41 = .ok (.dup, 1) := by decide +kernel
theorem dX6_init_42 : decode cX6_init 42 = .ok (.invokespecial 32, 3) := by decide +kernel
theorem dX6_init_45 : decode cX6_init 45 = .ok (.putfield 33, 3) := by decide +kernel
theorem dX6_init_48 : decode cX6_init 48 = .ok (.aload_n 0, 1) := by decide +kernel
theorem dX6_init_49 : decode cX6_init 49 = .ok (.iconst 2, 1) := by decide +kernel
theorem dX6_init_50 : decode cX6_init 50 = .ok (.anewarray 9, 3) := by decide +kernel
theorem dX6_init_53 : decode cX6_init 53 = .ok (.putfield 37, 3) := by decide +kernel
theorem dX6_init_56 : decode cX6_init 56 = .ok (.aload_n 0, 1) := by decide +kernel
theorem dX6_init_57 : decode cX6_init 57 = .ok (.iconst 2, 1) := by decide +kernel
theorem dX6_init_58 : decode cX6_init 58 = .ok (.newarray .boolean, 2) := by decide +kernel
theorem dX6_init_60 : decode cX6_init 60 = .ok (.putfield 41, 3) := by decide +kernel
theorem dX6_init_63 : decode cX6_init 63 = .ok (.iconst 0, 1) := by decide +kernel
theorem dX6_init_64 : decode cX6_init 64 = .ok (.istore_n 1, 1) := by decide +kernel
theorem dX6_init_65 : decode cX6_init 65 = .ok (.iload_n 1, 1) := by decide +kernel
theorem dX6_init_66 : decode cX6_init 66 = .ok (.iconst 2, 1) := by decide +kernel
theorem dX6_init_67 : decode cX6_init 67 = .ok (.if_icmp .ge 22, 3) := by decide +kernel
theorem dX6_init_70 : decode cX6_init 70 = .ok (.aload_n 0, 1) := by decide +kernel
theorem dX6_init_71 : decode cX6_init 71 = .ok (.getfield 37, 3) := by decide +kernel
theorem dX6_init_74 : decode cX6_init 74 = .ok (.iload_n 1, 1) := by decide +kernel
theorem dX6_init_75 : decode cX6_init 75 = .ok (.new 9, 3) := by decide +kernel
theorem dX6_init_78 : decode cX6_init 78 = .ok (.dup, 1) := by decide +kernel
theorem dX6_init_79 : decode cX6_init 79 = .ok (.invokespecial 11, 3) := by decide +kernel
theorem dX6_init_82 : decode cX6_init 82 = .ok (.aastore, 1) := by decide +kernel
theorem dX6_init_83 : decode cX6_init 83 = .ok (.iinc 1 1, 3) := by decide +kernel
theorem dX6_init_86 : decode cX6_init 86 = .ok (.goto (-21), 3) := by decide +kernel
theorem dX6_init_89 : decode cX6_init 89 = .ok (.return_, 1) := by decide +kernel
theorem dX6_access_0 : decode cX6_access 0 = .ok (.iload_n 1, 1) := by decide +kernel
theorem dX6_access_1 : decode cX6_access 1 = .ok (.invokestatic 45, 3) := by decide +kernel
theorem dX6_access_4 : decode cX6_access 4 = .ok (.iload_n 2, 1) := by decide +kernel
theorem dX6_access_5 : decode cX6_access 5 = .ok (.iconst 0, 1) := by decide +kernel
theorem dX6_access_6 : decode cX6_access 6 = .ok (.sipush 255, 3) := by decide +kernel
theorem dX6_access_9 : decode cX6_access 9 = .ok (.invokestatic 49, 3) := by decide +kernel
theorem dX6_access_12 : decode cX6_access 12 = .ok (.aload_n 0, 1) := by decide +kernel
theorem dX6_access_13 : decode cX6_access 13 = .ok (.getfield 26, 3) := by decide +kernel
theorem dX6_access_16 : decode cX6_access 16 = .ok (.aload_n 0, 1) := by decide +kernel
theorem dX6_access_17 : decode cX6_access 17 = .ok (.getfield 12, 3) := by decide +kernel
theorem dX6_access_20 : decode cX6_access 20 = .ok (.invokevirtual 53, 3) := by decide +kernel
theorem dX6_access_23 : decode cX6_access 23 = .ok (.aload_n 0, 1) := by decide +kernel
theorem dX6_access_24 : decode cX6_access 24 = .ok (.iload_n 1, 1) := by decide +kernel
theorem dX6_access_25 : decode cX6_access 25 = .ok (.iload_n 2, 1) := by decide +kernel
theorem dX6_access_26 : decode cX6_access 26 = .ok (.invokevirtual 57, 3) := by decide +kernel
theorem dX6_access_29 : decode cX6_access 29 = .ok (.ireturn, 1) := by decide +kernel
theorem dX6_stream_0 : decode cX6_stream 0 = .ok (.iload_n 1, 1) := by decide +kernel
theorem dX6_stream_1 : decode cX6_stream 1 = .ok (.invokestatic 45, 3) := by decide +kernel
theorem dX6_stream_4 : decode cX6_stream 4 = .ok (.iload_n 2, 1) := by decide +kernel
theorem dX6_stream_5 : decode cX6_stream 5 = .ok (.iconst 0, 1) := by decide +kernel
theorem dX6_stream_6 : decode cX6_stream 6 = .ok (.sipush 255, 3) := by decide +kernel
theorem dX6_stream_9 : decode cX6_stream 9 = .ok (.invokestatic 49, 3) := by decide +kernel
theorem dX6_stream_12 : decode cX6_stream 12 = .ok (.iload_n 3, 1) := by decide +kernel
theorem dX6_stream_13 : decode cX6_stream 13 = .ok (.iconst 1, 1) := by decide +kernel
theorem dX6_stream_14 : decode cX6_stream 14 = .ok (.bipush 64, 2) := by decide +kernel
theorem dX6_stream_16 : decode cX6_stream 16 = .ok (.invokestatic 49, 3) := by decide +kernel
theorem dX6_stream_19 : decode cX6_stream 19 = .ok (.iload 4, 2) := by decide +kernel
theorem dX6_stream_21 : decode cX6_stream 21 = .ok (.iconst 1, 1) := by decide +kernel
theorem dX6_stream_22 : decode cX6_stream 22 = .ok (.bipush 40, 2) := by decide +kernel
theorem dX6_stream_24 : decode cX6_stream 24 = .ok (.invokestatic 49, 3) := by decide +kernel
theorem dX6_stream_27 : decode cX6_stream 27 = .ok (.aload_n 0, 1) := by decide +kernel
theorem dX6_stream_28 : decode cX6_stream 28 = .ok (.getfield 26, 3) := by decide +kernel
theorem dX6_stream_31 : decode cX6_stream 31 = .ok (.aload_n 0, 1) := by decide +kernel
theorem dX6_stream_32 : decode cX6_stream 32 = .ok (.getfield 12, 3) := by decide +kernel
theorem dX6_stream_35 : decode cX6_stream 35 = .ok (.invokevirtual 53, 3) := by decide +kernel
theorem dX6_stream_38 : decode cX6_stream 38 = .ok (.iconst 0, 1) := by decide +kernel
theorem dX6_stream_39 : decode cX6_stream 39 = .ok (.istore 5, 2) := by decide +kernel
theorem dX6_stream_41 : decode cX6_stream 41 = .ok (.iconst 0, 1) := by decide +kernel
theorem dX6_stream_42 : decode cX6_stream 42 = .ok (.istore 6, 2) := by decide +kernel
theorem dX6_stream_44 : decode cX6_stream 44 = .ok (.iload 6, 2) := by decide +kernel
theorem dX6_stream_46 : decode cX6_stream 46 = .ok (.iload 4, 2) := by decide +kernel
theorem dX6_stream_48 : decode cX6_stream 48 = .ok (.if_icmp .ge 31, 3) := by decide +kernel
theorem dX6_stream_51 : decode cX6_stream 51 = .ok (.aload_n 0, 1) := by decide +kernel
theorem dX6_stream_52 : decode cX6_stream 52 = .ok (.iload_n 1, 1) := by decide +kernel
theorem dX6_stream_53 : decode cX6_stream 53 = .ok (.iload_n 2, 1) := by decide +kernel
theorem dX6_stream_54 : decode cX6_stream 54 = .ok (.iload 6, 2) := by decide +kernel
theorem dX6_stream_56 : decode cX6_stream 56 = .ok (.iload_n 3, 1) := by decide +kernel
theorem dX6_stream_57 : decode cX6_stream 57 = .ok (.imul, 1) := by decide +kernel
theorem dX6_stream_58 : decode cX6_stream 58 = .ok (.iadd, 1) := by decide +kernel
theorem dX6_stream_59 : decode cX6_stream 59 = .ok (.sipush 256, 3) := by decide +kernel
theorem dX6_stream_62 : decode cX6_stream 62 = .ok (.irem, 1) := by decide +kernel
theorem dX6_stream_63 : decode cX6_stream 63 = .ok (.invokevirtual 57, 3) := by decide +kernel
theorem dX6_stream_66 : decode cX6_stream 66 = .ok (.iconst 1, 1) := by decide +kernel
theorem dX6_stream_67 : decode cX6_stream 67 = .ok (.if_icmp .ne 6, 3) := by decide +kernel
theorem dX6_stream_70 : decode cX6_stream 70 = .ok (.iinc 5 1, 3) := by decide +kernel
theorem dX6_stream_73 : decode cX6_stream 73 = .ok (.iinc 6 1, 3) := by decide +kernel
theorem dX6_stream_76 : decode cX6_stream 76 = .ok (.goto (-32), 3) := by decide +kernel
theorem dX6_stream_79 : decode cX6_stream 79 = .ok (.iload 5, 2) := by decide +kernel
theorem dX6_stream_81 : decode cX6_stream 81 = .ok (.ireturn, 1) := by decide +kernel
theorem dX6_flush_0 : decode cX6_flush 0 = .ok (.iload_n 1, 1) := by decide +kernel
theorem dX6_flush_1 : decode cX6_flush 1 = .ok (.invokestatic 45, 3) := by decide +kernel
theorem dX6_flush_4 : decode cX6_flush 4 = .ok (.aload_n 0, 1) := by decide +kernel
theorem dX6_flush_5 : decode cX6_flush 5 = .ok (.getfield 26, 3) := by decide +kernel
theorem dX6_flush_8 : decode cX6_flush 8 = .ok (.aload_n 0, 1) := by decide +kernel
theorem dX6_flush_9 : decode cX6_flush 9 = .ok (.getfield 12, 3) := by decide +kernel
theorem dX6_flush_12 : decode cX6_flush 12 = .ok (.invokevirtual 53, 3) := by decide +kernel
theorem dX6_flush_15 : decode cX6_flush 15 = .ok (.aload_n 0, 1) := by decide +kernel
theorem dX6_flush_16 : decode cX6_flush 16 = .ok (.getfield 12, 3) := by decide +kernel
theorem dX6_flush_19 : decode cX6_flush 19 = .ok (.getfield 61, 3) := by decide +kernel
theorem dX6_flush_22 : decode cX6_flush 22 = .ok (.iload_n 1, 1) := by decide +kernel
theorem dX6_flush_23 : decode cX6_flush 23 = .ok (.invokevirtual 65, 3) := by decide +kernel
theorem dX6_flush_26 : decode cX6_flush 26 = .ok (.ireturn, 1) := by decide +kernel
theorem dX6_moveWay_0 : decode cX6_moveWay 0 = .ok (.aload_n 0, 1) := by decide +kernel
theorem dX6_moveWay_1 : decode cX6_moveWay 1 = .ok (.getfield 26, 3) := by decide +kernel
theorem dX6_moveWay_4 : decode cX6_moveWay 4 = .ok (.aload_n 0, 1) := by decide +kernel
theorem dX6_moveWay_5 : decode cX6_moveWay 5 = .ok (.getfield 12, 3) := by decide +kernel
theorem dX6_moveWay_8 : decode cX6_moveWay 8 = .ok (.invokevirtual 53, 3) := by decide +kernel
theorem dX6_moveWay_11 : decode cX6_moveWay 11 = .ok (.aload_n 0, 1) := by decide +kernel
theorem dX6_moveWay_12 : decode cX6_moveWay 12 = .ok (.invokevirtual 71, 3) := by decide +kernel
theorem dX6_moveWay_15 : decode cX6_moveWay 15 = .ok (.ireturn, 1) := by decide +kernel
theorem dX6_giveWay_0 : decode cX6_giveWay 0 = .ok (.iload_n 1, 1) := by decide +kernel
theorem dX6_giveWay_1 : decode cX6_giveWay 1 = .ok (.bipush 8, 2) := by decide +kernel
theorem dX6_giveWay_3 : decode cX6_giveWay 3 = .ok (.invokestatic 75, 3) := by decide +kernel
theorem dX6_giveWay_6 : decode cX6_giveWay 6 = .ok (.iload_n 2, 1) := by decide +kernel
theorem dX6_giveWay_7 : decode cX6_giveWay 7 = .ok (.invokestatic 45, 3) := by decide +kernel
theorem dX6_giveWay_10 : decode cX6_giveWay 10 = .ok (.aload_n 0, 1) := by decide +kernel
theorem dX6_giveWay_11 : decode cX6_giveWay 11 = .ok (.getfield 26, 3) := by decide +kernel
theorem dX6_giveWay_14 : decode cX6_giveWay 14 = .ok (.aload_n 0, 1) := by decide +kernel
theorem dX6_giveWay_15 : decode cX6_giveWay 15 = .ok (.getfield 12, 3) := by decide +kernel
theorem dX6_giveWay_18 : decode cX6_giveWay 18 = .ok (.invokevirtual 53, 3) := by decide +kernel
theorem dX6_giveWay_21 : decode cX6_giveWay 21 = .ok (.aload_n 0, 1) := by decide +kernel
theorem dX6_giveWay_22 : decode cX6_giveWay 22 = .ok (.getfield 12, 3) := by decide +kernel
theorem dX6_giveWay_25 : decode cX6_giveWay 25 = .ok (.getfield 61, 3) := by decide +kernel
theorem dX6_giveWay_28 : decode cX6_giveWay 28 = .ok (.getfield 79, 3) := by decide +kernel
theorem dX6_giveWay_31 : decode cX6_giveWay 31 = .ok (.iload_n 1, 1) := by decide +kernel
theorem dX6_giveWay_32 : decode cX6_giveWay 32 = .ok (.iaload, 1) := by decide +kernel
theorem dX6_giveWay_33 : decode cX6_giveWay 33 = .ok (.istore_n 3, 1) := by decide +kernel
theorem dX6_giveWay_34 : decode cX6_giveWay 34 = .ok (.aload_n 0, 1) := by decide +kernel
theorem dX6_giveWay_35 : decode cX6_giveWay 35 = .ok (.getfield 12, 3) := by decide +kernel
theorem dX6_giveWay_38 : decode cX6_giveWay 38 = .ok (.getfield 61, 3) := by decide +kernel
theorem dX6_giveWay_41 : decode cX6_giveWay 41 = .ok (.getfield 79, 3) := by decide +kernel
theorem dX6_giveWay_44 : decode cX6_giveWay 44 = .ok (.iload_n 1, 1) := by decide +kernel
theorem dX6_giveWay_45 : decode cX6_giveWay 45 = .ok (.iload_n 2, 1) := by decide +kernel
theorem dX6_giveWay_46 : decode cX6_giveWay 46 = .ok (.iastore, 1) := by decide +kernel
theorem dX6_giveWay_47 : decode cX6_giveWay 47 = .ok (.iload_n 3, 1) := by decide +kernel
theorem dX6_giveWay_48 : decode cX6_giveWay 48 = .ok (.ireturn, 1) := by decide +kernel
theorem dX6_setLeast_0 : decode cX6_setLeast 0 = .ok (.iload_n 1, 1) := by decide +kernel
theorem dX6_setLeast_1 : decode cX6_setLeast 1 = .ok (.invokestatic 45, 3) := by decide +kernel
theorem dX6_setLeast_4 : decode cX6_setLeast 4 = .ok (.iload_n 2, 1) := by decide +kernel
theorem dX6_setLeast_5 : decode cX6_setLeast 5 = .ok (.iconst 0, 1) := by decide +kernel
theorem dX6_setLeast_6 : decode cX6_setLeast 6 = .ok (.iconst 2, 1) := by decide +kernel
theorem dX6_setLeast_7 : decode cX6_setLeast 7 = .ok (.invokestatic 49, 3) := by decide +kernel
theorem dX6_setLeast_10 : decode cX6_setLeast 10 = .ok (.aload_n 0, 1) := by decide +kernel
theorem dX6_setLeast_11 : decode cX6_setLeast 11 = .ok (.getfield 26, 3) := by decide +kernel
theorem dX6_setLeast_14 : decode cX6_setLeast 14 = .ok (.aload_n 0, 1) := by decide +kernel
theorem dX6_setLeast_15 : decode cX6_setLeast 15 = .ok (.getfield 12, 3) := by decide +kernel
theorem dX6_setLeast_18 : decode cX6_setLeast 18 = .ok (.invokevirtual 53, 3) := by decide +kernel
theorem dX6_setLeast_21 : decode cX6_setLeast 21 = .ok (.aload_n 0, 1) := by decide +kernel
theorem dX6_setLeast_22 : decode cX6_setLeast 22 = .ok (.getfield 12, 3) := by decide +kernel
theorem dX6_setLeast_25 : decode cX6_setLeast 25 = .ok (.getfield 83, 3) := by decide +kernel
theorem dX6_setLeast_28 : decode cX6_setLeast 28 = .ok (.iload_n 1, 1) := by decide +kernel
theorem dX6_setLeast_29 : decode cX6_setLeast 29 = .ok (.iaload, 1) := by decide +kernel
theorem dX6_setLeast_30 : decode cX6_setLeast 30 = .ok (.istore_n 3, 1) := by decide +kernel
theorem dX6_setLeast_31 : decode cX6_setLeast 31 = .ok (.aload_n 0, 1) := by decide +kernel
theorem dX6_setLeast_32 : decode cX6_setLeast 32 = .ok (.getfield 12, 3) := by decide +kernel
theorem dX6_setLeast_35 : decode cX6_setLeast 35 = .ok (.getfield 83, 3) := by decide +kernel
theorem dX6_setLeast_38 : decode cX6_setLeast 38 = .ok (.iload_n 1, 1) := by decide +kernel
theorem dX6_setLeast_39 : decode cX6_setLeast 39 = .ok (.iload_n 2, 1) := by decide +kernel
theorem dX6_setLeast_40 : decode cX6_setLeast 40 = .ok (.iastore, 1) := by decide +kernel
theorem dX6_setLeast_41 : decode cX6_setLeast 41 = .ok (.iload_n 3, 1) := by decide +kernel
theorem dX6_setLeast_42 : decode cX6_setLeast 42 = .ok (.ireturn, 1) := by decide +kernel
theorem dX6_setEpoch_0 : decode cX6_setEpoch 0 = .ok (.iload_n 1, 1) := by decide +kernel
theorem dX6_setEpoch_1 : decode cX6_setEpoch 1 = .ok (.iconst 0, 1) := by decide +kernel
theorem dX6_setEpoch_2 : decode cX6_setEpoch 2 = .ok (.sipush 200, 3) := by decide +kernel
theorem dX6_setEpoch_5 : decode cX6_setEpoch 5 = .ok (.invokestatic 49, 3) := by decide +kernel
theorem dX6_setEpoch_8 : decode cX6_setEpoch 8 = .ok (.aload_n 0, 1) := by decide +kernel
theorem dX6_setEpoch_9 : decode cX6_setEpoch 9 = .ok (.getfield 26, 3) := by decide +kernel
theorem dX6_setEpoch_12 : decode cX6_setEpoch 12 = .ok (.aload_n 0, 1) := by decide +kernel
theorem dX6_setEpoch_13 : decode cX6_setEpoch 13 = .ok (.getfield 12, 3) := by decide +kernel
theorem dX6_setEpoch_16 : decode cX6_setEpoch 16 = .ok (.invokevirtual 53, 3) := by decide +kernel
theorem dX6_setEpoch_19 : decode cX6_setEpoch 19 = .ok (.aload_n 0, 1) := by decide +kernel
theorem dX6_setEpoch_20 : decode cX6_setEpoch 20 = .ok (.getfield 12, 3) := by decide +kernel
theorem dX6_setEpoch_23 : decode cX6_setEpoch 23 = .ok (.getfield 86, 3) := by decide +kernel
theorem dX6_setEpoch_26 : decode cX6_setEpoch 26 = .ok (.istore_n 2, 1) := by decide +kernel
theorem dX6_setEpoch_27 : decode cX6_setEpoch 27 = .ok (.aload_n 0, 1) := by decide +kernel
theorem dX6_setEpoch_28 : decode cX6_setEpoch 28 = .ok (.getfield 12, 3) := by decide +kernel
theorem dX6_setEpoch_31 : decode cX6_setEpoch 31 = .ok (.iload_n 1, 1) := by decide +kernel
theorem dX6_setEpoch_32 : decode cX6_setEpoch 32 = .ok (.putfield 86, 3) := by decide +kernel
theorem dX6_setEpoch_35 : decode cX6_setEpoch 35 = .ok (.iload_n 2, 1) := by decide +kernel
theorem dX6_setEpoch_36 : decode cX6_setEpoch 36 = .ok (.ireturn, 1) := by decide +kernel
theorem dX6_halveGains_0 : decode cX6_halveGains 0 = .ok (.aload_n 0, 1) := by decide +kernel
theorem dX6_halveGains_1 : decode cX6_halveGains 1 = .ok (.getfield 26, 3) := by decide +kernel
theorem dX6_halveGains_4 : decode cX6_halveGains 4 = .ok (.aload_n 0, 1) := by decide +kernel
theorem dX6_halveGains_5 : decode cX6_halveGains 5 = .ok (.getfield 12, 3) := by decide +kernel
theorem dX6_halveGains_8 : decode cX6_halveGains 8 = .ok (.invokevirtual 53, 3) := by decide +kernel
theorem dX6_halveGains_11 : decode cX6_halveGains 11 = .ok (.aload_n 0, 1) := by decide +kernel
theorem dX6_halveGains_12 : decode cX6_halveGains 12 = .ok (.getfield 12, 3) := by decide +kernel
theorem dX6_halveGains_15 : decode cX6_halveGains 15 = .ok (.getfield 90, 3) := by decide +kernel
theorem dX6_halveGains_18 : decode cX6_halveGains 18 = .ok (.invokevirtual 94, 3) := by decide +kernel
theorem dX6_halveGains_21 : decode cX6_halveGains 21 = .ok (.aload_n 0, 1) := by decide +kernel
theorem dX6_halveGains_22 : decode cX6_halveGains 22 = .ok (.getfield 12, 3) := by decide +kernel
theorem dX6_halveGains_25 : decode cX6_halveGains 25 = .ok (.getfield 90, 3) := by decide +kernel
theorem dX6_halveGains_28 : decode cX6_halveGains 28 = .ok (.invokevirtual 99, 3) := by decide +kernel
theorem dX6_halveGains_31 : decode cX6_halveGains 31 = .ok (.ireturn, 1) := by decide +kernel
theorem dX6_appendText_0 : decode cX6_appendText 0 = .ok (.iload_n 1, 1) := by decide +kernel
theorem dX6_appendText_1 : decode cX6_appendText 1 = .ok (.bipush 32, 2) := by decide +kernel
theorem dX6_appendText_3 : decode cX6_appendText 3 = .ok (.bipush 126, 2) := by decide +kernel
theorem dX6_appendText_5 : decode cX6_appendText 5 = .ok (.invokestatic 49, 3) := by decide +kernel
theorem dX6_appendText_8 : decode cX6_appendText 8 = .ok (.aload_n 0, 1) := by decide +kernel
theorem dX6_appendText_9 : decode cX6_appendText 9 = .ok (.getfield 33, 3) := by decide +kernel
theorem dX6_appendText_12 : decode cX6_appendText 12 = .ok (.getfield 102, 3) := by decide +kernel
theorem dX6_appendText_15 : decode cX6_appendText 15 = .ok (.bipush 80, 2) := by decide +kernel
theorem dX6_appendText_17 : decode cX6_appendText 17 = .ok (.if_icmp .lt 13, 3) := by decide +kernel
theorem dX6_appendText_20 : decode cX6_appendText 20 = .ok (.new 105, 3) := by decide +kernel
theorem dX6_appendText_23 : decode cX6_appendText 23 = .ok (.dup, 1) := by decide +kernel
theorem dX6_appendText_24 : decode cX6_appendText 24 = .ok (.ldc 107, 2) := by decide +kernel
theorem dX6_appendText_26 : decode cX6_appendText 26 = .ok (.invokespecial 109, 3) := by decide +kernel
theorem dX6_appendText_29 : decode cX6_appendText 29 = .ok (.athrow, 1) := by decide +kernel
theorem dX6_appendText_30 : decode cX6_appendText 30 = .ok (.aload_n 0, 1) := by decide +kernel
theorem dX6_appendText_31 : decode cX6_appendText 31 = .ok (.getfield 33, 3) := by decide +kernel
theorem dX6_appendText_34 : decode cX6_appendText 34 = .ok (.iload_n 1, 1) := by decide +kernel
theorem dX6_appendText_35 : decode cX6_appendText 35 = .ok (.i2c, 1) := by decide +kernel
theorem dX6_appendText_36 : decode cX6_appendText 36 = .ok (.invokevirtual 112, 3) := by decide +kernel
theorem dX6_appendText_39 : decode cX6_appendText 39 = .ok (.aload_n 0, 1) := by decide +kernel
theorem dX6_appendText_40 : decode cX6_appendText 40 = .ok (.getfield 33, 3) := by decide +kernel
theorem dX6_appendText_43 : decode cX6_appendText 43 = .ok (.getfield 102, 3) := by decide +kernel
theorem dX6_appendText_46 : decode cX6_appendText 46 = .ok (.ireturn, 1) := by decide +kernel
theorem dX6_clearText_0 : decode cX6_clearText 0 = .ok (.aload_n 0, 1) := by decide +kernel
theorem dX6_clearText_1 : decode cX6_clearText 1 = .ok (.getfield 33, 3) := by decide +kernel
theorem dX6_clearText_4 : decode cX6_clearText 4 = .ok (.getfield 102, 3) := by decide +kernel
theorem dX6_clearText_7 : decode cX6_clearText 7 = .ok (.istore_n 1, 1) := by decide +kernel
theorem dX6_clearText_8 : decode cX6_clearText 8 = .ok (.aload_n 0, 1) := by decide +kernel
theorem dX6_clearText_9 : decode cX6_clearText 9 = .ok (.getfield 33, 3) := by decide +kernel
theorem dX6_clearText_12 : decode cX6_clearText 12 = .ok (.iconst 0, 1) := by decide +kernel
theorem dX6_clearText_13 : decode cX6_clearText 13 = .ok (.putfield 102, 3) := by decide +kernel
theorem dX6_clearText_16 : decode cX6_clearText 16 = .ok (.iload_n 1, 1) := by decide +kernel
theorem dX6_clearText_17 : decode cX6_clearText 17 = .ok (.ireturn, 1) := by decide +kernel
theorem dX6_errorPosition_0 : decode cX6_errorPosition 0 = .ok (.aload_n 0, 1) := by decide +kernel
theorem dX6_errorPosition_1 : decode cX6_errorPosition 1 = .ok (.getfield 33, 3) := by decide +kernel
theorem dX6_errorPosition_4 : decode cX6_errorPosition 4 = .ok (.invokevirtual 116, 3) := by decide +kernel
theorem dX6_errorPosition_7 : decode cX6_errorPosition 7 = .ok (.ireturn, 1) := by decide +kernel
theorem dX6_runText_0 : decode cX6_runText 0 = .ok (.aload_n 0, 1) := by decide +kernel
theorem dX6_runText_1 : decode cX6_runText 1 = .ok (.getfield 33, 3) := by decide +kernel
theorem dX6_runText_4 : decode cX6_runText 4 = .ok (.invokevirtual 116, 3) := by decide +kernel
theorem dX6_runText_7 : decode cX6_runText 7 = .ok (.iconst (-1), 1) := by decide +kernel
theorem dX6_runText_8 : decode cX6_runText 8 = .ok (.if_icmp .eq 13, 3) := by decide +kernel
theorem dX6_runText_11 : decode cX6_runText 11 = .ok (.new 105, 3) := by decide +kernel
theorem dX6_runText_14 : decode cX6_runText 14 = .ok (.dup, 1) := by decide +kernel
theorem dX6_runText_15 : decode cX6_runText 15 = .ok (.ldc 119, 2) := by decide +kernel
theorem dX6_runText_17 : decode cX6_runText 17 = .ok (.invokespecial 109, 3) := by decide +kernel
theorem dX6_runText_20 : decode cX6_runText 20 = .ok (.athrow, 1) := by decide +kernel
theorem dX6_runText_21 : decode cX6_runText 21 = .ok (.aload_n 0, 1) := by decide +kernel
theorem dX6_runText_22 : decode cX6_runText 22 = .ok (.getfield 26, 3) := by decide +kernel
theorem dX6_runText_25 : decode cX6_runText 25 = .ok (.aload_n 0, 1) := by decide +kernel
theorem dX6_runText_26 : decode cX6_runText 26 = .ok (.getfield 12, 3) := by decide +kernel
theorem dX6_runText_29 : decode cX6_runText 29 = .ok (.invokevirtual 53, 3) := by decide +kernel
theorem dX6_runText_32 : decode cX6_runText 32 = .ok (.iconst 0, 1) := by decide +kernel
theorem dX6_runText_33 : decode cX6_runText 33 = .ok (.istore_n 1, 1) := by decide +kernel
theorem dX6_runText_34 : decode cX6_runText 34 = .ok (.iconst 0, 1) := by decide +kernel
theorem dX6_runText_35 : decode cX6_runText 35 = .ok (.istore_n 2, 1) := by decide +kernel
theorem dX6_runText_36 : decode cX6_runText 36 = .ok (.iload_n 2, 1) := by decide +kernel
theorem dX6_runText_37 : decode cX6_runText 37 = .ok (.aload_n 0, 1) := by decide +kernel
theorem dX6_runText_38 : decode cX6_runText 38 = .ok (.getfield 33, 3) := by decide +kernel
theorem dX6_runText_41 : decode cX6_runText 41 = .ok (.getfield 102, 3) := by decide +kernel
theorem dX6_runText_44 : decode cX6_runText 44 = .ok (.if_icmp .ge 32, 3) := by decide +kernel
theorem dX6_runText_47 : decode cX6_runText 47 = .ok (.aload_n 0, 1) := by decide +kernel
theorem dX6_runText_48 : decode cX6_runText 48 = .ok (.getfield 33, 3) := by decide +kernel
theorem dX6_runText_51 : decode cX6_runText 51 = .ok (.iload_n 2, 1) := by decide +kernel
theorem dX6_runText_52 : decode cX6_runText 52 = .ok (.invokevirtual 121, 3) := by decide +kernel
theorem dX6_runText_55 : decode cX6_runText 55 = .ok (.ifCond .eq 15, 3) := by decide +kernel
theorem dX6_runText_58 : decode cX6_runText 58 = .ok (.aload_n 0, 1) := by decide +kernel
theorem dX6_runText_59 : decode cX6_runText 59 = .ok (.iload_n 2, 1) := by decide +kernel
theorem dX6_runText_60 : decode cX6_runText 60 = .ok (.invokevirtual 125, 3) := by decide +kernel
theorem dX6_runText_63 : decode cX6_runText 63 = .ok (.iconst 1, 1) := by decide +kernel
theorem dX6_runText_64 : decode cX6_runText 64 = .ok (.if_icmp .ne 6, 3) := by decide +kernel
theorem dX6_runText_67 : decode cX6_runText 67 = .ok (.iinc 1 1, 3) := by decide +kernel
theorem dX6_runText_70 : decode cX6_runText 70 = .ok (.iinc 2 1, 3) := by decide +kernel
theorem dX6_runText_73 : decode cX6_runText 73 = .ok (.goto (-37), 3) := by decide +kernel
theorem dX6_runText_76 : decode cX6_runText 76 = .ok (.iload_n 1, 1) := by decide +kernel
theorem dX6_runText_77 : decode cX6_runText 77 = .ok (.ireturn, 1) := by decide +kernel
theorem dX6_undo_0 : decode cX6_undo 0 = .ok (.aload_n 0, 1) := by decide +kernel
theorem dX6_undo_1 : decode cX6_undo 1 = .ok (.getfield 26, 3) := by decide +kernel
theorem dX6_undo_4 : decode cX6_undo 4 = .ok (.getfield 128, 3) := by decide +kernel
theorem dX6_undo_7 : decode cX6_undo 7 = .ok (.ifCond .ne 13, 3) := by decide +kernel
theorem dX6_undo_10 : decode cX6_undo 10 = .ok (.new 105, 3) := by decide +kernel
theorem dX6_undo_13 : decode cX6_undo 13 = .ok (.dup, 1) := by decide +kernel
theorem dX6_undo_14 : decode cX6_undo 14 = .ok (.ldc 131, 2) := by decide +kernel
theorem dX6_undo_16 : decode cX6_undo 16 = .ok (.invokespecial 109, 3) := by decide +kernel
theorem dX6_undo_19 : decode cX6_undo 19 = .ok (.athrow, 1) := by decide +kernel
theorem dX6_undo_20 : decode cX6_undo 20 = .ok (.aload_n 0, 1) := by decide +kernel
theorem dX6_undo_21 : decode cX6_undo 21 = .ok (.getfield 26, 3) := by decide +kernel
theorem dX6_undo_24 : decode cX6_undo 24 = .ok (.aload_n 0, 1) := by decide +kernel
theorem dX6_undo_25 : decode cX6_undo 25 = .ok (.getfield 12, 3) := by decide +kernel
theorem dX6_undo_28 : decode cX6_undo 28 = .ok (.invokevirtual 133, 3) := by decide +kernel
theorem dX6_undo_31 : decode cX6_undo 31 = .ok (.aload_n 0, 1) := by decide +kernel
theorem dX6_undo_32 : decode cX6_undo 32 = .ok (.getfield 26, 3) := by decide +kernel
theorem dX6_undo_35 : decode cX6_undo 35 = .ok (.getfield 128, 3) := by decide +kernel
theorem dX6_undo_38 : decode cX6_undo 38 = .ok (.ireturn, 1) := by decide +kernel
theorem dX6_save_0 : decode cX6_save 0 = .ok (.iload_n 1, 1) := by decide +kernel
theorem dX6_save_1 : decode cX6_save 1 = .ok (.iconst 2, 1) := by decide +kernel
theorem dX6_save_2 : decode cX6_save 2 = .ok (.invokestatic 75, 3) := by decide +kernel
theorem dX6_save_5 : decode cX6_save 5 = .ok (.aload_n 0, 1) := by decide +kernel
theorem dX6_save_6 : decode cX6_save 6 = .ok (.getfield 37, 3) := by decide +kernel
theorem dX6_save_9 : decode cX6_save 9 = .ok (.iload_n 1, 1) := by decide +kernel
theorem dX6_save_10 : decode cX6_save 10 = .ok (.aaload, 1) := by decide +kernel
theorem dX6_save_11 : decode cX6_save 11 = .ok (.aload_n 0, 1) := by decide +kernel
theorem dX6_save_12 : decode cX6_save 12 = .ok (.getfield 12, 3) := by decide +kernel
theorem dX6_save_15 : decode cX6_save 15 = .ok (.invokevirtual 136, 3) := by decide +kernel
theorem dX6_save_18 : decode cX6_save 18 = .ok (.aload_n 0, 1) := by decide +kernel
theorem dX6_save_19 : decode cX6_save 19 = .ok (.getfield 41, 3) := by decide +kernel
theorem dX6_save_22 : decode cX6_save 22 = .ok (.iload_n 1, 1) := by decide +kernel
theorem dX6_save_23 : decode cX6_save 23 = .ok (.iconst 1, 1) := by decide +kernel
theorem dX6_save_24 : decode cX6_save 24 = .ok (.bastore, 1) := by decide +kernel
theorem dX6_save_25 : decode cX6_save 25 = .ok (.aload_n 0, 1) := by decide +kernel
theorem dX6_save_26 : decode cX6_save 26 = .ok (.getfield 12, 3) := by decide +kernel
theorem dX6_save_29 : decode cX6_save 29 = .ok (.getfield 61, 3) := by decide +kernel
theorem dX6_save_32 : decode cX6_save 32 = .ok (.invokevirtual 139, 3) := by decide +kernel
theorem dX6_save_35 : decode cX6_save 35 = .ok (.ireturn, 1) := by decide +kernel
theorem dX6_restore_0 : decode cX6_restore 0 = .ok (.iload_n 1, 1) := by decide +kernel
theorem dX6_restore_1 : decode cX6_restore 1 = .ok (.iconst 2, 1) := by decide +kernel
theorem dX6_restore_2 : decode cX6_restore 2 = .ok (.invokestatic 75, 3) := by decide +kernel
theorem dX6_restore_5 : decode cX6_restore 5 = .ok (.aload_n 0, 1) := by decide +kernel
theorem dX6_restore_6 : decode cX6_restore 6 = .ok (.getfield 41, 3) := by decide +kernel
theorem dX6_restore_9 : decode cX6_restore 9 = .ok (.iload_n 1, 1) := by decide +kernel
theorem dX6_restore_10 : decode cX6_restore 10 = .ok (.baload, 1) := by decide +kernel
theorem dX6_restore_11 : decode cX6_restore 11 = .ok (.ifCond .ne 13, 3) := by decide +kernel
theorem dX6_restore_14 : decode cX6_restore 14 = .ok (.new 105, 3) := by decide +kernel
theorem dX6_restore_17 : decode cX6_restore 17 = .ok (.dup, 1) := by decide +kernel
theorem dX6_restore_18 : decode cX6_restore 18 = .ok (.ldc 142, 2) := by decide +kernel
theorem dX6_restore_20 : decode cX6_restore 20 = .ok (.invokespecial 109, 3) := by decide +kernel
theorem dX6_restore_23 : decode cX6_restore 23 = .ok (.athrow, 1) := by decide +kernel
theorem dX6_restore_24 : decode cX6_restore 24 = .ok (.aload_n 0, 1) := by decide +kernel
theorem dX6_restore_25 : decode cX6_restore 25 = .ok (.getfield 26, 3) := by decide +kernel
theorem dX6_restore_28 : decode cX6_restore 28 = .ok (.aload_n 0, 1) := by decide +kernel
theorem dX6_restore_29 : decode cX6_restore 29 = .ok (.getfield 12, 3) := by decide +kernel
theorem dX6_restore_32 : decode cX6_restore 32 = .ok (.invokevirtual 53, 3) := by decide +kernel
theorem dX6_restore_35 : decode cX6_restore 35 = .ok (.aload_n 0, 1) := by decide +kernel
theorem dX6_restore_36 : decode cX6_restore 36 = .ok (.getfield 12, 3) := by decide +kernel
theorem dX6_restore_39 : decode cX6_restore 39 = .ok (.aload_n 0, 1) := by decide +kernel
theorem dX6_restore_40 : decode cX6_restore 40 = .ok (.getfield 37, 3) := by decide +kernel
theorem dX6_restore_43 : decode cX6_restore 43 = .ok (.iload_n 1, 1) := by decide +kernel
theorem dX6_restore_44 : decode cX6_restore 44 = .ok (.aaload, 1) := by decide +kernel
theorem dX6_restore_45 : decode cX6_restore 45 = .ok (.invokevirtual 136, 3) := by decide +kernel
theorem dX6_restore_48 : decode cX6_restore 48 = .ok (.aload_n 0, 1) := by decide +kernel
theorem dX6_restore_49 : decode cX6_restore 49 = .ok (.getfield 12, 3) := by decide +kernel
theorem dX6_restore_52 : decode cX6_restore 52 = .ok (.getfield 61, 3) := by decide +kernel
theorem dX6_restore_55 : decode cX6_restore 55 = .ok (.invokevirtual 139, 3) := by decide +kernel
theorem dX6_restore_58 : decode cX6_restore 58 = .ok (.ireturn, 1) := by decide +kernel
theorem dX6_owner_0 : decode cX6_owner 0 = .ok (.iload_n 1, 1) := by decide +kernel
theorem dX6_owner_1 : decode cX6_owner 1 = .ok (.bipush 8, 2) := by decide +kernel
theorem dX6_owner_3 : decode cX6_owner 3 = .ok (.invokestatic 75, 3) := by decide +kernel
theorem dX6_owner_6 : decode cX6_owner 6 = .ok (.aload_n 0, 1) := by decide +kernel
theorem dX6_owner_7 : decode cX6_owner 7 = .ok (.getfield 12, 3) := by decide +kernel
theorem dX6_owner_10 : decode cX6_owner 10 = .ok (.getfield 61, 3) := by decide +kernel
theorem dX6_owner_13 : decode cX6_owner 13 = .ok (.getfield 79, 3) := by decide +kernel
theorem dX6_owner_16 : decode cX6_owner 16 = .ok (.iload_n 1, 1) := by decide +kernel
theorem dX6_owner_17 : decode cX6_owner 17 = .ok (.iaload, 1) := by decide +kernel
theorem dX6_owner_18 : decode cX6_owner 18 = .ok (.ireturn, 1) := by decide +kernel
theorem dX6_waysOf_0 : decode cX6_waysOf 0 = .ok (.iload_n 1, 1) := by decide +kernel
theorem dX6_waysOf_1 : decode cX6_waysOf 1 = .ok (.invokestatic 45, 3) := by decide +kernel
theorem dX6_waysOf_4 : decode cX6_waysOf 4 = .ok (.aload_n 0, 1) := by decide +kernel
theorem dX6_waysOf_5 : decode cX6_waysOf 5 = .ok (.getfield 12, 3) := by decide +kernel
theorem dX6_waysOf_8 : decode cX6_waysOf 8 = .ok (.getfield 61, 3) := by decide +kernel
theorem dX6_waysOf_11 : decode cX6_waysOf 11 = .ok (.iload_n 1, 1) := by decide +kernel
theorem dX6_waysOf_12 : decode cX6_waysOf 12 = .ok (.invokevirtual 144, 3) := by decide +kernel
theorem dX6_waysOf_15 : decode cX6_waysOf 15 = .ok (.ireturn, 1) := by decide +kernel
theorem dX6_line_0 : decode cX6_line 0 = .ok (.iload_n 1, 1) := by decide +kernel
theorem dX6_line_1 : decode cX6_line 1 = .ok (.iconst 4, 1) := by decide +kernel
theorem dX6_line_2 : decode cX6_line 2 = .ok (.invokestatic 75, 3) := by decide +kernel
theorem dX6_line_5 : decode cX6_line 5 = .ok (.iload_n 2, 1) := by decide +kernel
theorem dX6_line_6 : decode cX6_line 6 = .ok (.bipush 8, 2) := by decide +kernel
theorem dX6_line_8 : decode cX6_line 8 = .ok (.invokestatic 75, 3) := by decide +kernel
theorem dX6_line_11 : decode cX6_line 11 = .ok (.aload_n 0, 1) := by decide +kernel
theorem dX6_line_12 : decode cX6_line 12 = .ok (.getfield 12, 3) := by decide +kernel
theorem dX6_line_15 : decode cX6_line 15 = .ok (.getfield 61, 3) := by decide +kernel
theorem dX6_line_18 : decode cX6_line 18 = .ok (.getfield 147, 3) := by decide +kernel
theorem dX6_line_21 : decode cX6_line 21 = .ok (.iload_n 1, 1) := by decide +kernel
theorem dX6_line_22 : decode cX6_line 22 = .ok (.bipush 8, 2) := by decide +kernel
theorem dX6_line_24 : decode cX6_line 24 = .ok (.imul, 1) := by decide +kernel
theorem dX6_line_25 : decode cX6_line 25 = .ok (.iload_n 2, 1) := by decide +kernel
theorem dX6_line_26 : decode cX6_line 26 = .ok (.iadd, 1) := by decide +kernel
theorem dX6_line_27 : decode cX6_line 27 = .ok (.iaload, 1) := by decide +kernel
theorem dX6_line_28 : decode cX6_line 28 = .ok (.ireturn, 1) := by decide +kernel
theorem dX6_lines_0 : decode cX6_lines 0 = .ok (.iload_n 1, 1) := by decide +kernel
theorem dX6_lines_1 : decode cX6_lines 1 = .ok (.invokestatic 45, 3) := by decide +kernel
theorem dX6_lines_4 : decode cX6_lines 4 = .ok (.iload_n 2, 1) := by decide +kernel
theorem dX6_lines_5 : decode cX6_lines 5 = .ok (.ifCond .eq 17, 3) := by decide +kernel
theorem dX6_lines_8 : decode cX6_lines 8 = .ok (.aload_n 0, 1) := by decide +kernel
theorem dX6_lines_9 : decode cX6_lines 9 = .ok (.getfield 12, 3) := by decide +kernel
theorem dX6_lines_12 : decode cX6_lines 12 = .ok (.getfield 61, 3) := by decide +kernel
theorem dX6_lines_15 : decode cX6_lines 15 = .ok (.iload_n 1, 1) := by decide +kernel
theorem dX6_lines_16 : decode cX6_lines 16 = .ok (.invokevirtual 150, 3) := by decide +kernel
theorem dX6_lines_19 : decode cX6_lines 19 = .ok (.goto 4, 3) := by decide +kernel
theorem dX6_lines_22 : decode cX6_lines 22 = .ok (.iconst 0, 1) := by decide +kernel
theorem dX6_lines_23 : decode cX6_lines 23 = .ok (.istore_n 3, 1) := by decide +kernel
theorem dX6_lines_24 : decode cX6_lines 24 = .ok (.aload_n 0, 1) := by decide +kernel
theorem dX6_lines_25 : decode cX6_lines 25 = .ok (.getfield 12, 3) := by decide +kernel
theorem dX6_lines_28 : decode cX6_lines 28 = .ok (.getfield 61, 3) := by decide +kernel
theorem dX6_lines_31 : decode cX6_lines 31 = .ok (.iload_n 1, 1) := by decide +kernel
theorem dX6_lines_32 : decode cX6_lines 32 = .ok (.invokevirtual 153, 3) := by decide +kernel
theorem dX6_lines_35 : decode cX6_lines 35 = .ok (.iload_n 3, 1) := by decide +kernel
theorem dX6_lines_36 : decode cX6_lines 36 = .ok (.isub, 1) := by decide +kernel
theorem dX6_lines_37 : decode cX6_lines 37 = .ok (.ireturn, 1) := by decide +kernel
theorem dX6_ifAccessed_0 : decode cX6_ifAccessed 0 = .ok (.iload_n 1, 1) := by decide +kernel
theorem dX6_ifAccessed_1 : decode cX6_ifAccessed 1 = .ok (.invokestatic 45, 3) := by decide +kernel
theorem dX6_ifAccessed_4 : decode cX6_ifAccessed 4 = .ok (.iload_n 2, 1) := by decide +kernel
theorem dX6_ifAccessed_5 : decode cX6_ifAccessed 5 = .ok (.iconst 0, 1) := by decide +kernel
theorem dX6_ifAccessed_6 : decode cX6_ifAccessed 6 = .ok (.sipush 255, 3) := by decide +kernel
theorem dX6_ifAccessed_9 : decode cX6_ifAccessed 9 = .ok (.invokestatic 49, 3) := by decide +kernel
theorem dX6_ifAccessed_12 : decode cX6_ifAccessed 12 = .ok (.aload_n 0, 1) := by decide +kernel
theorem dX6_ifAccessed_13 : decode cX6_ifAccessed 13 = .ok (.getfield 12, 3) := by decide +kernel
theorem dX6_ifAccessed_16 : decode cX6_ifAccessed 16 = .ok (.getfield 61, 3) := by decide +kernel
theorem dX6_ifAccessed_19 : decode cX6_ifAccessed 19 = .ok (.iload_n 1, 1) := by decide +kernel
theorem dX6_ifAccessed_20 : decode cX6_ifAccessed 20 = .ok (.iload_n 2, 1) := by decide +kernel
theorem dX6_ifAccessed_21 : decode cX6_ifAccessed 21 = .ok (.invokevirtual 156, 3) := by decide +kernel
theorem dX6_ifAccessed_24 : decode cX6_ifAccessed 24 = .ok (.ireturn, 1) := by decide +kernel
theorem dX6_victim_0 : decode cX6_victim 0 = .ok (.iload_n 1, 1) := by decide +kernel
theorem dX6_victim_1 : decode cX6_victim 1 = .ok (.invokestatic 45, 3) := by decide +kernel
theorem dX6_victim_4 : decode cX6_victim 4 = .ok (.iload_n 2, 1) := by decide +kernel
theorem dX6_victim_5 : decode cX6_victim 5 = .ok (.iconst 0, 1) := by decide +kernel
theorem dX6_victim_6 : decode cX6_victim 6 = .ok (.sipush 255, 3) := by decide +kernel
theorem dX6_victim_9 : decode cX6_victim 9 = .ok (.invokestatic 49, 3) := by decide +kernel
theorem dX6_victim_12 : decode cX6_victim 12 = .ok (.aload_n 0, 1) := by decide +kernel
theorem dX6_victim_13 : decode cX6_victim 13 = .ok (.getfield 12, 3) := by decide +kernel
theorem dX6_victim_16 : decode cX6_victim 16 = .ok (.getfield 61, 3) := by decide +kernel
theorem dX6_victim_19 : decode cX6_victim 19 = .ok (.iload_n 1, 1) := by decide +kernel
theorem dX6_victim_20 : decode cX6_victim 20 = .ok (.iload_n 2, 1) := by decide +kernel
theorem dX6_victim_21 : decode cX6_victim 21 = .ok (.invokevirtual 156, 3) := by decide +kernel
theorem dX6_victim_24 : decode cX6_victim 24 = .ok (.ifCond .eq 5, 3) := by decide +kernel
theorem dX6_victim_27 : decode cX6_victim 27 = .ok (.iconst (-1), 1) := by decide +kernel
theorem dX6_victim_28 : decode cX6_victim 28 = .ok (.ireturn, 1) := by decide +kernel
theorem dX6_victim_29 : decode cX6_victim 29 = .ok (.aload_n 0, 1) := by decide +kernel
theorem dX6_victim_30 : decode cX6_victim 30 = .ok (.getfield 12, 3) := by decide +kernel
theorem dX6_victim_33 : decode cX6_victim 33 = .ok (.getfield 61, 3) := by decide +kernel
theorem dX6_victim_36 : decode cX6_victim 36 = .ok (.iload_n 1, 1) := by decide +kernel
theorem dX6_victim_37 : decode cX6_victim 37 = .ok (.iload_n 2, 1) := by decide +kernel
theorem dX6_victim_38 : decode cX6_victim 38 = .ok (.invokevirtual 159, 3) := by decide +kernel
theorem dX6_victim_41 : decode cX6_victim 41 = .ok (.istore_n 3, 1) := by decide +kernel
theorem dX6_victim_42 : decode cX6_victim 42 = .ok (.iload_n 3, 1) := by decide +kernel
theorem dX6_victim_43 : decode cX6_victim 43 = .ok (.iconst (-1), 1) := by decide +kernel
theorem dX6_victim_44 : decode cX6_victim 44 = .ok (.if_icmp .ne 7, 3) := by decide +kernel
theorem dX6_victim_47 : decode cX6_victim 47 = .ok (.iconst (-1), 1) := by decide +kernel
theorem dX6_victim_48 : decode cX6_victim 48 = .ok (.goto 15, 3) := by decide +kernel
theorem dX6_victim_51 : decode cX6_victim 51 = .ok (.aload_n 0, 1) := by decide +kernel
theorem dX6_victim_52 : decode cX6_victim 52 = .ok (.getfield 12, 3) := by decide +kernel
theorem dX6_victim_55 : decode cX6_victim 55 = .ok (.getfield 61, 3) := by decide +kernel
theorem dX6_victim_58 : decode cX6_victim 58 = .ok (.getfield 147, 3) := by decide +kernel
theorem dX6_victim_61 : decode cX6_victim 61 = .ok (.iload_n 3, 1) := by decide +kernel
theorem dX6_victim_62 : decode cX6_victim 62 = .ok (.iaload, 1) := by decide +kernel
theorem dX6_victim_63 : decode cX6_victim 63 = .ok (.ireturn, 1) := by decide +kernel
theorem dX6_gain_0 : decode cX6_gain 0 = .ok (.iload_n 1, 1) := by decide +kernel
theorem dX6_gain_1 : decode cX6_gain 1 = .ok (.invokestatic 45, 3) := by decide +kernel
theorem dX6_gain_4 : decode cX6_gain 4 = .ok (.iload_n 2, 1) := by decide +kernel
theorem dX6_gain_5 : decode cX6_gain 5 = .ok (.bipush 8, 2) := by decide +kernel
theorem dX6_gain_7 : decode cX6_gain 7 = .ok (.invokestatic 75, 3) := by decide +kernel
theorem dX6_gain_10 : decode cX6_gain 10 = .ok (.aload_n 0, 1) := by decide +kernel
theorem dX6_gain_11 : decode cX6_gain 11 = .ok (.getfield 12, 3) := by decide +kernel
theorem dX6_gain_14 : decode cX6_gain 14 = .ok (.getfield 90, 3) := by decide +kernel
theorem dX6_gain_17 : decode cX6_gain 17 = .ok (.getfield 162, 3) := by decide +kernel
theorem dX6_gain_20 : decode cX6_gain 20 = .ok (.iload_n 1, 1) := by decide +kernel
theorem dX6_gain_21 : decode cX6_gain 21 = .ok (.bipush 8, 2) := by decide +kernel
theorem dX6_gain_23 : decode cX6_gain 23 = .ok (.imul, 1) := by decide +kernel
theorem dX6_gain_24 : decode cX6_gain 24 = .ok (.iload_n 2, 1) := by decide +kernel
theorem dX6_gain_25 : decode cX6_gain 25 = .ok (.iadd, 1) := by decide +kernel
theorem dX6_gain_26 : decode cX6_gain 26 = .ok (.iaload, 1) := by decide +kernel
theorem dX6_gain_27 : decode cX6_gain 27 = .ok (.ireturn, 1) := by decide +kernel
theorem dX6_utility_0 : decode cX6_utility 0 = .ok (.iload_n 1, 1) := by decide +kernel
theorem dX6_utility_1 : decode cX6_utility 1 = .ok (.invokestatic 45, 3) := by decide +kernel
theorem dX6_utility_4 : decode cX6_utility 4 = .ok (.iload_n 2, 1) := by decide +kernel
theorem dX6_utility_5 : decode cX6_utility 5 = .ok (.iconst 0, 1) := by decide +kernel
theorem dX6_utility_6 : decode cX6_utility 6 = .ok (.bipush 8, 2) := by decide +kernel
theorem dX6_utility_8 : decode cX6_utility 8 = .ok (.invokestatic 49, 3) := by decide +kernel
theorem dX6_utility_11 : decode cX6_utility 11 = .ok (.aload_n 0, 1) := by decide +kernel
theorem dX6_utility_12 : decode cX6_utility 12 = .ok (.getfield 12, 3) := by decide +kernel
theorem dX6_utility_15 : decode cX6_utility 15 = .ok (.getfield 90, 3) := by decide +kernel
theorem dX6_utility_18 : decode cX6_utility 18 = .ok (.iload_n 1, 1) := by decide +kernel
theorem dX6_utility_19 : decode cX6_utility 19 = .ok (.iload_n 2, 1) := by decide +kernel
theorem dX6_utility_20 : decode cX6_utility 20 = .ok (.invokevirtual 165, 3) := by decide +kernel
theorem dX6_utility_23 : decode cX6_utility 23 = .ok (.ireturn, 1) := by decide +kernel
theorem dX6_monitored_0 : decode cX6_monitored 0 = .ok (.iload_n 1, 1) := by decide +kernel
theorem dX6_monitored_1 : decode cX6_monitored 1 = .ok (.invokestatic 45, 3) := by decide +kernel
theorem dX6_monitored_4 : decode cX6_monitored 4 = .ok (.iload_n 2, 1) := by decide +kernel
theorem dX6_monitored_5 : decode cX6_monitored 5 = .ok (.invokestatic 168, 3) := by decide +kernel
theorem dX6_monitored_8 : decode cX6_monitored 8 = .ok (.ifCond .ne 13, 3) := by decide +kernel
theorem dX6_monitored_11 : decode cX6_monitored 11 = .ok (.new 171, 3) := by decide +kernel
theorem dX6_monitored_14 : decode cX6_monitored 14 = .ok (.dup, 1) := by decide +kernel
theorem dX6_monitored_15 : decode cX6_monitored 15 = .ok (.ldc 173, 2) := by decide +kernel
theorem dX6_monitored_17 : decode cX6_monitored 17 = .ok (.invokespecial 175, 3) := by decide +kernel
theorem dX6_monitored_20 : decode cX6_monitored 20 = .ok (.athrow, 1) := by decide +kernel
theorem dX6_monitored_21 : decode cX6_monitored 21 = .ok (.iload_n 3, 1) := by decide +kernel
theorem dX6_monitored_22 : decode cX6_monitored 22 = .ok (.bipush 8, 2) := by decide +kernel
theorem dX6_monitored_24 : decode cX6_monitored 24 = .ok (.invokestatic 75, 3) := by decide +kernel
theorem dX6_monitored_27 : decode cX6_monitored 27 = .ok (.aload_n 0, 1) := by decide +kernel
theorem dX6_monitored_28 : decode cX6_monitored 28 = .ok (.getfield 12, 3) := by decide +kernel
theorem dX6_monitored_31 : decode cX6_monitored 31 = .ok (.getfield 90, 3) := by decide +kernel
theorem dX6_monitored_34 : decode cX6_monitored 34 = .ok (.getfield 176, 3) := by decide +kernel
theorem dX6_monitored_37 : decode cX6_monitored 37 = .ok (.iload_n 1, 1) := by decide +kernel
theorem dX6_monitored_38 : decode cX6_monitored 38 = .ok (.iload_n 2, 1) := by decide +kernel
theorem dX6_monitored_39 : decode cX6_monitored 39 = .ok (.invokestatic 179, 3) := by decide +kernel
theorem dX6_monitored_42 : decode cX6_monitored 42 = .ok (.iload_n 3, 1) := by decide +kernel
theorem dX6_monitored_43 : decode cX6_monitored 43 = .ok (.iadd, 1) := by decide +kernel
theorem dX6_monitored_44 : decode cX6_monitored 44 = .ok (.iaload, 1) := by decide +kernel
theorem dX6_monitored_45 : decode cX6_monitored 45 = .ok (.ireturn, 1) := by decide +kernel
theorem dX6_target_0 : decode cX6_target 0 = .ok (.iload_n 1, 1) := by decide +kernel
theorem dX6_target_1 : decode cX6_target 1 = .ok (.invokestatic 45, 3) := by decide +kernel
theorem dX6_target_4 : decode cX6_target 4 = .ok (.aload_n 0, 1) := by decide +kernel
theorem dX6_target_5 : decode cX6_target 5 = .ok (.getfield 19, 3) := by decide +kernel
theorem dX6_target_8 : decode cX6_target 8 = .ok (.aload_n 0, 1) := by decide +kernel
theorem dX6_target_9 : decode cX6_target 9 = .ok (.getfield 12, 3) := by decide +kernel
theorem dX6_target_12 : decode cX6_target 12 = .ok (.invokevirtual 182, 3) := by decide +kernel
theorem dX6_target_15 : decode cX6_target 15 = .ok (.aload_n 0, 1) := by decide +kernel
theorem dX6_target_16 : decode cX6_target 16 = .ok (.getfield 19, 3) := by decide +kernel
theorem dX6_target_19 : decode cX6_target 19 = .ok (.getfield 185, 3) := by decide +kernel
theorem dX6_target_22 : decode cX6_target 22 = .ok (.iload_n 1, 1) := by decide +kernel
theorem dX6_target_23 : decode cX6_target 23 = .ok (.iaload, 1) := by decide +kernel
theorem dX6_target_24 : decode cX6_target 24 = .ok (.ireturn, 1) := by decide +kernel
theorem dX6_movesLeft_0 : decode cX6_movesLeft 0 = .ok (.aload_n 0, 1) := by decide +kernel
theorem dX6_movesLeft_1 : decode cX6_movesLeft 1 = .ok (.getfield 19, 3) := by decide +kernel
theorem dX6_movesLeft_4 : decode cX6_movesLeft 4 = .ok (.aload_n 0, 1) := by decide +kernel
theorem dX6_movesLeft_5 : decode cX6_movesLeft 5 = .ok (.getfield 12, 3) := by decide +kernel
theorem dX6_movesLeft_8 : decode cX6_movesLeft 8 = .ok (.invokevirtual 182, 3) := by decide +kernel
theorem dX6_movesLeft_11 : decode cX6_movesLeft 11 = .ok (.iconst 0, 1) := by decide +kernel
theorem dX6_movesLeft_12 : decode cX6_movesLeft 12 = .ok (.istore_n 1, 1) := by decide +kernel
theorem dX6_movesLeft_13 : decode cX6_movesLeft 13 = .ok (.iconst 0, 1) := by decide +kernel
theorem dX6_movesLeft_14 : decode cX6_movesLeft 14 = .ok (.istore_n 2, 1) := by decide +kernel
theorem dX6_movesLeft_15 : decode cX6_movesLeft 15 = .ok (.iload_n 2, 1) := by decide +kernel
theorem dX6_movesLeft_16 : decode cX6_movesLeft 16 = .ok (.iconst 4, 1) := by decide +kernel
theorem dX6_movesLeft_17 : decode cX6_movesLeft 17 = .ok (.if_icmp .ge 21, 3) := by decide +kernel
theorem dX6_movesLeft_20 : decode cX6_movesLeft 20 = .ok (.iload_n 1, 1) := by decide +kernel
theorem dX6_movesLeft_21 : decode cX6_movesLeft 21 = .ok (.aload_n 0, 1) := by decide +kernel
theorem dX6_movesLeft_22 : decode cX6_movesLeft 22 = .ok (.iload_n 2, 1) := by decide +kernel
theorem dX6_movesLeft_23 : decode cX6_movesLeft 23 = .ok (.invokevirtual 188, 3) := by decide +kernel
theorem dX6_movesLeft_26 : decode cX6_movesLeft 26 = .ok (.iconst 0, 1) := by decide +kernel
theorem dX6_movesLeft_27 : decode cX6_movesLeft 27 = .ok (.invokestatic 191, 3) := by decide +kernel
theorem dX6_movesLeft_30 : decode cX6_movesLeft 30 = .ok (.iadd, 1) := by decide +kernel
theorem dX6_movesLeft_31 : decode cX6_movesLeft 31 = .ok (.istore_n 1, 1) := by decide +kernel
theorem dX6_movesLeft_32 : decode cX6_movesLeft 32 = .ok (.iinc 2 1, 3) := by decide +kernel
theorem dX6_movesLeft_35 : decode cX6_movesLeft 35 = .ok (.goto (-20), 3) := by decide +kernel
theorem dX6_movesLeft_38 : decode cX6_movesLeft 38 = .ok (.iload_n 1, 1) := by decide +kernel
theorem dX6_movesLeft_39 : decode cX6_movesLeft 39 = .ok (.ireturn, 1) := by decide +kernel
theorem dX6_totalUtility_0 : decode cX6_totalUtility 0 = .ok (.iconst 0, 1) := by decide +kernel
theorem dX6_totalUtility_1 : decode cX6_totalUtility 1 = .ok (.istore_n 1, 1) := by decide +kernel
theorem dX6_totalUtility_2 : decode cX6_totalUtility 2 = .ok (.iconst 0, 1) := by decide +kernel
theorem dX6_totalUtility_3 : decode cX6_totalUtility 3 = .ok (.istore_n 2, 1) := by decide +kernel
theorem dX6_totalUtility_4 : decode cX6_totalUtility 4 = .ok (.iload_n 2, 1) := by decide +kernel
theorem dX6_totalUtility_5 : decode cX6_totalUtility 5 = .ok (.iconst 4, 1) := by decide +kernel
theorem dX6_totalUtility_6 : decode cX6_totalUtility 6 = .ok (.if_icmp .ge 34, 3) := by decide +kernel
theorem dX6_totalUtility_9 : decode cX6_totalUtility 9 = .ok (.iload_n 1, 1) := by decide +kernel
theorem dX6_totalUtility_10 : decode cX6_totalUtility 10 = .ok (.aload_n 0, 1) := by decide +kernel
theorem dX6_totalUtility_11 : decode cX6_totalUtility 11 = .ok (.getfield 12, 3) := by decide +kernel
theorem dX6_totalUtility_14 : decode cX6_totalUtility 14 = .ok (.getfield 90, 3) := by decide +kernel
theorem dX6_totalUtility_17 : decode cX6_totalUtility 17 = .ok (.iload_n 2, 1) := by decide +kernel
theorem dX6_totalUtility_18 : decode cX6_totalUtility 18 = .ok (.aload_n 0, 1) := by decide +kernel
theorem dX6_totalUtility_19 : decode cX6_totalUtility 19 = .ok (.getfield 12, 3) := by decide +kernel
theorem dX6_totalUtility_22 : decode cX6_totalUtility 22 = .ok (.getfield 61, 3) := by decide +kernel
theorem dX6_totalUtility_25 : decode cX6_totalUtility 25 = .ok (.iload_n 2, 1) := by decide +kernel
theorem dX6_totalUtility_26 : decode cX6_totalUtility 26 = .ok (.invokevirtual 144, 3) := by decide +kernel
theorem dX6_totalUtility_29 : decode cX6_totalUtility 29 = .ok (.invokevirtual 165, 3) := by decide +kernel
theorem dX6_totalUtility_32 : decode cX6_totalUtility 32 = .ok (.iadd, 1) := by decide +kernel
theorem dX6_totalUtility_33 : decode cX6_totalUtility 33 = .ok (.istore_n 1, 1) := by decide +kernel
theorem dX6_totalUtility_34 : decode cX6_totalUtility 34 = .ok (.iinc 2 1, 3) := by decide +kernel
theorem dX6_totalUtility_37 : decode cX6_totalUtility 37 = .ok (.goto (-33), 3) := by decide +kernel
theorem dX6_totalUtility_40 : decode cX6_totalUtility 40 = .ok (.iload_n 1, 1) := by decide +kernel
theorem dX6_totalUtility_41 : decode cX6_totalUtility 41 = .ok (.ireturn, 1) := by decide +kernel
theorem dX6_count_0 : decode cX6_count 0 = .ok (.iload_n 1, 1) := by decide +kernel
theorem dX6_count_1 : decode cX6_count 1 = .ok (.invokestatic 45, 3) := by decide +kernel
theorem dX6_count_4 : decode cX6_count 4 = .ok (.iload_n 2, 1) := by decide +kernel
theorem dX6_count_5 : decode cX6_count 5 = .ok (.iconst 0, 1) := by decide +kernel
theorem dX6_count_6 : decode cX6_count 6 = .ok (.iconst 3, 1) := by decide +kernel
theorem dX6_count_7 : decode cX6_count 7 = .ok (.invokestatic 49, 3) := by decide +kernel
theorem dX6_count_10 : decode cX6_count 10 = .ok (.aload_n 0, 1) := by decide +kernel
theorem dX6_count_11 : decode cX6_count 11 = .ok (.getfield 12, 3) := by decide +kernel
theorem dX6_count_14 : decode cX6_count 14 = .ok (.getfield 196, 3) := by decide +kernel
theorem dX6_count_17 : decode cX6_count 17 = .ok (.iload_n 1, 1) := by decide +kernel
theorem dX6_count_18 : decode cX6_count 18 = .ok (.iconst 4, 1) := by decide +kernel
theorem dX6_count_19 : decode cX6_count 19 = .ok (.imul, 1) := by decide +kernel
theorem dX6_count_20 : decode cX6_count 20 = .ok (.iload_n 2, 1) := by decide +kernel
theorem dX6_count_21 : decode cX6_count 21 = .ok (.iadd, 1) := by decide +kernel
theorem dX6_count_22 : decode cX6_count 22 = .ok (.iaload, 1) := by decide +kernel
theorem dX6_count_23 : decode cX6_count 23 = .ok (.ireturn, 1) := by decide +kernel
theorem dX6_accesses_0 : decode cX6_accesses 0 = .ok (.aload_n 0, 1) := by decide +kernel
theorem dX6_accesses_1 : decode cX6_accesses 1 = .ok (.getfield 12, 3) := by decide +kernel
theorem dX6_accesses_4 : decode cX6_accesses 4 = .ok (.getfield 199, 3) := by decide +kernel
theorem dX6_accesses_7 : decode cX6_accesses 7 = .ok (.ireturn, 1) := by decide +kernel
theorem dX6_hitRate_0 : decode cX6_hitRate 0 = .ok (.iload_n 1, 1) := by decide +kernel
theorem dX6_hitRate_1 : decode cX6_hitRate 1 = .ok (.invokestatic 45, 3) := by decide +kernel
theorem dX6_hitRate_4 : decode cX6_hitRate 4 = .ok (.iload_n 1, 1) := by decide +kernel
theorem dX6_hitRate_5 : decode cX6_hitRate 5 = .ok (.iconst 4, 1) := by decide +kernel
theorem dX6_hitRate_6 : decode cX6_hitRate 6 = .ok (.imul, 1) := by decide +kernel
theorem dX6_hitRate_7 : decode cX6_hitRate 7 = .ok (.istore_n 2, 1) := by decide +kernel
theorem dX6_hitRate_8 : decode cX6_hitRate 8 = .ok (.aload_n 0, 1) := by decide +kernel
theorem dX6_hitRate_9 : decode cX6_hitRate 9 = .ok (.getfield 12, 3) := by decide +kernel
theorem dX6_hitRate_12 : decode cX6_hitRate 12 = .ok (.getfield 196, 3) := by decide +kernel
theorem dX6_hitRate_15 : decode cX6_hitRate 15 = .ok (.iload_n 2, 1) := by decide +kernel
theorem dX6_hitRate_16 : decode cX6_hitRate 16 = .ok (.iconst 1, 1) := by decide +kernel
theorem dX6_hitRate_17 : decode cX6_hitRate 17 = .ok (.iadd, 1) := by decide +kernel
theorem dX6_hitRate_18 : decode cX6_hitRate 18 = .ok (.iaload, 1) := by decide +kernel
theorem dX6_hitRate_19 : decode cX6_hitRate 19 = .ok (.istore_n 3, 1) := by decide +kernel
theorem dX6_hitRate_20 : decode cX6_hitRate 20 = .ok (.iload_n 3, 1) := by decide +kernel
theorem dX6_hitRate_21 : decode cX6_hitRate 21 = .ok (.aload_n 0, 1) := by decide +kernel
theorem dX6_hitRate_22 : decode cX6_hitRate 22 = .ok (.getfield 12, 3) := by decide +kernel
theorem dX6_hitRate_25 : decode cX6_hitRate 25 = .ok (.getfield 196, 3) := by decide +kernel
theorem dX6_hitRate_28 : decode cX6_hitRate 28 = .ok (.iload_n 2, 1) := by decide +kernel
theorem dX6_hitRate_29 : decode cX6_hitRate 29 = .ok (.iconst 0, 1) := by decide +kernel
theorem dX6_hitRate_30 : decode cX6_hitRate 30 = .ok (.iadd, 1) := by decide +kernel
theorem dX6_hitRate_31 : decode cX6_hitRate 31 = .ok (.iaload, 1) := by decide +kernel
theorem dX6_hitRate_32 : decode cX6_hitRate 32 = .ok (.iadd, 1) := by decide +kernel
theorem dX6_hitRate_33 : decode cX6_hitRate 33 = .ok (.aload_n 0, 1) := by decide +kernel
theorem dX6_hitRate_34 : decode cX6_hitRate 34 = .ok (.getfield 12, 3) := by decide +kernel
theorem dX6_hitRate_37 : decode cX6_hitRate 37 = .ok (.getfield 196, 3) := by decide +kernel
theorem dX6_hitRate_40 : decode cX6_hitRate 40 = .ok (.iload_n 2, 1) := by decide +kernel
theorem dX6_hitRate_41 : decode cX6_hitRate 41 = .ok (.iconst 2, 1) := by decide +kernel
theorem dX6_hitRate_42 : decode cX6_hitRate 42 = .ok (.iadd, 1) := by decide +kernel
theorem dX6_hitRate_43 : decode cX6_hitRate 43 = .ok (.iaload, 1) := by decide +kernel
theorem dX6_hitRate_44 : decode cX6_hitRate 44 = .ok (.iadd, 1) := by decide +kernel
theorem dX6_hitRate_45 : decode cX6_hitRate 45 = .ok (.istore 4, 2) := by decide +kernel
theorem dX6_hitRate_47 : decode cX6_hitRate 47 = .ok (.iload 4, 2) := by decide +kernel
theorem dX6_hitRate_49 : decode cX6_hitRate 49 = .ok (.ifCond .ne 7, 3) := by decide +kernel
theorem dX6_hitRate_52 : decode cX6_hitRate 52 = .ok (.dconst 0, 1) := by decide +kernel
theorem dX6_hitRate_53 : decode cX6_hitRate 53 = .ok (.goto 9, 3) := by decide +kernel
theorem dX6_hitRate_56 : decode cX6_hitRate 56 = .ok (.iload_n 3, 1) := by decide +kernel
theorem dX6_hitRate_57 : decode cX6_hitRate 57 = .ok (.i2d, 1) := by decide +kernel
theorem dX6_hitRate_58 : decode cX6_hitRate 58 = .ok (.iload 4, 2) := by decide +kernel
theorem dX6_hitRate_60 : decode cX6_hitRate 60 = .ok (.i2d, 1) := by decide +kernel
theorem dX6_hitRate_61 : decode cX6_hitRate 61 = .ok (.ddiv, 1) := by decide +kernel
theorem dX6_hitRate_62 : decode cX6_hitRate 62 = .ok (.dreturn, 1) := by decide +kernel
theorem dX6_savedStates_0 : decode cX6_savedStates 0 = .ok (.aload_n 0, 1) := by decide +kernel
theorem dX6_savedStates_1 : decode cX6_savedStates 1 = .ok (.getfield 26, 3) := by decide +kernel
theorem dX6_savedStates_4 : decode cX6_savedStates 4 = .ok (.getfield 128, 3) := by decide +kernel
theorem dX6_savedStates_7 : decode cX6_savedStates 7 = .ok (.ireturn, 1) := by decide +kernel
theorem dX6_textLength_0 : decode cX6_textLength 0 = .ok (.aload_n 0, 1) := by decide +kernel
theorem dX6_textLength_1 : decode cX6_textLength 1 = .ok (.getfield 33, 3) := by decide +kernel
theorem dX6_textLength_4 : decode cX6_textLength 4 = .ok (.getfield 102, 3) := by decide +kernel
theorem dX6_textLength_7 : decode cX6_textLength 7 = .ok (.ireturn, 1) := by decide +kernel
theorem dX6_requireTenant_0 : decode cX6_requireTenant 0 = .ok (.iload_n 0, 1) := by decide +kernel
theorem dX6_requireTenant_1 : decode cX6_requireTenant 1 = .ok (.iconst 4, 1) := by decide +kernel
theorem dX6_requireTenant_2 : decode cX6_requireTenant 2 = .ok (.invokestatic 75, 3) := by decide +kernel
theorem dX6_requireTenant_5 : decode cX6_requireTenant 5 = .ok (.return_, 1) := by decide +kernel
theorem dX6_requireIndex_0 : decode cX6_requireIndex 0 = .ok (.iload_n 0, 1) := by decide +kernel
theorem dX6_requireIndex_1 : decode cX6_requireIndex 1 = .ok (.ifCond .lt 8, 3) := by decide +kernel
theorem dX6_requireIndex_4 : decode cX6_requireIndex 4 = .ok (.iload_n 0, 1) := by decide +kernel
theorem dX6_requireIndex_5 : decode cX6_requireIndex 5 = .ok (.iload_n 1, 1) := by decide +kernel
theorem dX6_requireIndex_6 : decode cX6_requireIndex 6 = .ok (.if_icmp .lt 13, 3) := by decide +kernel
theorem dX6_requireIndex_9 : decode cX6_requireIndex 9 = .ok (.new 171, 3) := by decide +kernel
theorem dX6_requireIndex_12 : decode cX6_requireIndex 12 = .ok (.dup, 1) := by decide +kernel
theorem dX6_requireIndex_13 : decode cX6_requireIndex 13 = .ok (.ldc 202, 2) := by decide +kernel
theorem dX6_requireIndex_15 : decode cX6_requireIndex 15 = .ok (.invokespecial 175, 3) := by decide +kernel
theorem dX6_requireIndex_18 : decode cX6_requireIndex 18 = .ok (.athrow, 1) := by decide +kernel
theorem dX6_requireIndex_19 : decode cX6_requireIndex 19 = .ok (.return_, 1) := by decide +kernel
theorem dX6_requireArgument_0 : decode cX6_requireArgument 0 = .ok (.iload_n 0, 1) := by decide +kernel
theorem dX6_requireArgument_1 : decode cX6_requireArgument 1 = .ok (.iload_n 1, 1) := by decide +kernel
theorem dX6_requireArgument_2 : decode cX6_requireArgument 2 = .ok (.if_icmp .lt 8, 3) := by decide +kernel
theorem dX6_requireArgument_5 : decode cX6_requireArgument 5 = .ok (.iload_n 0, 1) := by decide +kernel
theorem dX6_requireArgument_6 : decode cX6_requireArgument 6 = .ok (.iload_n 2, 1) := by decide +kernel
theorem dX6_requireArgument_7 : decode cX6_requireArgument 7 = .ok (.if_icmp .le 13, 3) := by decide +kernel
theorem dX6_requireArgument_10 : decode cX6_requireArgument 10 = .ok (.new 204, 3) := by decide +kernel
theorem dX6_requireArgument_13 : decode cX6_requireArgument 13 = .ok (.dup, 1) := by decide +kernel
theorem dX6_requireArgument_14 : decode cX6_requireArgument 14 = .ok (.ldc 206, 2) := by decide +kernel
theorem dX6_requireArgument_16 : decode cX6_requireArgument 16 = .ok (.invokespecial 208, 3) := by decide +kernel
theorem dX6_requireArgument_19 : decode cX6_requireArgument 19 = .ok (.athrow, 1) := by decide +kernel
theorem dX6_requireArgument_20 : decode cX6_requireArgument 20 = .ok (.return_, 1) := by decide +kernel
theorem dX6_isSampled_0 : decode cX6_isSampled 0 = .ok (.iload_n 0, 1) := by decide +kernel
theorem dX6_isSampled_1 : decode cX6_isSampled 1 = .ok (.ifCond .eq 8, 3) := by decide +kernel
theorem dX6_isSampled_4 : decode cX6_isSampled 4 = .ok (.iload_n 0, 1) := by decide +kernel
theorem dX6_isSampled_5 : decode cX6_isSampled 5 = .ok (.iconst 2, 1) := by decide +kernel
theorem dX6_isSampled_6 : decode cX6_isSampled 6 = .ok (.if_icmp .ne 7, 3) := by decide +kernel
theorem dX6_isSampled_9 : decode cX6_isSampled 9 = .ok (.iconst 1, 1) := by decide +kernel
theorem dX6_isSampled_10 : decode cX6_isSampled 10 = .ok (.goto 4, 3) := by decide +kernel
theorem dX6_isSampled_13 : decode cX6_isSampled 13 = .ok (.iconst 0, 1) := by decide +kernel
theorem dX6_isSampled_14 : decode cX6_isSampled 14 = .ok (.ireturn, 1) := by decide +kernel
theorem dX6_listStart_0 : decode cX6_listStart 0 = .ok (.iload_n 0, 1) := by decide +kernel
theorem dX6_listStart_1 : decode cX6_listStart 1 = .ok (.iconst 2, 1) := by decide +kernel
theorem dX6_listStart_2 : decode cX6_listStart 2 = .ok (.imul, 1) := by decide +kernel
theorem dX6_listStart_3 : decode cX6_listStart 3 = .ok (.iload_n 1, 1) := by decide +kernel
theorem dX6_listStart_4 : decode cX6_listStart 4 = .ok (.iconst 2, 1) := by decide +kernel
theorem dX6_listStart_5 : decode cX6_listStart 5 = .ok (.idiv, 1) := by decide +kernel
theorem dX6_listStart_6 : decode cX6_listStart 6 = .ok (.iadd, 1) := by decide +kernel
theorem dX6_listStart_7 : decode cX6_listStart 7 = .ok (.bipush 8, 2) := by decide +kernel
theorem dX6_listStart_9 : decode cX6_listStart 9 = .ok (.imul, 1) := by decide +kernel
theorem dX6_listStart_10 : decode cX6_listStart 10 = .ok (.ireturn, 1) := by decide +kernel
theorem dX6_makeAccess_0 : decode cX6_makeAccess 0 = .ok (.aload_n 0, 1) := by decide +kernel
theorem dX6_makeAccess_1 : decode cX6_makeAccess 1 = .ok (.getfield 12, 3) := by decide +kernel
theorem dX6_makeAccess_4 : decode cX6_makeAccess 4 = .ok (.getfield 90, 3) := by decide +kernel
theorem dX6_makeAccess_7 : decode cX6_makeAccess 7 = .ok (.iload_n 1, 1) := by decide +kernel
theorem dX6_makeAccess_8 : decode cX6_makeAccess 8 = .ok (.iload_n 2, 1) := by decide +kernel
theorem dX6_makeAccess_9 : decode cX6_makeAccess 9 = .ok (.invokevirtual 209, 3) := by decide +kernel
theorem dX6_makeAccess_12 : decode cX6_makeAccess 12 = .ok (.aload_n 0, 1) := by decide +kernel
theorem dX6_makeAccess_13 : decode cX6_makeAccess 13 = .ok (.getfield 12, 3) := by decide +kernel
theorem dX6_makeAccess_16 : decode cX6_makeAccess 16 = .ok (.dup, 1) := by decide +kernel
theorem dX6_makeAccess_17 : decode cX6_makeAccess 17 = .ok (.getfield 199, 3) := by decide +kernel
theorem dX6_makeAccess_20 : decode cX6_makeAccess 20 = .ok (.iconst 1, 1) := by decide +kernel
theorem dX6_makeAccess_21 : decode cX6_makeAccess 21 = .ok (.iadd, 1) := by decide +kernel
theorem dX6_makeAccess_22 : decode cX6_makeAccess 22 = .ok (.putfield 199, 3) := by decide +kernel
theorem dX6_makeAccess_25 : decode cX6_makeAccess 25 = .ok (.aload_n 0, 1) := by decide +kernel
theorem dX6_makeAccess_26 : decode cX6_makeAccess 26 = .ok (.getfield 12, 3) := by decide +kernel
theorem dX6_makeAccess_29 : decode cX6_makeAccess 29 = .ok (.getfield 61, 3) := by decide +kernel
theorem dX6_makeAccess_32 : decode cX6_makeAccess 32 = .ok (.iload_n 1, 1) := by decide +kernel
theorem dX6_makeAccess_33 : decode cX6_makeAccess 33 = .ok (.iload_n 2, 1) := by decide +kernel
theorem dX6_makeAccess_34 : decode cX6_makeAccess 34 = .ok (.invokevirtual 156, 3) := by decide +kernel
theorem dX6_makeAccess_37 : decode cX6_makeAccess 37 = .ok (.istore_n 3, 1) := by decide +kernel
theorem dX6_makeAccess_38 : decode cX6_makeAccess 38 = .ok (.aload_n 0, 1) := by decide +kernel
theorem dX6_makeAccess_39 : decode cX6_makeAccess 39 = .ok (.getfield 12, 3) := by decide +kernel
theorem dX6_makeAccess_42 : decode cX6_makeAccess 42 = .ok (.getfield 196, 3) := by decide +kernel
theorem dX6_makeAccess_45 : decode cX6_makeAccess 45 = .ok (.iload_n 1, 1) := by decide +kernel
theorem dX6_makeAccess_46 : decode cX6_makeAccess 46 = .ok (.iconst 4, 1) := by decide +kernel
theorem dX6_makeAccess_47 : decode cX6_makeAccess 47 = .ok (.imul, 1) := by decide +kernel
theorem dX6_makeAccess_48 : decode cX6_makeAccess 48 = .ok (.iload_n 3, 1) := by decide +kernel
theorem dX6_makeAccess_49 : decode cX6_makeAccess 49 = .ok (.iadd, 1) := by decide +kernel
theorem dX6_makeAccess_50 : decode cX6_makeAccess 50 = .ok (.dup2, 1) := by decide +kernel
theorem dX6_makeAccess_51 : decode cX6_makeAccess 51 = .ok (.iaload, 1) := by decide +kernel
theorem dX6_makeAccess_52 : decode cX6_makeAccess 52 = .ok (.iconst 1, 1) := by decide +kernel
theorem dX6_makeAccess_53 : decode cX6_makeAccess 53 = .ok (.iadd, 1) := by decide +kernel
theorem dX6_makeAccess_54 : decode cX6_makeAccess 54 = .ok (.iastore, 1) := by decide +kernel
theorem dX6_makeAccess_55 : decode cX6_makeAccess 55 = .ok (.iload_n 3, 1) := by decide +kernel
theorem dX6_makeAccess_56 : decode cX6_makeAccess 56 = .ok (.iconst 1, 1) := by decide +kernel
theorem dX6_makeAccess_57 : decode cX6_makeAccess 57 = .ok (.if_icmp .ne 25, 3) := by decide +kernel
theorem dX6_makeAccess_60 : decode cX6_makeAccess 60 = .ok (.aload_n 0, 1) := by decide +kernel
theorem dX6_makeAccess_61 : decode cX6_makeAccess 61 = .ok (.getfield 12, 3) := by decide +kernel
theorem dX6_makeAccess_64 : decode cX6_makeAccess 64 = .ok (.getfield 61, 3) := by decide +kernel
theorem dX6_makeAccess_67 : decode cX6_makeAccess 67 = .ok (.iload_n 1, 1) := by decide +kernel
theorem dX6_makeAccess_68 : decode cX6_makeAccess 68 = .ok (.iload_n 2, 1) := by decide +kernel
theorem dX6_makeAccess_69 : decode cX6_makeAccess 69 = .ok (.aload_n 0, 1) := by decide +kernel
theorem dX6_makeAccess_70 : decode cX6_makeAccess 70 = .ok (.getfield 12, 3) := by decide +kernel
theorem dX6_makeAccess_73 : decode cX6_makeAccess 73 = .ok (.getfield 199, 3) := by decide +kernel
theorem dX6_makeAccess_76 : decode cX6_makeAccess 76 = .ok (.invokevirtual 212, 3) := by decide +kernel
theorem dX6_makeAccess_79 : decode cX6_makeAccess 79 = .ok (.goto 13, 3) := by decide +kernel
theorem dX6_makeAccess_82 : decode cX6_makeAccess 82 = .ok (.iload_n 3, 1) := by decide +kernel
theorem dX6_makeAccess_83 : decode cX6_makeAccess 83 = .ok (.ifCond .ne 9, 3) := by decide +kernel
theorem dX6_makeAccess_86 : decode cX6_makeAccess 86 = .ok (.aload_n 0, 1) := by decide +kernel
theorem dX6_makeAccess_87 : decode cX6_makeAccess 87 = .ok (.iload_n 1, 1) := by decide +kernel
theorem dX6_makeAccess_88 : decode cX6_makeAccess 88 = .ok (.iload_n 2, 1) := by decide +kernel
theorem dX6_makeAccess_89 : decode cX6_makeAccess 89 = .ok (.invokevirtual 215, 3) := by decide +kernel
theorem dX6_makeAccess_92 : decode cX6_makeAccess 92 = .ok (.aload_n 0, 1) := by decide +kernel
theorem dX6_makeAccess_93 : decode cX6_makeAccess 93 = .ok (.getfield 12, 3) := by decide +kernel
theorem dX6_makeAccess_96 : decode cX6_makeAccess 96 = .ok (.getfield 86, 3) := by decide +kernel
theorem dX6_makeAccess_99 : decode cX6_makeAccess 99 = .ok (.ifCond .eq 36, 3) := by decide +kernel
theorem dX6_makeAccess_102 : decode cX6_makeAccess 102 = .ok (.aload_n 0, 1) := by decide +kernel
theorem dX6_makeAccess_103 : decode cX6_makeAccess 103 = .ok (.getfield 12, 3) := by decide +kernel
theorem dX6_makeAccess_106 : decode cX6_makeAccess 106 = .ok (.getfield 199, 3) := by decide +kernel
theorem dX6_makeAccess_109 : decode cX6_makeAccess 109 = .ok (.aload_n 0, 1) := by decide +kernel
theorem dX6_makeAccess_110 : decode cX6_makeAccess 110 = .ok (.getfield 12, 3) := by decide +kernel
theorem dX6_makeAccess_113 : decode cX6_makeAccess 113 = .ok (.getfield 86, 3) := by decide +kernel
theorem dX6_makeAccess_116 : decode cX6_makeAccess 116 = .ok (.irem, 1) := by decide +kernel
theorem dX6_makeAccess_117 : decode cX6_makeAccess 117 = .ok (.ifCond .ne 18, 3) := by decide +kernel
theorem dX6_makeAccess_120 : decode cX6_makeAccess 120 = .ok (.aload_n 0, 1) := by decide +kernel
theorem dX6_makeAccess_121 : decode cX6_makeAccess 121 = .ok (.invokevirtual 71, 3) := by decide +kernel
theorem dX6_makeAccess_124 : decode cX6_makeAccess 124 = .ok (.pop, 1) := by decide +kernel
theorem dX6_makeAccess_125 : decode cX6_makeAccess 125 = .ok (.aload_n 0, 1) := by decide +kernel
theorem dX6_makeAccess_126 : decode cX6_makeAccess 126 = .ok (.getfield 12, 3) := by decide +kernel
theorem dX6_makeAccess_129 : decode cX6_makeAccess 129 = .ok (.getfield 90, 3) := by decide +kernel
theorem dX6_makeAccess_132 : decode cX6_makeAccess 132 = .ok (.invokevirtual 94, 3) := by decide +kernel
theorem dX6_makeAccess_135 : decode cX6_makeAccess 135 = .ok (.iload_n 3, 1) := by decide +kernel
theorem dX6_makeAccess_136 : decode cX6_makeAccess 136 = .ok (.ireturn, 1) := by decide +kernel
theorem dX6_bringIn_0 : decode cX6_bringIn 0 = .ok (.aload_n 0, 1) := by decide +kernel
theorem dX6_bringIn_1 : decode cX6_bringIn 1 = .ok (.getfield 12, 3) := by decide +kernel
theorem dX6_bringIn_4 : decode cX6_bringIn 4 = .ok (.getfield 61, 3) := by decide +kernel
theorem dX6_bringIn_7 : decode cX6_bringIn 7 = .ok (.iload_n 1, 1) := by decide +kernel
theorem dX6_bringIn_8 : decode cX6_bringIn 8 = .ok (.iload_n 2, 1) := by decide +kernel
theorem dX6_bringIn_9 : decode cX6_bringIn 9 = .ok (.invokevirtual 159, 3) := by decide +kernel
theorem dX6_bringIn_12 : decode cX6_bringIn 12 = .ok (.istore_n 3, 1) := by decide +kernel
theorem dX6_bringIn_13 : decode cX6_bringIn 13 = .ok (.iload_n 3, 1) := by decide +kernel
theorem dX6_bringIn_14 : decode cX6_bringIn 14 = .ok (.iconst (-1), 1) := by decide +kernel
theorem dX6_bringIn_15 : decode cX6_bringIn 15 = .ok (.if_icmp .ne 4, 3) := by decide +kernel
theorem dX6_bringIn_18 : decode cX6_bringIn 18 = .ok (.return_, 1) := by decide +kernel
theorem dX6_bringIn_19 : decode cX6_bringIn 19 = .ok (.iconst 0, 1) := by decide +kernel
theorem dX6_bringIn_20 : decode cX6_bringIn 20 = .ok (.istore 4, 2) := by decide +kernel
theorem dX6_bringIn_22 : decode cX6_bringIn 22 = .ok (.iload 4, 2) := by decide +kernel
theorem dX6_bringIn_24 : decode cX6_bringIn 24 = .ok (.iconst 4, 1) := by decide +kernel
theorem dX6_bringIn_25 : decode cX6_bringIn 25 = .ok (.if_icmp .ge 43, 3) := by decide +kernel
theorem dX6_bringIn_28 : decode cX6_bringIn 28 = .ok (.aload_n 0, 1) := by decide +kernel
theorem dX6_bringIn_29 : decode cX6_bringIn 29 = .ok (.getfield 12, 3) := by decide +kernel
theorem dX6_bringIn_32 : decode cX6_bringIn 32 = .ok (.getfield 61, 3) := by decide +kernel
theorem dX6_bringIn_35 : decode cX6_bringIn 35 = .ok (.iload 4, 2) := by decide +kernel
theorem dX6_bringIn_37 : decode cX6_bringIn 37 = .ok (.iload_n 3, 1) := by decide +kernel
theorem dX6_bringIn_38 : decode cX6_bringIn 38 = .ok (.invokevirtual 218, 3) := by decide +kernel
theorem dX6_bringIn_41 : decode cX6_bringIn 41 = .ok (.ifCond .eq 21, 3) := by decide +kernel
theorem dX6_bringIn_44 : decode cX6_bringIn 44 = .ok (.aload_n 0, 1) := by decide +kernel
theorem dX6_bringIn_45 : decode cX6_bringIn 45 = .ok (.getfield 12, 3) := by decide +kernel
theorem dX6_bringIn_48 : decode cX6_bringIn 48 = .ok (.getfield 196, 3) := by decide +kernel
theorem dX6_bringIn_51 : decode cX6_bringIn 51 = .ok (.iload 4, 2) := by decide +kernel
theorem dX6_bringIn_53 : decode cX6_bringIn 53 = .ok (.iconst 4, 1) := by decide +kernel
theorem dX6_bringIn_54 : decode cX6_bringIn 54 = .ok (.imul, 1) := by decide +kernel
theorem dX6_bringIn_55 : decode cX6_bringIn 55 = .ok (.iconst 3, 1) := by decide +kernel
theorem dX6_bringIn_56 : decode cX6_bringIn 56 = .ok (.iadd, 1) := by decide +kernel
theorem dX6_bringIn_57 : decode cX6_bringIn 57 = .ok (.dup2, 1) := by decide +kernel
theorem dX6_bringIn_58 : decode cX6_bringIn 58 = .ok (.iaload, 1) := by decide +kernel
theorem dX6_bringIn_59 : decode cX6_bringIn 59 = .ok (.iconst 1, 1) := by decide +kernel
theorem dX6_bringIn_60 : decode cX6_bringIn 60 = .ok (.iadd, 1) := by decide +kernel
theorem dX6_bringIn_61 : decode cX6_bringIn 61 = .ok (.iastore, 1) := by decide +kernel
theorem dX6_bringIn_62 : decode cX6_bringIn 62 = .ok (.iinc 4 1, 3) := by decide +kernel
theorem dX6_bringIn_65 : decode cX6_bringIn 65 = .ok (.goto (-43), 3) := by decide +kernel
theorem dX6_bringIn_68 : decode cX6_bringIn 68 = .ok (.aload_n 0, 1) := by decide +kernel
theorem dX6_bringIn_69 : decode cX6_bringIn 69 = .ok (.getfield 12, 3) := by decide +kernel
theorem dX6_bringIn_72 : decode cX6_bringIn 72 = .ok (.getfield 61, 3) := by decide +kernel
theorem dX6_bringIn_75 : decode cX6_bringIn 75 = .ok (.getfield 147, 3) := by decide +kernel
theorem dX6_bringIn_78 : decode cX6_bringIn 78 = .ok (.iload_n 3, 1) := by decide +kernel
theorem dX6_bringIn_79 : decode cX6_bringIn 79 = .ok (.iload_n 1, 1) := by decide +kernel
theorem dX6_bringIn_80 : decode cX6_bringIn 80 = .ok (.sipush 256, 3) := by decide +kernel
theorem dX6_bringIn_83 : decode cX6_bringIn 83 = .ok (.imul, 1) := by decide +kernel
theorem dX6_bringIn_84 : decode cX6_bringIn 84 = .ok (.iload_n 2, 1) := by decide +kernel
theorem dX6_bringIn_85 : decode cX6_bringIn 85 = .ok (.iadd, 1) := by decide +kernel
theorem dX6_bringIn_86 : decode cX6_bringIn 86 = .ok (.iastore, 1) := by decide +kernel
theorem dX6_bringIn_87 : decode cX6_bringIn 87 = .ok (.aload_n 0, 1) := by decide +kernel
theorem dX6_bringIn_88 : decode cX6_bringIn 88 = .ok (.getfield 12, 3) := by decide +kernel
theorem dX6_bringIn_91 : decode cX6_bringIn 91 = .ok (.getfield 61, 3) := by decide +kernel
theorem dX6_bringIn_94 : decode cX6_bringIn 94 = .ok (.getfield 222, 3) := by decide +kernel
theorem dX6_bringIn_97 : decode cX6_bringIn 97 = .ok (.iload_n 3, 1) := by decide +kernel
theorem dX6_bringIn_98 : decode cX6_bringIn 98 = .ok (.aload_n 0, 1) := by decide +kernel
theorem dX6_bringIn_99 : decode cX6_bringIn 99 = .ok (.getfield 12, 3) := by decide +kernel
theorem dX6_bringIn_102 : decode cX6_bringIn 102 = .ok (.getfield 199, 3) := by decide +kernel
theorem dX6_bringIn_105 : decode cX6_bringIn 105 = .ok (.iastore, 1) := by decide +kernel
theorem dX6_bringIn_106 : decode cX6_bringIn 106 = .ok (.return_, 1) := by decide +kernel
theorem dX6_moveOneWay_0 : decode cX6_moveOneWay 0 = .ok (.aload_n 0, 1) := by decide +kernel
theorem dX6_moveOneWay_1 : decode cX6_moveOneWay 1 = .ok (.getfield 19, 3) := by decide +kernel
theorem dX6_moveOneWay_4 : decode cX6_moveOneWay 4 = .ok (.aload_n 0, 1) := by decide +kernel
theorem dX6_moveOneWay_5 : decode cX6_moveOneWay 5 = .ok (.getfield 12, 3) := by decide +kernel
theorem dX6_moveOneWay_8 : decode cX6_moveOneWay 8 = .ok (.invokevirtual 182, 3) := by decide +kernel
theorem dX6_moveOneWay_11 : decode cX6_moveOneWay 11 = .ok (.iconst 0, 1) := by decide +kernel
theorem dX6_moveOneWay_12 : decode cX6_moveOneWay 12 = .ok (.istore_n 1, 1) := by decide +kernel
theorem dX6_moveOneWay_13 : decode cX6_moveOneWay 13 = .ok (.iconst 0, 1) := by decide +kernel
theorem dX6_moveOneWay_14 : decode cX6_moveOneWay 14 = .ok (.istore_n 2, 1) := by decide +kernel
theorem dX6_moveOneWay_15 : decode cX6_moveOneWay 15 = .ok (.iconst 1, 1) := by decide +kernel
theorem dX6_moveOneWay_16 : decode cX6_moveOneWay 16 = .ok (.istore_n 3, 1) := by decide +kernel
theorem dX6_moveOneWay_17 : decode cX6_moveOneWay 17 = .ok (.iload_n 3, 1) := by decide +kernel
theorem dX6_moveOneWay_18 : decode cX6_moveOneWay 18 = .ok (.iconst 4, 1) := by decide +kernel
theorem dX6_moveOneWay_19 : decode cX6_moveOneWay 19 = .ok (.if_icmp .ge 39, 3) := by decide +kernel
theorem dX6_moveOneWay_22 : decode cX6_moveOneWay 22 = .ok (.aload_n 0, 1) := by decide +kernel
theorem dX6_moveOneWay_23 : decode cX6_moveOneWay 23 = .ok (.iload_n 3, 1) := by decide +kernel
theorem dX6_moveOneWay_24 : decode cX6_moveOneWay 24 = .ok (.invokevirtual 188, 3) := by decide +kernel
theorem dX6_moveOneWay_27 : decode cX6_moveOneWay 27 = .ok (.aload_n 0, 1) := by decide +kernel
theorem dX6_moveOneWay_28 : decode cX6_moveOneWay 28 = .ok (.iload_n 1, 1) := by decide +kernel
theorem dX6_moveOneWay_29 : decode cX6_moveOneWay 29 = .ok (.invokevirtual 188, 3) := by decide +kernel
theorem dX6_moveOneWay_32 : decode cX6_moveOneWay 32 = .ok (.if_icmp .le 5, 3) := by decide +kernel
theorem dX6_moveOneWay_35 : decode cX6_moveOneWay 35 = .ok (.iload_n 3, 1) := by decide +kernel
theorem dX6_moveOneWay_36 : decode cX6_moveOneWay 36 = .ok (.istore_n 1, 1) := by decide +kernel
theorem dX6_moveOneWay_37 : decode cX6_moveOneWay 37 = .ok (.aload_n 0, 1) := by decide +kernel
theorem dX6_moveOneWay_38 : decode cX6_moveOneWay 38 = .ok (.iload_n 3, 1) := by decide +kernel
theorem dX6_moveOneWay_39 : decode cX6_moveOneWay 39 = .ok (.invokevirtual 188, 3) := by decide +kernel
theorem dX6_moveOneWay_42 : decode cX6_moveOneWay 42 = .ok (.aload_n 0, 1) := by decide +kernel
theorem dX6_moveOneWay_43 : decode cX6_moveOneWay 43 = .ok (.iload_n 2, 1) := by decide +kernel
theorem dX6_moveOneWay_44 : decode cX6_moveOneWay 44 = .ok (.invokevirtual 188, 3) := by decide +kernel
theorem dX6_moveOneWay_47 : decode cX6_moveOneWay 47 = .ok (.if_icmp .ge 5, 3) := by decide +kernel
theorem dX6_moveOneWay_50 : decode cX6_moveOneWay 50 = .ok (.iload_n 3, 1) := by decide +kernel
theorem dX6_moveOneWay_51 : decode cX6_moveOneWay 51 = .ok (.istore_n 2, 1) := by decide +kernel
theorem dX6_moveOneWay_52 : decode cX6_moveOneWay 52 = .ok (.iinc 3 1, 3) := by decide +kernel
theorem dX6_moveOneWay_55 : decode cX6_moveOneWay 55 = .ok (.goto (-38), 3) := by decide +kernel
theorem dX6_moveOneWay_58 : decode cX6_moveOneWay 58 = .ok (.aload_n 0, 1) := by decide +kernel
theorem dX6_moveOneWay_59 : decode cX6_moveOneWay 59 = .ok (.iload_n 1, 1) := by decide +kernel
theorem dX6_moveOneWay_60 : decode cX6_moveOneWay 60 = .ok (.invokevirtual 188, 3) := by decide +kernel
theorem dX6_moveOneWay_63 : decode cX6_moveOneWay 63 = .ok (.ifCond .ne 5, 3) := by decide +kernel
theorem dX6_moveOneWay_66 : decode cX6_moveOneWay 66 = .ok (.iconst (-1), 1) := by decide +kernel
theorem dX6_moveOneWay_67 : decode cX6_moveOneWay 67 = .ok (.ireturn, 1) := by decide +kernel
theorem dX6_moveOneWay_68 : decode cX6_moveOneWay 68 = .ok (.aload_n 0, 1) := by decide +kernel
theorem dX6_moveOneWay_69 : decode cX6_moveOneWay 69 = .ok (.getfield 12, 3) := by decide +kernel
theorem dX6_moveOneWay_72 : decode cX6_moveOneWay 72 = .ok (.getfield 61, 3) := by decide +kernel
theorem dX6_moveOneWay_75 : decode cX6_moveOneWay 75 = .ok (.iload_n 2, 1) := by decide +kernel
theorem dX6_moveOneWay_76 : decode cX6_moveOneWay 76 = .ok (.invokevirtual 225, 3) := by decide +kernel
theorem dX6_moveOneWay_79 : decode cX6_moveOneWay 79 = .ok (.istore_n 3, 1) := by decide +kernel
theorem dX6_moveOneWay_80 : decode cX6_moveOneWay 80 = .ok (.iload_n 3, 1) := by decide +kernel
theorem dX6_moveOneWay_81 : decode cX6_moveOneWay 81 = .ok (.iconst (-1), 1) := by decide +kernel
theorem dX6_moveOneWay_82 : decode cX6_moveOneWay 82 = .ok (.if_icmp .eq 16, 3) := by decide +kernel
theorem dX6_moveOneWay_85 : decode cX6_moveOneWay 85 = .ok (.aload_n 0, 1) := by decide +kernel
theorem dX6_moveOneWay_86 : decode cX6_moveOneWay 86 = .ok (.getfield 12, 3) := by decide +kernel
theorem dX6_moveOneWay_89 : decode cX6_moveOneWay 89 = .ok (.getfield 61, 3) := by decide +kernel
theorem dX6_moveOneWay_92 : decode cX6_moveOneWay 92 = .ok (.getfield 79, 3) := by decide +kernel
theorem dX6_moveOneWay_95 : decode cX6_moveOneWay 95 = .ok (.iload_n 3, 1) := by decide +kernel
theorem dX6_moveOneWay_96 : decode cX6_moveOneWay 96 = .ok (.iload_n 1, 1) := by decide +kernel
theorem dX6_moveOneWay_97 : decode cX6_moveOneWay 97 = .ok (.iastore, 1) := by decide +kernel
theorem dX6_moveOneWay_98 : decode cX6_moveOneWay 98 = .ok (.iload_n 3, 1) := by decide +kernel
theorem dX6_moveOneWay_99 : decode cX6_moveOneWay 99 = .ok (.ireturn, 1) := by decide +kernel
theorem dX6_deficitOf_0 : decode cX6_deficitOf 0 = .ok (.aload_n 0, 1) := by decide +kernel
theorem dX6_deficitOf_1 : decode cX6_deficitOf 1 = .ok (.getfield 19, 3) := by decide +kernel
theorem dX6_deficitOf_4 : decode cX6_deficitOf 4 = .ok (.getfield 185, 3) := by decide +kernel
theorem dX6_deficitOf_7 : decode cX6_deficitOf 7 = .ok (.iload_n 1, 1) := by decide +kernel
theorem dX6_deficitOf_8 : decode cX6_deficitOf 8 = .ok (.iaload, 1) := by decide +kernel
theorem dX6_deficitOf_9 : decode cX6_deficitOf 9 = .ok (.aload_n 0, 1) := by decide +kernel
theorem dX6_deficitOf_10 : decode cX6_deficitOf 10 = .ok (.getfield 12, 3) := by decide +kernel
theorem dX6_deficitOf_13 : decode cX6_deficitOf 13 = .ok (.getfield 61, 3) := by decide +kernel
theorem dX6_deficitOf_16 : decode cX6_deficitOf 16 = .ok (.iload_n 1, 1) := by decide +kernel
theorem dX6_deficitOf_17 : decode cX6_deficitOf 17 = .ok (.invokevirtual 144, 3) := by decide +kernel
theorem dX6_deficitOf_20 : decode cX6_deficitOf 20 = .ok (.isub, 1) := by decide +kernel
theorem dX6_deficitOf_21 : decode cX6_deficitOf 21 = .ok (.ireturn, 1) := by decide +kernel
theorem dX6_runCommand_0 : decode cX6_runCommand 0 = .ok (.aload_n 0, 1) := by decide +kernel
theorem dX6_runCommand_1 : decode cX6_runCommand 1 = .ok (.getfield 33, 3) := by decide +kernel
theorem dX6_runCommand_4 : decode cX6_runCommand 4 = .ok (.iload_n 1, 1) := by decide +kernel
theorem dX6_runCommand_5 : decode cX6_runCommand 5 = .ok (.invokevirtual 228, 3) := by decide +kernel
theorem dX6_runCommand_8 : decode cX6_runCommand 8 = .ok (.istore_n 2, 1) := by decide +kernel
theorem dX6_runCommand_9 : decode cX6_runCommand 9 = .ok (.iload_n 2, 1) := by decide +kernel
theorem dX6_runCommand_10 : decode cX6_runCommand 10 = .ok (.bipush 109, 2) := by decide +kernel
theorem dX6_runCommand_12 : decode cX6_runCommand 12 = .ok (.if_icmp .ne 11, 3) := by decide +kernel
theorem dX6_runCommand_15 : decode cX6_runCommand 15 = .ok (.aload_n 0, 1) := by decide +kernel
theorem dX6_runCommand_16 : decode cX6_runCommand 16 = .ok (.invokevirtual 71, 3) := by decide +kernel
theorem dX6_runCommand_19 : decode cX6_runCommand 19 = .ok (.pop, 1) := by decide +kernel
theorem dX6_runCommand_20 : decode cX6_runCommand 20 = .ok (.goto 102, 3) := by decide +kernel
theorem dX6_runCommand_23 : decode cX6_runCommand 23 = .ok (.iload_n 2, 1) := by decide +kernel
theorem dX6_runCommand_24 : decode cX6_runCommand 24 = .ok (.bipush 104, 2) := by decide +kernel
theorem dX6_runCommand_26 : decode cX6_runCommand 26 = .ok (.if_icmp .ne 16, 3) := by decide +kernel
theorem dX6_runCommand_29 : decode cX6_runCommand 29 = .ok (.aload_n 0, 1) := by decide +kernel
theorem dX6_runCommand_30 : decode cX6_runCommand 30 = .ok (.getfield 12, 3) := by decide +kernel
theorem dX6_runCommand_33 : decode cX6_runCommand 33 = .ok (.getfield 90, 3) := by decide +kernel
theorem dX6_runCommand_36 : decode cX6_runCommand 36 = .ok (.invokevirtual 94, 3) := by decide +kernel
theorem dX6_runCommand_39 : decode cX6_runCommand 39 = .ok (.goto 83, 3) := by decide +kernel
theorem dX6_runCommand_42 : decode cX6_runCommand 42 = .ok (.iload_n 2, 1) := by decide +kernel
theorem dX6_runCommand_43 : decode cX6_runCommand 43 = .ok (.bipush 102, 2) := by decide +kernel
theorem dX6_runCommand_45 : decode cX6_runCommand 45 = .ok (.if_icmp .ne 30, 3) := by decide +kernel
theorem dX6_runCommand_48 : decode cX6_runCommand 48 = .ok (.aload_n 0, 1) := by decide +kernel
theorem dX6_runCommand_49 : decode cX6_runCommand 49 = .ok (.getfield 12, 3) := by decide +kernel
theorem dX6_runCommand_52 : decode cX6_runCommand 52 = .ok (.getfield 61, 3) := by decide +kernel
theorem dX6_runCommand_55 : decode cX6_runCommand 55 = .ok (.aload_n 0, 1) := by decide +kernel
theorem dX6_runCommand_56 : decode cX6_runCommand 56 = .ok (.getfield 33, 3) := by decide +kernel
theorem dX6_runCommand_59 : decode cX6_runCommand 59 = .ok (.iload_n 1, 1) := by decide +kernel
theorem dX6_runCommand_60 : decode cX6_runCommand 60 = .ok (.iconst 1, 1) := by decide +kernel
theorem dX6_runCommand_61 : decode cX6_runCommand 61 = .ok (.iadd, 1) := by decide +kernel
theorem dX6_runCommand_62 : decode cX6_runCommand 62 = .ok (.invokevirtual 228, 3) := by decide +kernel
theorem dX6_runCommand_65 : decode cX6_runCommand 65 = .ok (.bipush 48, 2) := by decide +kernel
theorem dX6_runCommand_67 : decode cX6_runCommand 67 = .ok (.isub, 1) := by decide +kernel
theorem dX6_runCommand_68 : decode cX6_runCommand 68 = .ok (.invokevirtual 65, 3) := by decide +kernel
theorem dX6_runCommand_71 : decode cX6_runCommand 71 = .ok (.pop, 1) := by decide +kernel
theorem dX6_runCommand_72 : decode cX6_runCommand 72 = .ok (.goto 50, 3) := by decide +kernel
theorem dX6_runCommand_75 : decode cX6_runCommand 75 = .ok (.iload_n 2, 1) := by decide +kernel
theorem dX6_runCommand_76 : decode cX6_runCommand 76 = .ok (.bipush 48, 2) := by decide +kernel
theorem dX6_runCommand_78 : decode cX6_runCommand 78 = .ok (.isub, 1) := by decide +kernel
theorem dX6_runCommand_79 : decode cX6_runCommand 79 = .ok (.istore_n 3, 1) := by decide +kernel
theorem dX6_runCommand_80 : decode cX6_runCommand 80 = .ok (.aload_n 0, 1) := by decide +kernel
theorem dX6_runCommand_81 : decode cX6_runCommand 81 = .ok (.getfield 33, 3) := by decide +kernel
theorem dX6_runCommand_84 : decode cX6_runCommand 84 = .ok (.iload_n 1, 1) := by decide +kernel
theorem dX6_runCommand_85 : decode cX6_runCommand 85 = .ok (.iconst 2, 1) := by decide +kernel
theorem dX6_runCommand_86 : decode cX6_runCommand 86 = .ok (.iadd, 1) := by decide +kernel
theorem dX6_runCommand_87 : decode cX6_runCommand 87 = .ok (.invokevirtual 231, 3) := by decide +kernel
theorem dX6_runCommand_90 : decode cX6_runCommand 90 = .ok (.istore 4, 2) := by decide +kernel
theorem dX6_runCommand_92 : decode cX6_runCommand 92 = .ok (.iload_n 3, 1) := by decide +kernel
theorem dX6_runCommand_93 : decode cX6_runCommand 93 = .ok (.ifCond .lt 29, 3) := by decide +kernel
theorem dX6_runCommand_96 : decode cX6_runCommand 96 = .ok (.iload_n 3, 1) := by decide +kernel
theorem dX6_runCommand_97 : decode cX6_runCommand 97 = .ok (.iconst 4, 1) := by decide +kernel
theorem dX6_runCommand_98 : decode cX6_runCommand 98 = .ok (.if_icmp .ge 24, 3) := by decide +kernel
theorem dX6_runCommand_101 : decode cX6_runCommand 101 = .ok (.iload 4, 2) := by decide +kernel
theorem dX6_runCommand_103 : decode cX6_runCommand 103 = .ok (.ifCond .lt 19, 3) := by decide +kernel
theorem dX6_runCommand_106 : decode cX6_runCommand 106 = .ok (.iload 4, 2) := by decide +kernel
theorem dX6_runCommand_108 : decode cX6_runCommand 108 = .ok (.sipush 256, 3) := by decide +kernel
theorem dX6_runCommand_111 : decode cX6_runCommand 111 = .ok (.if_icmp .ge 11, 3) := by decide +kernel
theorem dX6_runCommand_114 : decode cX6_runCommand 114 = .ok (.aload_n 0, 1) := by decide +kernel
theorem dX6_runCommand_115 : decode cX6_runCommand 115 = .ok (.iload_n 3, 1) := by decide +kernel
theorem dX6_runCommand_116 : decode cX6_runCommand 116 = .ok (.iload 4, 2) := by decide +kernel
theorem dX6_runCommand_118 : decode cX6_runCommand 118 = .ok (.invokevirtual 57, 3) := by decide +kernel
theorem dX6_runCommand_121 : decode cX6_runCommand 121 = .ok (.ireturn, 1) := by decide +kernel
theorem dX6_runCommand_122 : decode cX6_runCommand 122 = .ok (.iconst (-1), 1) := by decide +kernel
theorem dX6_runCommand_123 : decode cX6_runCommand 123 = .ok (.ireturn, 1) := by decide +kernel
end
section
/-! Places: contracts. -/
section MP
theorem g_with {X : gX} {cs : List gC} {P : Prop} (head : Nat) (keep : List Nat) (Inv : Nat → List Value → List gE → Nat → Nat → Prop) (hc : cutOK X cs)
    (step : ∀ μ : Nat, cutOK X ((head, keep, fun vs es k n => ∃ ν, ν < μ ∧ Inv ν vs es k n) :: cs) → ∀ vs es k n, Inv μ vs es k n → G X head (keep.zip vs) [] es k n) (kk : cutOK X ((head, keep, fun vs es k n => ∃ ν, Inv ν vs es k n) :: cs) → P) : P := kk (g_loop head keep Inv hc step)
def cnt (p : Nat → Bool) : Nat → Nat
  | 0 => 0
  | n + 1 => if p n = true then cnt p n + 1 else cnt p n
theorem cnt_t {p : Nat → Bool} {n : Nat} (h : p n = true) : cnt p (n + 1) = cnt p n + 1 := if_pos h
theorem cnt_f {p : Nat → Bool} {n : Nat} (h : ¬ p n = true) : cnt p (n + 1) = cnt p n := if_neg h
theorem cnt_le (p : Nat → Bool) : ∀ n, cnt p n ≤ n
  | 0 => Nat.le_refl _
  | n + 1 => by
    have := cnt_le p n
    unfold cnt
    split <;> omega
theorem cnt_cong {p q : Nat → Bool} : ∀ {n : Nat}, (∀ j, j < n → p j = q j) → cnt p n = cnt q n
  | 0, _ => rfl
  | n + 1, h => by
    unfold cnt
    rw [h n (by omega), cnt_cong (fun j hj => h j (by omega))]
def sumN (f : Nat → Nat) : Nat → Nat
  | 0 => 0
  | n + 1 => sumN f n + f n
theorem sumN_cong {f g : Nat → Nat} : ∀ {n : Nat}, (∀ j, j < n → f j = g j) → sumN f n = sumN g n
  | 0, _ => rfl
  | n + 1, h => by
    unfold sumN
    rw [h n (by omega), sumN_cong (fun j hj => h j (by omega))]
/-- the first below n, else n -/
def fst1 (p : Nat → Bool) : Nat → Nat
  | 0 => 0
  | n + 1 => if fst1 p n < n then fst1 p n else if p n = true then n else n + 1
theorem fst1_le (p : Nat → Bool) : ∀ n, fst1 p n ≤ n
  | 0 => Nat.le_refl _
  | n + 1 => by
    have := fst1_le p n
    unfold fst1
    split
    · omega
    · split <;> omega
theorem fst1_none {p : Nat → Bool} : ∀ {n : Nat}, (∀ j, j < n → ¬ p j = true) → fst1 p n = n
  | 0, _ => rfl
  | n + 1, h => by
    have h1 := fst1_none (p := p) (n := n) (fun j hj => h j (by omega))
    unfold fst1
    rw [h1, if_neg (by omega), if_neg (h n (by omega))]
theorem fst1_eq {p : Nat → Bool} {i : Nat} (hi : p i = true) (h : ∀ j, j < i → ¬ p j = true) : ∀ {n : Nat}, i < n → fst1 p n = i
  | 0, hn => absurd hn (by omega)
  | n + 1, hn => by
    by_cases hin : i < n
    · have h1 := fst1_eq hi h hin
      unfold fst1
      rw [h1, if_pos hin]
    · have : i = n := by omega
      subst this
      have h1 := fst1_none (p := p) (n := i) h
      unfold fst1
      rw [h1, if_neg (by omega), if_pos hi]
theorem fst1_yes {p : Nat → Bool} : ∀ {n : Nat}, fst1 p n < n → p (fst1 p n) = true
  | 0, h => absurd h (Nat.not_lt_zero _)
  | n + 1, h => by
    unfold fst1 at h ⊢
    split
    · rename_i h1
      exact fst1_yes h1
    · rename_i h1
      rw [if_neg h1] at h
      split
      · rename_i h2
        exact h2
      · rename_i h2
        rw [if_neg h2] at h
        omega
theorem fst1_no {p : Nat → Bool} : ∀ {n j : Nat}, j < fst1 p n → ¬ p j = true
  | 0, j, h => absurd h (Nat.not_lt_zero _)
  | n + 1, j, h => by
    unfold fst1 at h
    split at h
    · exact fst1_no h
    · rename_i h1
      have hn : fst1 p n = n := by have := fst1_le p n; omega
      split at h
      · exact fst1_no (p := p) (n := n) (by omega)
      · rename_i h2
        by_cases hj : j < n
        · exact fst1_no (p := p) (n := n) (by omega)
        · have : j = n := by omega
          subst this
          exact h2
theorem fst1_cong {p q : Nat → Bool} : ∀ {n : Nat}, (∀ j, j < n → p j = q j) → fst1 p n = fst1 q n
  | 0, _ => rfl
  | n + 1, h => by
    unfold fst1
    rw [h n (by omega), fst1_cong (fun j hj => h j (by omega))]
def bI : Bool → Int32
  | true => nI 1
  | false => nI 0
theorem bI_ok (b : Bool) : bI b = 0 ∨ bI b = 1 := by cases b <;> decide
theorem bI_0 {b : Bool} : bI b = 0 ↔ b = false := by cases b <;> decide
-- the cells of a Places
abbrev plA (o : Nat) (ow hd st : Nat → Int32) : List gE := [.inr (3, [.ref (o + 1), .ref (o + 2), .ref (o + 3)]), .inl (0, 8, .inl ow), .inl (0, 32, .inl hd), .inl (0, 32, .inl st)]
abbrev plE (ow hd st : Nat → Int32) : List gE := plA 0 ow hd st
def fOwn (ow : Nat → Int32) (t : Int32) : Nat := cnt (fun w => decide (ow w = t)) 8
def sX3_ownedWays : gS := fun av es K => ∃ t ow hd st, av = [.ref 0, .int t] ∧ es = plE ow hd st ∧ K (some (.int (nI (fOwn ow t)))) es
def rmX3_ownedWays : Room := { frames := 0, cells := 0, slots := 0, locals := 0 }
def pX3_ownedWays (K : gK) : List (Nat × gO) := [(0, oConst (nI 0)), (1, oIStore 4 2), (2, oConst (nI 0)), (3, oIStore 4 3), (4, oILoad 3), (5, oConst (nI 8)), (7, oICmp_ge 29), (10, oALoad 0), (11, oGet 3 0), (14, oILoad 3), (15, oIALd 0), (16, oILoad 1), (17, oICmp_ne 23), (20, oIInc 4 2 (nI 1)), (23, oIInc 4 3 (nI 1)), (26, oGoto 4), (29, oILoad 2), (30, oRet K 0 0)]
set_option maxRecDepth 100000 in
theorem kX3_ownedWays {X : gX} {l : Launch} (hM : gM X l cX3_ownedWays RX3 wsX3_ownedWays rmX3_ownedWays) {K : gK} (hE : gR X K 0 0 (some .int)) (hnL : X.2.2.2.2.2.2.2.2.2.2.2.2.2.2.2.2 = 4) : okL X (pX3_ownedWays K) := by
  obtain ⟨p, l1, e, R, s, m, args, below, meth, c, D, cA, A, ag, ad0, Q, nL⟩ := X
  cases hnL
  refine ⟨ok_iconst hM dX3_ownedWays_0 rfl,
    ok_istore_n hM 2 dX3_ownedWays_1 rfl,
    ok_iconst hM dX3_ownedWays_2 rfl,
    ok_istore_n hM 3 dX3_ownedWays_3 rfl,
    ok_iload_n hM 3 dX3_ownedWays_4 rfl,
    ok_bipush hM dX3_ownedWays_5 rfl,
    ok_icmp_ge hM 29 dX3_ownedWays_7 (by decide),
    ok_aload_n hM 0 dX3_ownedWays_10 rfl,
    ok_get (C := RX3) (T := TX3) (Nf := 3) hM (fun _ h => List.mem_cons_of_mem _ (List.mem_append_right _ h)) rfl 0 (by decide) (List.mem_of_getElem? (i := 1) rfl) rfl dX3_ownedWays_11,
    ok_iload_n hM 3 dX3_ownedWays_14 rfl,
    ok_iald hM dX3_ownedWays_15,
    ok_iload_n hM 1 dX3_ownedWays_16 rfl,
    ok_icmp_ne hM 23 dX3_ownedWays_17 (by decide),
    ok_iinc hM 2 dX3_ownedWays_20 rfl,
    ok_iinc hM 3 dX3_ownedWays_23 rfl,
    ok_goto hM 4 dX3_ownedWays_26 (by decide),
    ok_iload_n hM 2 dX3_ownedWays_29 rfl,
    ok_ret hM hE dX3_ownedWays_30,
    trivial⟩
theorem ctX3_ownedWays (l : Launch) : Ct l yX3_ownedWays wsX3_ownedWays rmX3_ownedWays 0 0 false sX3_ownedWays := by
  refine ct_of (own := RX3) (cc := cX3_ownedWays) (maxL := 4) (ret := some .int) (by decide) rfl rfl (by rintro _ _ _ ⟨t, ow, hd, st, rfl, -⟩; exact Nat.le_of_ble_eq_true rfl) ?_
  intro X av es K hM hE _ _ hnL hsp
  obtain ⟨t, ow, hd, st, rfl, rfl, hK⟩ := hsp
  have hf := kX3_ownedWays hM hE hnL
  refine g_with (X := X) 4 [0, 1, 2, 3] (fun μ vs es k n => ∃ i : Nat, μ = 8 - i ∧ i ≤ 8 ∧ vs = [.ref 0, .int t, .int (nI (cnt (fun w => decide (ow w = t)) i)), .int (nI i)] ∧ es = plE ow hd st ∧ k = 0 ∧ n = 0) cut_nil (fun μ hc vs es k n hI => ?_) (fun hc => ?_)
  · obtain ⟨i, rfl, hi, rfl, rfl, rfl, rfl⟩ := hI
    refine g_go hf hc 5 ?_
    refine ⟨fun h => ?_, fun h => ?_⟩
    · have : i = 8 := by
        rw [nI_leI (by decide) (by omega)] at h
        omega
      subst this
      exact hK
    · rw [nI_leI (by decide) (by omega)] at h
      refine ⟨i, rfl, by omega, ?_⟩
      refine ⟨fun h2 => ?_, fun h2 => ?_⟩
      · exact ⟨8 - (i + 1), by omega, i + 1, rfl, by omega, by rw [nI_add, cnt_f (by simpa using h2)], rfl, rfl, rfl⟩
      · exact ⟨8 - (i + 1), by omega, i + 1, rfl, by omega, by rw [nI_add, nI_add, cnt_t (by simpa using h2)], rfl, rfl, rfl⟩
  · refine wr_ok hf hc 5 0 _ _ _ _ _ ?_
    exact ⟨8, 0, rfl, by omega, rfl, rfl, rfl, rfl⟩
theorem rem4 {a : Nat} (h : a < 256) : nI a - nI a / nI 4 * nI 4 = nI (a % 4) := pk_rem (by omega) (by decide) (by decide)
theorem first4 {a : Nat} (h : a < 256) : (nI a - nI a / nI 4 * nI 4) * nI 8 = nI (a % 4 * 8) := by rw [rem4 h, pk_mul]
def plV (fs i : Nat) : Int32 := if i < 8 then nI (fs + i) else -1
def fF (hd : Nat → Int32) (x : Int32) (fs : Nat) : Nat := fst1 (fun w => decide (hd (fs + w) = x)) 8
def sX3_placeOf : gS := fun av es K => ∃ t x a ow hd st, av = [.ref 0, .int t, .int x] ∧ x = nI a ∧ a < 256 ∧ es = plE ow hd st ∧ K (some (.int (plV (a % 4 * 8) (fF hd (t * nI 256 + x) (a % 4 * 8))))) es
def rmX3_placeOf : Room := { frames := 0, cells := 0, slots := 0, locals := 0 }
def pX3_placeOf (K : gK) : List (Nat × gO) := [(0, oILoad 2), (1, oConst (nI 4)), (2, oRem), (3, oConst (nI 8)), (5, oMul), (6, oIStore 5 3), (7, oConst (nI 0)), (8, oIStore 5 4), (10, oILoad 4), (12, oConst (nI 8)), (14, oICmp_ge 47), (17, oALoad 0), (18, oGet 3 1), (21, oILoad 3), (22, oILoad 4), (24, oAdd), (25, oIALd 0), (26, oILoad 1), (27, oConst (nI 256)), (30, oMul), (31, oILoad 2), (32, oAdd), (33, oICmp_ne 41), (36, oILoad 3), (37, oILoad 4), (39, oAdd), (40, oRet K 0 0), (41, oIInc 5 4 (nI 1)), (44, oGoto 10), (47, oConst (-1)), (48, oRet K 0 0)]
set_option maxRecDepth 100000 in
theorem kX3_placeOf {X : gX} {l : Launch} (hM : gM X l cX3_placeOf RX3 wsX3_placeOf rmX3_placeOf) {K : gK} (hE : gR X K 0 0 (some .int)) (hnL : X.2.2.2.2.2.2.2.2.2.2.2.2.2.2.2.2 = 5) : okL X (pX3_placeOf K) := by
  obtain ⟨p, l1, e, R, s, m, args, below, meth, c, D, cA, A, ag, ad0, Q, nL⟩ := X
  cases hnL
  refine ⟨ok_iload_n hM 2 dX3_placeOf_0 rfl,
    ok_iconst hM dX3_placeOf_1 rfl,
    ok_irem hM dX3_placeOf_2,
    ok_bipush hM dX3_placeOf_3 rfl,
    ok_imul hM dX3_placeOf_5,
    ok_istore_n hM 3 dX3_placeOf_6 rfl,
    ok_iconst hM dX3_placeOf_7 rfl,
    ok_istore hM 4 dX3_placeOf_8,
    ok_iload hM 4 dX3_placeOf_10,
    ok_bipush hM dX3_placeOf_12 rfl,
    ok_icmp_ge hM 47 dX3_placeOf_14 (by decide),
    ok_aload_n hM 0 dX3_placeOf_17 rfl,
    ok_get (C := RX3) (T := TX3) (Nf := 3) hM (fun _ h => List.mem_cons_of_mem _ (List.mem_append_right _ h)) rfl 1 (by decide) (List.mem_of_getElem? (i := 1) rfl) rfl dX3_placeOf_18,
    ok_iload_n hM 3 dX3_placeOf_21 rfl,
    ok_iload hM 4 dX3_placeOf_22,
    ok_iadd hM dX3_placeOf_24,
    ok_iald hM dX3_placeOf_25,
    ok_iload_n hM 1 dX3_placeOf_26 rfl,
    ok_sipush hM dX3_placeOf_27 rfl,
    ok_imul hM dX3_placeOf_30,
    ok_iload_n hM 2 dX3_placeOf_31 rfl,
    ok_iadd hM dX3_placeOf_32,
    ok_icmp_ne hM 41 dX3_placeOf_33 (by decide),
    ok_iload_n hM 3 dX3_placeOf_36 rfl,
    ok_iload hM 4 dX3_placeOf_37,
    ok_iadd hM dX3_placeOf_39,
    ok_ret hM hE dX3_placeOf_40,
    ok_iinc hM 4 dX3_placeOf_41 rfl,
    ok_goto hM 10 dX3_placeOf_44 (by decide),
    ok_iconst hM dX3_placeOf_47 rfl,
    ok_ret hM hE dX3_placeOf_48,
    trivial⟩
theorem ctX3_placeOf (l : Launch) : Ct l yX3_placeOf wsX3_placeOf rmX3_placeOf 0 0 false sX3_placeOf := by
  refine ct_of (own := RX3) (cc := cX3_placeOf) (maxL := 5) (ret := some .int) (by decide) rfl rfl (by rintro _ _ _ ⟨t, x, a, ow, hd, st, rfl, -⟩; exact Nat.le_of_ble_eq_true rfl) ?_
  intro X av es K hM hE _ _ hnL hsp
  obtain ⟨t, x, a, ow, hd, st, rfl, rfl, ha, rfl, hK⟩ := hsp
  have hf := kX3_placeOf hM hE hnL
  refine g_with (X := X) 10 [0, 1, 2, 3, 4] (fun μ vs es k n => ∃ i : Nat, μ = 8 - i ∧ i ≤ 8 ∧ (∀ j, j < i → ¬ hd (a % 4 * 8 + j) = t * nI 256 + nI a) ∧ vs = [.ref 0, .int t, .int (nI a), .int (nI (a % 4 * 8)), .int (nI i)] ∧ es = plE ow hd st ∧ k = 0 ∧ n = 0) cut_nil (fun μ hc vs es k n hI => ?_) (fun hc => ?_)
  · obtain ⟨i, rfl, hi, hno, rfl, rfl, rfl, rfl⟩ := hI
    refine g_go hf hc 5 ?_
    refine ⟨fun h => ?_, fun h => ?_⟩
    · have : i = 8 := by
        rw [nI_leI (by decide) (by omega)] at h
        omega
      subst this
      have e : fF hd (t * nI 256 + nI a) (a % 4 * 8) = 8 := fst1_none (fun j hj => by simpa using hno j hj)
      rw [e] at hK
      exact hK
    · rw [nI_leI (by decide) (by omega)] at h
      refine ⟨a % 4 * 8 + i, nI_add _ _, by omega, ?_⟩
      refine ⟨fun h2 => ?_, fun h2 => ?_⟩
      · refine ⟨8 - (i + 1), by omega, i + 1, rfl, by omega, fun j hj => ?_, by rw [nI_add], rfl, rfl, rfl⟩
        by_cases hj2 : j = i
        · rw [hj2]; exact h2
        · exact hno j (by omega)
      · have e : fF hd (t * nI 256 + nI a) (a % 4 * 8) = i := fst1_eq (by simpa using h2) (fun j hj => by simpa using hno j hj) (by omega)
        rw [e, plV, if_pos (by omega), ← nI_add] at hK
        exact hK
  · refine wr_ok hf hc 5 0 _ _ _ _ _ ?_
    refine ⟨by decide, ?_⟩
    exact ⟨8, 0, rfl, by omega, fun j hj => absurd hj (by omega), by rw [first4 ha], rfl, rfl, rfl⟩
theorem plV_ne {fs i : Nat} (h : fs + i < 2 ^ 31) : plV fs i = -1 ↔ ¬ i < 8 := by
  unfold plV
  split
  · rename_i h1
    refine ⟨fun h2 => ?_, fun h2 => absurd h1 h2⟩
    have : ¬ nI (fs + i) < 0 := nI_pos h
    rw [h2] at this
    exact absurd (by decide) this
  · rename_i h1
    exact ⟨fun _ => h1, fun _ => rfl⟩
theorem fF_le (hd : Nat → Int32) (x : Int32) (fs : Nat) : fF hd x fs ≤ 8 := fst1_le _ _
def rsl (ow hd : Nat → Int32) (t : Int32) (a : Nat) : Nat := if fF hd (t * nI 256 + nI a) (a % 4 * 8) < 8 then 1 else if fOwn ow t = 0 then 2 else 0
def sX3_resultOf : gS := fun av es K => ∃ t x a ow hd st, av = [.ref 0, .int t, .int x] ∧ x = nI a ∧ a < 256 ∧ es = plE ow hd st ∧ K (some (.int (nI (rsl ow hd t a)))) es
def rmX3_resultOf : Room := { frames := 1, cells := 0, slots := 0, locals := 24 }
def pX3_resultOf (K : gK) : List (Nat × gO) := [(0, oALoad 0), (1, oILoad 1), (2, oILoad 2), (3, oCallV 0 0 3 2 [0,1,2,3] sX3_placeOf), (6, oConst (-1)), (7, oICmp_eq 12), (10, oConst (nI 1)), (11, oRet K 0 0), (12, oALoad 0), (13, oILoad 1), (14, oCallV 0 0 3 1 [0,1,2,3] sX3_ownedWays), (17, oIf_ne 24), (20, oConst (nI 2)), (21, oGoto 25), (24, oConst (nI 0)), (25, oRet K 0 0)]
set_option maxRecDepth 100000 in
theorem kX3_resultOf {X : gX} {l : Launch} (hM : gM X l cX3_resultOf RX3 wsX3_resultOf rmX3_resultOf) {K : gK} (hE : gR X K 0 0 (some .int)) (hnL : X.2.2.2.2.2.2.2.2.2.2.2.2.2.2.2.2 = 3) : okL X (pX3_resultOf K) := by
  obtain ⟨p, l1, e, R, s, m, args, below, meth, c, D, cA, A, ag, ad0, Q, nL⟩ := X
  cases hnL
  refine ⟨ok_aload_n hM 0 dX3_resultOf_0 rfl,
    ok_iload_n hM 1 dX3_resultOf_1 rfl,
    ok_iload_n hM 2 dX3_resultOf_2 rfl,
    ok_callV hM [0,1,2,3] (ctX3_placeOf l) rfl rfl gX3_resultOf_X3_placeOf rfl rfl rfl (by decide +kernel) (by decide) dX3_resultOf_3,
    ok_iconst hM dX3_resultOf_6 rfl,
    ok_icmp_eq hM 12 dX3_resultOf_7 (by decide),
    ok_iconst hM dX3_resultOf_10 rfl,
    ok_ret hM hE dX3_resultOf_11,
    ok_aload_n hM 0 dX3_resultOf_12 rfl,
    ok_iload_n hM 1 dX3_resultOf_13 rfl,
    ok_callV hM [0,1,2,3] (ctX3_ownedWays l) rfl rfl gX3_resultOf_X3_ownedWays rfl rfl rfl (by decide +kernel) (by decide) dX3_resultOf_14,
    ok_if_ne hM 24 dX3_resultOf_17 (by decide),
    ok_iconst hM dX3_resultOf_20 rfl,
    ok_goto hM 25 dX3_resultOf_21 (by decide),
    ok_iconst hM dX3_resultOf_24 rfl,
    ok_ret hM hE dX3_resultOf_25,
    trivial⟩
theorem ctX3_resultOf (l : Launch) : Ct l yX3_resultOf wsX3_resultOf rmX3_resultOf 0 0 false sX3_resultOf := by
  refine ct_of (own := RX3) (cc := cX3_resultOf) (maxL := 3) (ret := some .int) (by decide) rfl rfl (by rintro _ _ _ ⟨t, x, a, ow, hd, st, rfl, -⟩; exact Nat.le_of_ble_eq_true rfl) ?_
  intro X av es K hM hE _ _ hnL hsp
  obtain ⟨t, x, a, ow, hd, st, rfl, rfl, ha, rfl, hK⟩ := hsp
  have hf := kX3_resultOf hM hE hnL
  refine wr_ok hf cut_nil 5 0 _ _ _ _ _ ?_
  have hle := fF_le hd (t * nI 256 + nI a) (a % 4 * 8)
  refine ⟨t, _, a, ow, hd, st, rfl, rfl, ha, rfl, ?_⟩
  refine ⟨fun h => ?_, fun h => ?_⟩
  · rw [plV_ne (by omega)] at h
    refine ⟨t, ow, hd, st, rfl, rfl, ?_⟩
    unfold rsl at hK
    rw [if_neg h] at hK
    have ho : fOwn ow t ≤ 8 := cnt_le _ _
    refine ⟨fun h2 => ?_, fun h2 => ?_⟩
    · have : ¬ fOwn ow t = 0 := fun q => h2 (by rw [q]; rfl)
      rw [if_neg this] at hK
      exact hK
    · have : fOwn ow t = 0 := (nI_eq (by omega) (by decide)).mp h2
      rw [if_pos this] at hK
      exact hK
  · have h1 : fF hd (t * nI 256 + nI a) (a % 4 * 8) < 8 := Decidable.of_not_not (fun q => h ((plV_ne (by omega)).mpr q))
    unfold rsl at hK
    rw [if_pos h1] at hK
    exact hK
def sX3_renew : gS := fun av es K => ∃ t x a z ow hd st, av = [.ref 0, .int t, .int x, .int z] ∧ x = nI a ∧ a < 256 ∧ es = plE ow hd st ∧ K none (plE ow hd (if fF hd (t * nI 256 + nI a) (a % 4 * 8) < 8 then upd st (a % 4 * 8 + fF hd (t * nI 256 + nI a) (a % 4 * 8)) z else st))
def rmX3_renew : Room := { frames := 1, cells := 0, slots := 0, locals := 24 }
def pX3_renew (K : gK) : List (Nat × gO) := [(0, oALoad 0), (1, oILoad 1), (2, oILoad 2), (3, oCallV 0 0 3 2 [0,1,2,3] sX3_placeOf), (6, oIStore 5 4), (8, oILoad 4), (10, oConst (-1)), (11, oICmp_eq 22), (14, oALoad 0), (15, oGet 3 2), (18, oILoad 4), (20, oILoad 3), (21, oIASt), (22, oRetV K 0 0)]
set_option maxRecDepth 100000 in
theorem kX3_renew {X : gX} {l : Launch} (hM : gM X l cX3_renew RX3 wsX3_renew rmX3_renew) {K : gK} (hE : gR X K 0 0 none) (hnL : X.2.2.2.2.2.2.2.2.2.2.2.2.2.2.2.2 = 5) : okL X (pX3_renew K) := by
  obtain ⟨p, l1, e, R, s, m, args, below, meth, c, D, cA, A, ag, ad0, Q, nL⟩ := X
  cases hnL
  refine ⟨ok_aload_n hM 0 dX3_renew_0 rfl,
    ok_iload_n hM 1 dX3_renew_1 rfl,
    ok_iload_n hM 2 dX3_renew_2 rfl,
    ok_callV hM [0,1,2,3] (ctX3_placeOf l) rfl rfl gX3_renew_X3_placeOf rfl rfl rfl (by decide +kernel) (by decide) dX3_renew_3,
    ok_istore hM 4 dX3_renew_6,
    ok_iload hM 4 dX3_renew_8,
    ok_iconst hM dX3_renew_10 rfl,
    ok_icmp_eq hM 22 dX3_renew_11 (by decide),
    ok_aload_n hM 0 dX3_renew_14 rfl,
    ok_get (C := RX3) (T := TX3) (Nf := 3) hM (fun _ h => List.mem_cons_of_mem _ (List.mem_append_right _ h)) rfl 2 (by decide) (List.mem_of_getElem? (i := 1) rfl) rfl dX3_renew_15,
    ok_iload hM 4 dX3_renew_18,
    ok_iload_n hM 3 dX3_renew_20 rfl,
    ok_iast hM dX3_renew_21,
    ok_retV hM hE dX3_renew_22,
    trivial⟩
theorem ctX3_renew (l : Launch) : Ct l yX3_renew wsX3_renew rmX3_renew 0 0 false sX3_renew := by
  refine ct_of (own := RX3) (cc := cX3_renew) (maxL := 5) (ret := none) (by decide) rfl rfl (by rintro _ _ _ ⟨t, x, a, z, ow, hd, st, rfl, rfl, ha, rfl, hK⟩; exact Nat.le_of_ble_eq_true rfl) ?_
  intro X av es K hM hE hag hin hnL hsp
  obtain ⟨t, x, a, z, ow, hd, st, rfl, rfl, ha, rfl, hK⟩ := hsp
  have hf := kX3_renew hM hE hnL
  refine wr_ok hf cut_nil 5 0 _ _ _ _ _ ?_
  have hle := fF_le hd (t * nI 256 + nI a) (a % 4 * 8)
  refine ⟨t, _, a, ow, hd, st, rfl, rfl, ha, rfl, ?_⟩
  refine ⟨fun h => ?_, fun h => ?_⟩
  · rw [plV_ne (by omega)] at h
    rw [if_neg h] at hK
    exact hK
  · have h1 : fF hd (t * nI 256 + nI a) (a % 4 * 8) < 8 := Decidable.of_not_not (fun q => h ((plV_ne (by omega)).mpr q))
    rw [if_pos h1] at hK
    refine ⟨a % 4 * 8 + fF hd (t * nI 256 + nI a) (a % 4 * 8), if_pos h1, by omega, ?_⟩
    exact hK
def hol (hd : Nat → Int32) (t : Int32) (q : Nat) : Bool := decide (¬ hd q = -1) && decide (hd q / nI 256 = t)
def sX3_holdsLineOf : gS := fun av es K => ∃ t x q ow hd st, av = [.ref 0, .int t, .int x] ∧ x = nI q ∧ q < 32 ∧ es = plE ow hd st ∧ K (some (.int (bI (hol hd t q)))) es
def rmX3_holdsLineOf : Room := { frames := 0, cells := 0, slots := 0, locals := 0 }
def pX3_holdsLineOf (K : gK) : List (Nat × gO) := [(0, oALoad 0), (1, oGet 3 1), (4, oILoad 2), (5, oIALd 0), (6, oConst (-1)), (7, oICmp_eq 28), (10, oALoad 0), (11, oGet 3 1), (14, oILoad 2), (15, oIALd 0), (16, oConst (nI 256)), (19, oDiv), (20, oILoad 1), (21, oICmp_ne 28), (24, oConst (nI 1)), (25, oGoto 29), (28, oConst (nI 0)), (29, oRetZ K 0 0)]
set_option maxRecDepth 100000 in
theorem kX3_holdsLineOf {X : gX} {l : Launch} (hM : gM X l cX3_holdsLineOf RX3 wsX3_holdsLineOf rmX3_holdsLineOf) {K : gK} (hE : gR X K 0 0 (some .boolean)) (hnL : X.2.2.2.2.2.2.2.2.2.2.2.2.2.2.2.2 = 3) : okL X (pX3_holdsLineOf K) := by
  obtain ⟨p, l1, e, R, s, m, args, below, meth, c, D, cA, A, ag, ad0, Q, nL⟩ := X
  cases hnL
  refine ⟨ok_aload_n hM 0 dX3_holdsLineOf_0 rfl,
    ok_get (C := RX3) (T := TX3) (Nf := 3) hM (fun _ h => List.mem_cons_of_mem _ (List.mem_append_right _ h)) rfl 1 (by decide) (List.mem_of_getElem? (i := 1) rfl) rfl dX3_holdsLineOf_1,
    ok_iload_n hM 2 dX3_holdsLineOf_4 rfl,
    ok_iald hM dX3_holdsLineOf_5,
    ok_iconst hM dX3_holdsLineOf_6 rfl,
    ok_icmp_eq hM 28 dX3_holdsLineOf_7 (by decide),
    ok_aload_n hM 0 dX3_holdsLineOf_10 rfl,
    ok_get (C := RX3) (T := TX3) (Nf := 3) hM (fun _ h => List.mem_cons_of_mem _ (List.mem_append_right _ h)) rfl 1 (by decide) (List.mem_of_getElem? (i := 1) rfl) rfl dX3_holdsLineOf_11,
    ok_iload_n hM 2 dX3_holdsLineOf_14 rfl,
    ok_iald hM dX3_holdsLineOf_15,
    ok_sipush hM dX3_holdsLineOf_16 rfl,
    ok_idiv hM dX3_holdsLineOf_19,
    ok_iload_n hM 1 dX3_holdsLineOf_20 rfl,
    ok_icmp_ne hM 28 dX3_holdsLineOf_21 (by decide),
    ok_iconst hM dX3_holdsLineOf_24 rfl,
    ok_goto hM 29 dX3_holdsLineOf_25 (by decide),
    ok_iconst hM dX3_holdsLineOf_28 rfl,
    ok_retZ hM hE dX3_holdsLineOf_29,
    trivial⟩
theorem ctX3_holdsLineOf (l : Launch) : Ct l yX3_holdsLineOf wsX3_holdsLineOf rmX3_holdsLineOf 0 0 false sX3_holdsLineOf := by
  refine ct_of (own := RX3) (cc := cX3_holdsLineOf) (maxL := 3) (ret := (some .boolean)) (by decide) rfl rfl (by rintro _ _ _ ⟨t, x, q, ow, hd, st, rfl, rfl, hq, rfl, hK⟩; exact Nat.le_of_ble_eq_true rfl) ?_
  intro X av es K hM hE hag hin hnL hsp
  obtain ⟨t, x, q, ow, hd, st, rfl, rfl, hq, rfl, hK⟩ := hsp
  have hf := kX3_holdsLineOf hM hE hnL
  refine wr_ok hf cut_nil 5 0 _ _ _ _ _ ?_
  refine ⟨q, rfl, hq, ?_⟩
  refine ⟨fun h => ?_, fun h => ?_⟩
  · have e : hol hd t q = false := by simp [hol, h]
    rw [e] at hK
    exact ⟨by decide, hK⟩
  · refine ⟨q, rfl, hq, ?_⟩
    refine ⟨by decide, ?_⟩
    refine ⟨fun h2 => ?_, fun h2 => ?_⟩
    · have e : hol hd t q = false := by simp [hol, h2]
      rw [e] at hK
      exact ⟨by decide, hK⟩
    · have e : hol hd t q = true := by simp [hol, h, h2]
      rw [e] at hK
      exact ⟨by decide, hK⟩
def lnW (hd : Nat → Int32) (t : Int32) (w : Nat) : Nat := cnt (fun s => hol hd t (s * 8 + w)) 4
def sX3_linesInWay : gS := fun av es K => ∃ t x w ow hd st, av = [.ref 0, .int t, .int x] ∧ x = nI w ∧ w < 8 ∧ es = plE ow hd st ∧ K (some (.int (nI (lnW hd t w)))) es
def rmX3_linesInWay : Room := { frames := 1, cells := 0, slots := 0, locals := 22 }
def pX3_linesInWay (K : gK) : List (Nat × gO) := [(0, oConst (nI 0)), (1, oIStore 5 3), (2, oConst (nI 0)), (3, oIStore 5 4), (5, oILoad 4), (7, oConst (nI 4)), (8, oICmp_ge 35), (11, oALoad 0), (12, oILoad 1), (13, oILoad 4), (15, oConst (nI 8)), (17, oMul), (18, oILoad 2), (19, oAdd), (20, oCallV 0 0 3 2 [0,1,2,3] sX3_holdsLineOf), (23, oIf_eq 29), (26, oIInc 5 3 (nI 1)), (29, oIInc 5 4 (nI 1)), (32, oGoto 5), (35, oILoad 3), (36, oRet K 0 0)]
set_option maxRecDepth 100000 in
theorem kX3_linesInWay {X : gX} {l : Launch} (hM : gM X l cX3_linesInWay RX3 wsX3_linesInWay rmX3_linesInWay) {K : gK} (hE : gR X K 0 0 (some .int)) (hnL : X.2.2.2.2.2.2.2.2.2.2.2.2.2.2.2.2 = 5) : okL X (pX3_linesInWay K) := by
  obtain ⟨p, l1, e, R, s, m, args, below, meth, c, D, cA, A, ag, ad0, Q, nL⟩ := X
  cases hnL
  refine ⟨ok_iconst hM dX3_linesInWay_0 rfl,
    ok_istore_n hM 3 dX3_linesInWay_1 rfl,
    ok_iconst hM dX3_linesInWay_2 rfl,
    ok_istore hM 4 dX3_linesInWay_3,
    ok_iload hM 4 dX3_linesInWay_5,
    ok_iconst hM dX3_linesInWay_7 rfl,
    ok_icmp_ge hM 35 dX3_linesInWay_8 (by decide),
    ok_aload_n hM 0 dX3_linesInWay_11 rfl,
    ok_iload_n hM 1 dX3_linesInWay_12 rfl,
    ok_iload hM 4 dX3_linesInWay_13,
    ok_bipush hM dX3_linesInWay_15 rfl,
    ok_imul hM dX3_linesInWay_17,
    ok_iload_n hM 2 dX3_linesInWay_18 rfl,
    ok_iadd hM dX3_linesInWay_19,
    ok_callV hM [0,1,2,3] (ctX3_holdsLineOf l) rfl rfl gX3_linesInWay_X3_holdsLineOf rfl rfl rfl (by decide +kernel) (by decide) dX3_linesInWay_20,
    ok_if_eq hM 29 dX3_linesInWay_23 (by decide),
    ok_iinc hM 3 dX3_linesInWay_26 rfl,
    ok_iinc hM 4 dX3_linesInWay_29 rfl,
    ok_goto hM 5 dX3_linesInWay_32 (by decide),
    ok_iload_n hM 3 dX3_linesInWay_35 rfl,
    ok_ret hM hE dX3_linesInWay_36,
    trivial⟩
theorem ctX3_linesInWay (l : Launch) : Ct l yX3_linesInWay wsX3_linesInWay rmX3_linesInWay 0 0 false sX3_linesInWay := by
  refine ct_of (own := RX3) (cc := cX3_linesInWay) (maxL := 5) (ret := (some .int)) (by decide) rfl rfl (by rintro _ _ _ ⟨t, x, w, ow, hd, st, rfl, rfl, hw, rfl, hK⟩; exact Nat.le_of_ble_eq_true rfl) ?_
  intro X av es K hM hE hag hin hnL hsp
  obtain ⟨t, x, w, ow, hd, st, rfl, rfl, hw, rfl, hK⟩ := hsp
  have hf := kX3_linesInWay hM hE hnL
  refine g_with (X := X) 5 [0, 1, 2, 3, 4] (fun μ vs es k n => ∃ i : Nat, μ = 4 - i ∧ i ≤ 4 ∧ vs = [.ref 0, .int t, .int (nI w), .int (nI (cnt (fun s => hol hd t (s * 8 + w)) i)), .int (nI i)] ∧ es = plE ow hd st ∧ k = 0 ∧ n = 0) cut_nil (fun μ hc vs es k n hI => ?_) (fun hc => ?_)
  · obtain ⟨i, rfl, hi, rfl, rfl, rfl, rfl⟩ := hI
    refine g_go hf hc 5 ?_
    refine ⟨fun h => ?_, fun h => ?_⟩
    · have : i = 4 := by
        rw [nI_leI (by decide) (by omega)] at h
        omega
      subst this
      exact hK
    · rw [nI_leI (by decide) (by omega)] at h
      refine ⟨t, _, i * 8 + w, ow, hd, st, rfl, by rw [pk_mul, nI_add], by omega, rfl, ?_⟩
      refine ⟨fun h2 => ?_, fun h2 => ?_⟩
      · exact ⟨4 - (i + 1), by omega, i + 1, rfl, by omega, by rw [nI_add, cnt_f (by rw [bI_0] at h2; simpa using h2)], rfl, rfl, rfl⟩
      · exact ⟨4 - (i + 1), by omega, i + 1, rfl, by omega, by rw [nI_add, nI_add, cnt_t (by rw [bI_0] at h2; simpa using h2)], rfl, rfl, rfl⟩
  · refine wr_ok hf hc 5 0 _ _ _ _ _ ?_
    exact ⟨4, 0, rfl, by omega, rfl, rfl, rfl, rfl⟩
theorem lnW_le (hd : Nat → Int32) (t : Int32) (w : Nat) : lnW hd t w ≤ 4 := cnt_le _ _
def sX3_linesOf : gS := fun av es K => ∃ t ow hd st, av = [.ref 0, .int t] ∧ es = plE ow hd st ∧ K (some (.int (nI (sumN (lnW hd t) 8)))) es
def rmX3_linesOf : Room := { frames := 2, cells := 0, slots := 0, locals := 46 }
def pX3_linesOf (K : gK) : List (Nat × gO) := [(0, oConst (nI 0)), (1, oIStore 4 2), (2, oConst (nI 0)), (3, oIStore 4 3), (4, oILoad 3), (5, oConst (nI 8)), (7, oICmp_ge 25), (10, oILoad 2), (11, oALoad 0), (12, oILoad 1), (13, oILoad 3), (14, oCallV 0 0 3 2 [0,1,2,3] sX3_linesInWay), (17, oAdd), (18, oIStore 4 2), (19, oIInc 4 3 (nI 1)), (22, oGoto 4), (25, oILoad 2), (26, oRet K 0 0)]
set_option maxRecDepth 100000 in
theorem kX3_linesOf {X : gX} {l : Launch} (hM : gM X l cX3_linesOf RX3 wsX3_linesOf rmX3_linesOf) {K : gK} (hE : gR X K 0 0 (some .int)) (hnL : X.2.2.2.2.2.2.2.2.2.2.2.2.2.2.2.2 = 4) : okL X (pX3_linesOf K) := by
  obtain ⟨p, l1, e, R, s, m, args, below, meth, c, D, cA, A, ag, ad0, Q, nL⟩ := X
  cases hnL
  refine ⟨ok_iconst hM dX3_linesOf_0 rfl,
    ok_istore_n hM 2 dX3_linesOf_1 rfl,
    ok_iconst hM dX3_linesOf_2 rfl,
    ok_istore_n hM 3 dX3_linesOf_3 rfl,
    ok_iload_n hM 3 dX3_linesOf_4 rfl,
    ok_bipush hM dX3_linesOf_5 rfl,
    ok_icmp_ge hM 25 dX3_linesOf_7 (by decide),
    ok_iload_n hM 2 dX3_linesOf_10 rfl,
    ok_aload_n hM 0 dX3_linesOf_11 rfl,
    ok_iload_n hM 1 dX3_linesOf_12 rfl,
    ok_iload_n hM 3 dX3_linesOf_13 rfl,
    ok_callV hM [0,1,2,3] (ctX3_linesInWay l) rfl rfl gX3_linesOf_X3_linesInWay rfl rfl rfl (by decide +kernel) (by decide) dX3_linesOf_14,
    ok_iadd hM dX3_linesOf_17,
    ok_istore_n hM 2 dX3_linesOf_18 rfl,
    ok_iinc hM 3 dX3_linesOf_19 rfl,
    ok_goto hM 4 dX3_linesOf_22 (by decide),
    ok_iload_n hM 2 dX3_linesOf_25 rfl,
    ok_ret hM hE dX3_linesOf_26,
    trivial⟩
theorem ctX3_linesOf (l : Launch) : Ct l yX3_linesOf wsX3_linesOf rmX3_linesOf 0 0 false sX3_linesOf := by
  refine ct_of (own := RX3) (cc := cX3_linesOf) (maxL := 4) (ret := (some .int)) (by decide) rfl rfl (by rintro _ _ _ ⟨t, ow, hd, st, rfl, rfl, hK⟩; exact Nat.le_of_ble_eq_true rfl) ?_
  intro X av es K hM hE hag hin hnL hsp
  obtain ⟨t, ow, hd, st, rfl, rfl, hK⟩ := hsp
  have hf := kX3_linesOf hM hE hnL
  refine g_with (X := X) 4 [0, 1, 2, 3] (fun μ vs es k n => ∃ i : Nat, μ = 8 - i ∧ i ≤ 8 ∧ vs = [.ref 0, .int t, .int (nI (sumN (lnW hd t) i)), .int (nI i)] ∧ es = plE ow hd st ∧ k = 0 ∧ n = 0) cut_nil (fun μ hc vs es k n hI => ?_) (fun hc => ?_)
  · obtain ⟨i, rfl, hi, rfl, rfl, rfl, rfl⟩ := hI
    refine g_go hf hc 5 ?_
    refine ⟨fun h => ?_, fun h => ?_⟩
    · have : i = 8 := by
        rw [nI_leI (by decide) (by omega)] at h
        omega
      subst this
      exact hK
    · rw [nI_leI (by decide) (by omega)] at h
      refine ⟨t, _, i, ow, hd, st, rfl, rfl, by omega, rfl, ?_⟩
      exact ⟨8 - (i + 1), by omega, i + 1, rfl, by omega, by rw [nI_add, nI_add]; rfl, rfl, rfl, rfl⟩
  · refine wr_ok hf hc 5 0 _ _ _ _ _ ?_
    exact ⟨8, 0, rfl, by omega, rfl, rfl, rfl, rfl⟩
def lnO (ow hd : Nat → Int32) (t : Int32) (w : Nat) : Nat := if ow w = t then lnW hd t w else 0
def sX3_linesInOwnWays : gS := fun av es K => ∃ t ow hd st, av = [.ref 0, .int t] ∧ es = plE ow hd st ∧ K (some (.int (nI (sumN (lnO ow hd t) 8)))) es
def rmX3_linesInOwnWays : Room := { frames := 2, cells := 0, slots := 0, locals := 46 }
def pX3_linesInOwnWays (K : gK) : List (Nat × gO) := [(0, oConst (nI 0)), (1, oIStore 4 2), (2, oConst (nI 0)), (3, oIStore 4 3), (4, oILoad 3), (5, oConst (nI 8)), (7, oICmp_ge 35), (10, oALoad 0), (11, oGet 3 0), (14, oILoad 3), (15, oIALd 0), (16, oILoad 1), (17, oICmp_ne 29), (20, oILoad 2), (21, oALoad 0), (22, oILoad 1), (23, oILoad 3), (24, oCallV 0 0 3 2 [0,1,2,3] sX3_linesInWay), (27, oAdd), (28, oIStore 4 2), (29, oIInc 4 3 (nI 1)), (32, oGoto 4), (35, oILoad 2), (36, oRet K 0 0)]
set_option maxRecDepth 100000 in
theorem kX3_linesInOwnWays {X : gX} {l : Launch} (hM : gM X l cX3_linesInOwnWays RX3 wsX3_linesInOwnWays rmX3_linesInOwnWays) {K : gK} (hE : gR X K 0 0 (some .int)) (hnL : X.2.2.2.2.2.2.2.2.2.2.2.2.2.2.2.2 = 4) : okL X (pX3_linesInOwnWays K) := by
  obtain ⟨p, l1, e, R, s, m, args, below, meth, c, D, cA, A, ag, ad0, Q, nL⟩ := X
  cases hnL
  refine ⟨ok_iconst hM dX3_linesInOwnWays_0 rfl,
    ok_istore_n hM 2 dX3_linesInOwnWays_1 rfl,
    ok_iconst hM dX3_linesInOwnWays_2 rfl,
    ok_istore_n hM 3 dX3_linesInOwnWays_3 rfl,
    ok_iload_n hM 3 dX3_linesInOwnWays_4 rfl,
    ok_bipush hM dX3_linesInOwnWays_5 rfl,
    ok_icmp_ge hM 35 dX3_linesInOwnWays_7 (by decide),
    ok_aload_n hM 0 dX3_linesInOwnWays_10 rfl,
    ok_get (C := RX3) (T := TX3) (Nf := 3) hM (fun _ h => List.mem_cons_of_mem _ (List.mem_append_right _ h)) rfl 0 (by decide) (List.mem_of_getElem? (i := 1) rfl) rfl dX3_linesInOwnWays_11,
    ok_iload_n hM 3 dX3_linesInOwnWays_14 rfl,
    ok_iald hM dX3_linesInOwnWays_15,
    ok_iload_n hM 1 dX3_linesInOwnWays_16 rfl,
    ok_icmp_ne hM 29 dX3_linesInOwnWays_17 (by decide),
    ok_iload_n hM 2 dX3_linesInOwnWays_20 rfl,
    ok_aload_n hM 0 dX3_linesInOwnWays_21 rfl,
    ok_iload_n hM 1 dX3_linesInOwnWays_22 rfl,
    ok_iload_n hM 3 dX3_linesInOwnWays_23 rfl,
    ok_callV hM [0,1,2,3] (ctX3_linesInWay l) rfl rfl gX3_linesInOwnWays_X3_linesInWay rfl rfl rfl (by decide +kernel) (by decide) dX3_linesInOwnWays_24,
    ok_iadd hM dX3_linesInOwnWays_27,
    ok_istore_n hM 2 dX3_linesInOwnWays_28 rfl,
    ok_iinc hM 3 dX3_linesInOwnWays_29 rfl,
    ok_goto hM 4 dX3_linesInOwnWays_32 (by decide),
    ok_iload_n hM 2 dX3_linesInOwnWays_35 rfl,
    ok_ret hM hE dX3_linesInOwnWays_36,
    trivial⟩
theorem ctX3_linesInOwnWays (l : Launch) : Ct l yX3_linesInOwnWays wsX3_linesInOwnWays rmX3_linesInOwnWays 0 0 false sX3_linesInOwnWays := by
  refine ct_of (own := RX3) (cc := cX3_linesInOwnWays) (maxL := 4) (ret := (some .int)) (by decide) rfl rfl (by rintro _ _ _ ⟨t, ow, hd, st, rfl, rfl, hK⟩; exact Nat.le_of_ble_eq_true rfl) ?_
  intro X av es K hM hE hag hin hnL hsp
  obtain ⟨t, ow, hd, st, rfl, rfl, hK⟩ := hsp
  have hf := kX3_linesInOwnWays hM hE hnL
  refine g_with (X := X) 4 [0, 1, 2, 3] (fun μ vs es k n => ∃ i : Nat, μ = 8 - i ∧ i ≤ 8 ∧ vs = [.ref 0, .int t, .int (nI (sumN (lnO ow hd t) i)), .int (nI i)] ∧ es = plE ow hd st ∧ k = 0 ∧ n = 0) cut_nil (fun μ hc vs es k n hI => ?_) (fun hc => ?_)
  · obtain ⟨i, rfl, hi, rfl, rfl, rfl, rfl⟩ := hI
    refine g_go hf hc 5 ?_
    refine ⟨fun h => ?_, fun h => ?_⟩
    · have : i = 8 := by
        rw [nI_leI (by decide) (by omega)] at h
        omega
      subst this
      exact hK
    · rw [nI_leI (by decide) (by omega)] at h
      refine ⟨i, rfl, by omega, ?_⟩
      refine ⟨fun h2 => ?_, fun h2 => ?_⟩
      · exact ⟨8 - (i + 1), by omega, i + 1, rfl, by omega, by rw [nI_add]; simp only [sumN, lnO, if_neg h2, Nat.add_zero], rfl, rfl, rfl⟩
      · refine ⟨t, _, i, ow, hd, st, rfl, rfl, by omega, rfl, ?_⟩
        exact ⟨8 - (i + 1), by omega, i + 1, rfl, by omega, by rw [nI_add, nI_add]; simp only [sumN, lnO, if_pos h2], rfl, rfl, rfl⟩
  · refine wr_ok hf hc 5 0 _ _ _ _ _ ?_
    exact ⟨8, 0, rfl, by omega, rfl, rfl, rfl, rfl⟩
def allN (hd : Nat → Int32) : Nat := sumN (fun t => sumN (lnW hd (nI t)) 8) 4
def sX3_allLines : gS := fun av es K => ∃ ow hd st, av = [.ref 0] ∧ es = plE ow hd st ∧ K (some (.int (nI (allN hd)))) es
def rmX3_allLines : Room := { frames := 3, cells := 0, slots := 0, locals := 69 }
def pX3_allLines (K : gK) : List (Nat × gO) := [(0, oConst (nI 0)), (1, oIStore 3 1), (2, oConst (nI 0)), (3, oIStore 3 2), (4, oILoad 2), (5, oConst (nI 4)), (6, oICmp_ge 23), (9, oILoad 1), (10, oALoad 0), (11, oILoad 2), (12, oCallV 0 0 3 1 [0,1,2,3] sX3_linesOf), (15, oAdd), (16, oIStore 3 1), (17, oIInc 3 2 (nI 1)), (20, oGoto 4), (23, oILoad 1), (24, oRet K 0 0)]
set_option maxRecDepth 100000 in
theorem kX3_allLines {X : gX} {l : Launch} (hM : gM X l cX3_allLines RX3 wsX3_allLines rmX3_allLines) {K : gK} (hE : gR X K 0 0 (some .int)) (hnL : X.2.2.2.2.2.2.2.2.2.2.2.2.2.2.2.2 = 3) : okL X (pX3_allLines K) := by
  obtain ⟨p, l1, e, R, s, m, args, below, meth, c, D, cA, A, ag, ad0, Q, nL⟩ := X
  cases hnL
  refine ⟨ok_iconst hM dX3_allLines_0 rfl,
    ok_istore_n hM 1 dX3_allLines_1 rfl,
    ok_iconst hM dX3_allLines_2 rfl,
    ok_istore_n hM 2 dX3_allLines_3 rfl,
    ok_iload_n hM 2 dX3_allLines_4 rfl,
    ok_iconst hM dX3_allLines_5 rfl,
    ok_icmp_ge hM 23 dX3_allLines_6 (by decide),
    ok_iload_n hM 1 dX3_allLines_9 rfl,
    ok_aload_n hM 0 dX3_allLines_10 rfl,
    ok_iload_n hM 2 dX3_allLines_11 rfl,
    ok_callV hM [0,1,2,3] (ctX3_linesOf l) rfl rfl gX3_allLines_X3_linesOf rfl rfl rfl (by decide +kernel) (by decide) dX3_allLines_12,
    ok_iadd hM dX3_allLines_15,
    ok_istore_n hM 1 dX3_allLines_16 rfl,
    ok_iinc hM 2 dX3_allLines_17 rfl,
    ok_goto hM 4 dX3_allLines_20 (by decide),
    ok_iload_n hM 1 dX3_allLines_23 rfl,
    ok_ret hM hE dX3_allLines_24,
    trivial⟩
theorem ctX3_allLines (l : Launch) : Ct l yX3_allLines wsX3_allLines rmX3_allLines 0 0 false sX3_allLines := by
  refine ct_of (own := RX3) (cc := cX3_allLines) (maxL := 3) (ret := (some .int)) (by decide) rfl rfl (by rintro _ _ _ ⟨ow, hd, st, rfl, rfl, hK⟩; exact Nat.le_of_ble_eq_true rfl) ?_
  intro X av es K hM hE hag hin hnL hsp
  obtain ⟨ow, hd, st, rfl, rfl, hK⟩ := hsp
  have hf := kX3_allLines hM hE hnL
  refine g_with (X := X) 4 [0, 1, 2] (fun μ vs es k n => ∃ i : Nat, μ = 4 - i ∧ i ≤ 4 ∧ vs = [.ref 0, .int (nI (sumN (fun t => sumN (lnW hd (nI t)) 8) i)), .int (nI i)] ∧ es = plE ow hd st ∧ k = 0 ∧ n = 0) cut_nil (fun μ hc vs es k n hI => ?_) (fun hc => ?_)
  · obtain ⟨i, rfl, hi, rfl, rfl, rfl, rfl⟩ := hI
    refine g_go hf hc 5 ?_
    refine ⟨fun h => ?_, fun h => ?_⟩
    · have : i = 4 := by
        rw [nI_leI (by decide) (by omega)] at h
        omega
      subst this
      exact hK
    · rw [nI_leI (by decide) (by omega)] at h
      refine ⟨_, ow, hd, st, rfl, rfl, ?_⟩
      exact ⟨4 - (i + 1), by omega, i + 1, rfl, by omega, by rw [nI_add, nI_add]; rfl, rfl, rfl, rfl⟩
  · refine wr_ok hf hc 5 0 _ _ _ _ _ ?_
    exact ⟨4, 0, rfl, by omega, rfl, rfl, rfl, rfl⟩
def rmv (hd : Nat → Int32) (t : Int32) : Nat → Int32 := fun j => if hol hd t j = true then -1 else hd j
def sX3_removeLinesOf : gS := fun av es K => ∃ t ow hd st, av = [.ref 0, .int t] ∧ es = plE ow hd st ∧ K (some (.int (nI (cnt (hol hd t) 32)))) (plE ow (rmv hd t) st)
def rmX3_removeLinesOf : Room := { frames := 1, cells := 0, slots := 0, locals := 22 }
def pX3_removeLinesOf (K : gK) : List (Nat × gO) := [(0, oConst (nI 0)), (1, oIStore 4 2), (2, oConst (nI 0)), (3, oIStore 4 3), (4, oILoad 3), (5, oConst (nI 32)), (7, oICmp_ge 35), (10, oALoad 0), (11, oILoad 1), (12, oILoad 3), (13, oCallV 0 0 3 2 [0,1,2,3] sX3_holdsLineOf), (16, oIf_eq 29), (19, oALoad 0), (20, oGet 3 1), (23, oILoad 3), (24, oConst (-1)), (25, oIASt), (26, oIInc 4 2 (nI 1)), (29, oIInc 4 3 (nI 1)), (32, oGoto 4), (35, oILoad 2), (36, oRet K 0 0)]
set_option maxRecDepth 100000 in
theorem kX3_removeLinesOf {X : gX} {l : Launch} (hM : gM X l cX3_removeLinesOf RX3 wsX3_removeLinesOf rmX3_removeLinesOf) {K : gK} (hE : gR X K 0 0 (some .int)) (hnL : X.2.2.2.2.2.2.2.2.2.2.2.2.2.2.2.2 = 4) : okL X (pX3_removeLinesOf K) := by
  obtain ⟨p, l1, e, R, s, m, args, below, meth, c, D, cA, A, ag, ad0, Q, nL⟩ := X
  cases hnL
  refine ⟨ok_iconst hM dX3_removeLinesOf_0 rfl,
    ok_istore_n hM 2 dX3_removeLinesOf_1 rfl,
    ok_iconst hM dX3_removeLinesOf_2 rfl,
    ok_istore_n hM 3 dX3_removeLinesOf_3 rfl,
    ok_iload_n hM 3 dX3_removeLinesOf_4 rfl,
    ok_bipush hM dX3_removeLinesOf_5 rfl,
    ok_icmp_ge hM 35 dX3_removeLinesOf_7 (by decide),
    ok_aload_n hM 0 dX3_removeLinesOf_10 rfl,
    ok_iload_n hM 1 dX3_removeLinesOf_11 rfl,
    ok_iload_n hM 3 dX3_removeLinesOf_12 rfl,
    ok_callV hM [0,1,2,3] (ctX3_holdsLineOf l) rfl rfl gX3_removeLinesOf_X3_holdsLineOf rfl rfl rfl (by decide +kernel) (by decide) dX3_removeLinesOf_13,
    ok_if_eq hM 29 dX3_removeLinesOf_16 (by decide),
    ok_aload_n hM 0 dX3_removeLinesOf_19 rfl,
    ok_get (C := RX3) (T := TX3) (Nf := 3) hM (fun _ h => List.mem_cons_of_mem _ (List.mem_append_right _ h)) rfl 1 (by decide) (List.mem_of_getElem? (i := 1) rfl) rfl dX3_removeLinesOf_20,
    ok_iload_n hM 3 dX3_removeLinesOf_23 rfl,
    ok_iconst hM dX3_removeLinesOf_24 rfl,
    ok_iast hM dX3_removeLinesOf_25,
    ok_iinc hM 2 dX3_removeLinesOf_26 rfl,
    ok_iinc hM 3 dX3_removeLinesOf_29 rfl,
    ok_goto hM 4 dX3_removeLinesOf_32 (by decide),
    ok_iload_n hM 2 dX3_removeLinesOf_35 rfl,
    ok_ret hM hE dX3_removeLinesOf_36,
    trivial⟩
theorem ctX3_removeLinesOf (l : Launch) : Ct l yX3_removeLinesOf wsX3_removeLinesOf rmX3_removeLinesOf 0 0 false sX3_removeLinesOf := by
  refine ct_of (own := RX3) (cc := cX3_removeLinesOf) (maxL := 4) (ret := (some .int)) (by decide) rfl rfl (by rintro _ _ _ ⟨t, ow, hd, st, rfl, rfl, hK⟩; exact Nat.le_of_ble_eq_true rfl) ?_
  intro X av es K hM hE hag hin hnL hsp
  obtain ⟨t, ow, hd, st, rfl, rfl, hK⟩ := hsp
  have hf := kX3_removeLinesOf hM (gR_eqv hE) hnL
  refine g_with (X := X) 4 [0, 1, 2, 3] (fun μ vs es k n => ∃ (i : Nat) (hd' : Nat → Int32), μ = 32 - i ∧ i ≤ 32 ∧ (∀ j, hd' j = if j < i ∧ hol hd t j = true then -1 else hd j) ∧ vs = [.ref 0, .int t, .int (nI (cnt (hol hd t) i)), .int (nI i)] ∧ es = plE ow hd' st ∧ k = 0 ∧ n = 0) cut_nil (fun μ hc vs es k n hI => ?_) (fun hc => ?_)
  · obtain ⟨i, hd', rfl, hi, hd1, rfl, rfl, rfl, rfl⟩ := hI
    refine g_go hf hc 5 ?_
    refine ⟨fun h => ?_, fun h => ?_⟩
    · have : i = 32 := by
        rw [nI_leI (by decide) (by omega)] at h
        omega
      subst this
      refine ⟨plE ow (rmv hd t) st, ⟨rfl, ⟨rfl, rfl, fun _ _ => rfl⟩, ⟨rfl, rfl, fun j hj => ?_⟩, ⟨rfl, rfl, fun _ _ => rfl⟩, trivial⟩, hK⟩
      rw [hd1, rmv]
      simp [hj]
    · rw [nI_leI (by decide) (by omega)] at h
      have he : hol hd' t i = hol hd t i := by simp [hol, hd1]
      refine ⟨t, _, i, ow, hd', st, rfl, rfl, by omega, rfl, ?_⟩
      refine ⟨fun h2 => ?_, fun h2 => ?_⟩
      · rw [bI_0, he] at h2
        refine ⟨32 - (i + 1), by omega, i + 1, hd', rfl, by omega, fun j => ?_, by rw [nI_add, cnt_f (by simpa using h2)], rfl, rfl, rfl⟩
        rw [hd1]
        by_cases hj : j = i
        · subst hj
          simp [h2]
        · have : (j < i) ↔ (j < i + 1) := by omega
          simp [this]
      · rw [bI_0, he] at h2
        refine ⟨i, rfl, by omega, ?_⟩
        refine ⟨32 - (i + 1), by omega, i + 1, upd hd' i (-1), rfl, by omega, fun j => ?_, by rw [nI_add, nI_add, cnt_t (by simpa using h2)], rfl, rfl, rfl⟩
        unfold upd
        by_cases hj : j = i
        · subst hj
          have h3 : hol hd t j = true := by simpa using h2
          simp [h3]
        · have : (j < i) ↔ (j < i + 1) := by omega
          rw [if_neg hj, hd1]
          simp [this]
  · refine wr_ok hf hc 5 0 _ _ _ _ _ ?_
    exact ⟨32, 0, hd, rfl, by omega, fun j => by simp, rfl, rfl, rfl, rfl⟩
end MP
end
section
/-! Places: contracts, second part. -/
section MP2
def oI : Option Nat → Int32
  | none => -1
  | some p => nI p
theorem oI_ne {o : Option Nat} (h : ∀ p, o = some p → p < 2 ^ 31) : oI o = -1 ↔ o = none := by
  cases o with
  | none => exact ⟨fun _ => rfl, fun _ => rfl⟩
  | some p =>
    refine ⟨fun h2 => ?_, fun h2 => by cases h2⟩
    have h3 : ¬ nI p < 0 := nI_pos (h p rfl)
    have h4 : nI p = -1 := h2
    rw [h4] at h3
    exact absurd (by decide) h3
def ptU (st : Nat → Int32) (q : Nat) : Option Nat → Nat
  | none => q
  | some o => if st q < st o then q else o
def ptf (ow hd st : Nat → Int32) (t : Int32) (fs : Nat) : Nat → Nat → Option Nat → Option Nat
  | 0, _, old => old
  | f + 1, w, old => if ow w = t then (if hd (fs + w) = -1 then some (fs + w) else ptf ow hd st t fs f (w + 1) (some (ptU st (fs + w) old))) else ptf ow hd st t fs f (w + 1) old
def sX3_placeToFill : gS := fun av es K => ∃ t x a ow hd st, av = [.ref 0, .int t, .int x] ∧ x = nI a ∧ a < 256 ∧ es = plE ow hd st ∧ K (some (.int (oI (ptf ow hd st t (a % 4 * 8) 8 0 none)))) es
def rmX3_placeToFill : Room := { frames := 0, cells := 0, slots := 0, locals := 0 }
def pX3_placeToFill (K : gK) : List (Nat × gO) := [(0, oILoad 2), (1, oConst (nI 4)), (2, oRem), (3, oConst (nI 8)), (5, oMul), (6, oIStore 7 3), (7, oConst (-1)), (8, oIStore 7 4), (10, oConst (nI 0)), (11, oIStore 7 5), (13, oILoad 5), (15, oConst (nI 8)), (17, oICmp_ge 87), (20, oILoad 3), (21, oILoad 5), (23, oAdd), (24, oIStore 7 6), (26, oALoad 0), (27, oGet 3 0), (30, oILoad 5), (32, oIALd 0), (33, oILoad 1), (34, oICmp_eq 40), (37, oGoto 81), (40, oALoad 0), (41, oGet 3 1), (44, oILoad 6), (46, oIALd 0), (47, oConst (-1)), (48, oICmp_ne 54), (51, oILoad 6), (53, oRet K 0 0), (54, oILoad 4), (56, oConst (-1)), (57, oICmp_eq 77), (60, oALoad 0), (61, oGet 3 2), (64, oILoad 6), (66, oIALd 0), (67, oALoad 0), (68, oGet 3 2), (71, oILoad 4), (73, oIALd 0), (74, oICmp_ge 81), (77, oILoad 6), (79, oIStore 7 4), (81, oIInc 7 5 (nI 1)), (84, oGoto 13), (87, oILoad 4), (89, oRet K 0 0)]
set_option maxRecDepth 100000 in
theorem kX3_placeToFill {X : gX} {l : Launch} (hM : gM X l cX3_placeToFill RX3 wsX3_placeToFill rmX3_placeToFill) {K : gK} (hE : gR X K 0 0 (some .int)) (hnL : X.2.2.2.2.2.2.2.2.2.2.2.2.2.2.2.2 = 7) : okL X (pX3_placeToFill K) := by
  obtain ⟨p, l1, e, R, s, m, args, below, meth, c, D, cA, A, ag, ad0, Q, nL⟩ := X
  cases hnL
  refine ⟨ok_iload_n hM 2 dX3_placeToFill_0 rfl,
    ok_iconst hM dX3_placeToFill_1 rfl,
    ok_irem hM dX3_placeToFill_2,
    ok_bipush hM dX3_placeToFill_3 rfl,
    ok_imul hM dX3_placeToFill_5,
    ok_istore_n hM 3 dX3_placeToFill_6 rfl,
    ok_iconst hM dX3_placeToFill_7 rfl,
    ok_istore hM 4 dX3_placeToFill_8,
    ok_iconst hM dX3_placeToFill_10 rfl,
    ok_istore hM 5 dX3_placeToFill_11,
    ok_iload hM 5 dX3_placeToFill_13,
    ok_bipush hM dX3_placeToFill_15 rfl,
    ok_icmp_ge hM 87 dX3_placeToFill_17 (by decide),
    ok_iload_n hM 3 dX3_placeToFill_20 rfl,
    ok_iload hM 5 dX3_placeToFill_21,
    ok_iadd hM dX3_placeToFill_23,
    ok_istore hM 6 dX3_placeToFill_24,
    ok_aload_n hM 0 dX3_placeToFill_26 rfl,
    ok_get (C := RX3) (T := TX3) (Nf := 3) hM (fun _ h => List.mem_cons_of_mem _ (List.mem_append_right _ h)) rfl 0 (by decide) (List.mem_of_getElem? (i := 1) rfl) rfl dX3_placeToFill_27,
    ok_iload hM 5 dX3_placeToFill_30,
    ok_iald hM dX3_placeToFill_32,
    ok_iload_n hM 1 dX3_placeToFill_33 rfl,
    ok_icmp_eq hM 40 dX3_placeToFill_34 (by decide),
    ok_goto hM 81 dX3_placeToFill_37 (by decide),
    ok_aload_n hM 0 dX3_placeToFill_40 rfl,
    ok_get (C := RX3) (T := TX3) (Nf := 3) hM (fun _ h => List.mem_cons_of_mem _ (List.mem_append_right _ h)) rfl 1 (by decide) (List.mem_of_getElem? (i := 2) rfl) rfl dX3_placeToFill_41,
    ok_iload hM 6 dX3_placeToFill_44,
    ok_iald hM dX3_placeToFill_46,
    ok_iconst hM dX3_placeToFill_47 rfl,
    ok_icmp_ne hM 54 dX3_placeToFill_48 (by decide),
    ok_iload hM 6 dX3_placeToFill_51,
    ok_ret hM hE dX3_placeToFill_53,
    ok_iload hM 4 dX3_placeToFill_54,
    ok_iconst hM dX3_placeToFill_56 rfl,
    ok_icmp_eq hM 77 dX3_placeToFill_57 (by decide),
    ok_aload_n hM 0 dX3_placeToFill_60 rfl,
    ok_get (C := RX3) (T := TX3) (Nf := 3) hM (fun _ h => List.mem_cons_of_mem _ (List.mem_append_right _ h)) rfl 2 (by decide) (List.mem_of_getElem? (i := 3) rfl) rfl dX3_placeToFill_61,
    ok_iload hM 6 dX3_placeToFill_64,
    ok_iald hM dX3_placeToFill_66,
    ok_aload_n hM 0 dX3_placeToFill_67 rfl,
    ok_get (C := RX3) (T := TX3) (Nf := 3) hM (fun _ h => List.mem_cons_of_mem _ (List.mem_append_right _ h)) rfl 2 (by decide) (List.mem_of_getElem? (i := 3) rfl) rfl dX3_placeToFill_68,
    ok_iload hM 4 dX3_placeToFill_71,
    ok_iald hM dX3_placeToFill_73,
    ok_icmp_ge hM 81 dX3_placeToFill_74 (by decide),
    ok_iload hM 6 dX3_placeToFill_77,
    ok_istore hM 4 dX3_placeToFill_79,
    ok_iinc hM 5 dX3_placeToFill_81 rfl,
    ok_goto hM 13 dX3_placeToFill_84 (by decide),
    ok_iload hM 4 dX3_placeToFill_87,
    ok_ret hM hE dX3_placeToFill_89,
    trivial⟩
theorem ctX3_placeToFill (l : Launch) : Ct l yX3_placeToFill wsX3_placeToFill rmX3_placeToFill 0 0 false sX3_placeToFill := by
  refine ct_of (own := RX3) (cc := cX3_placeToFill) (maxL := 7) (ret := (some .int)) (by decide) rfl rfl (by rintro _ _ _ ⟨t, x, a, ow, hd, st, rfl, rfl, ha, rfl, hK⟩; exact Nat.le_of_ble_eq_true rfl) ?_
  intro X av es K hM hE hag hin hnL hsp
  obtain ⟨t, x, a, ow, hd, st, rfl, rfl, ha, rfl, hK⟩ := hsp
  have hf := kX3_placeToFill hM hE hnL
  generalize hres : ptf ow hd st t (a % 4 * 8) 8 0 none = res at hK
  refine g_with (X := X) 13 [0, 1, 2, 3, 4, 5] (fun μ vs es k n => ∃ (i : Nat) (old : Option Nat), μ = 8 - i ∧ i ≤ 8 ∧ res = ptf ow hd st t (a % 4 * 8) (8 - i) i old ∧ (∀ o, old = some o → o < 32) ∧ vs = [.ref 0, .int t, .int (nI a), .int (nI (a % 4 * 8)), .int (oI old), .int (nI i)] ∧ es = plE ow hd st ∧ k = 0 ∧ n = 0) cut_nil (fun μ hc vs es k n hI => ?_) (fun hc => ?_)
  · obtain ⟨i, old, rfl, hi, hr, ho, rfl, rfl, rfl, rfl⟩ := hI
    have hon : oI old = -1 ↔ old = none := oI_ne (fun p hp => by have := ho p hp; omega)
    refine g_go hf hc 5 ?_
    refine ⟨fun h => ?_, fun h => ?_⟩
    · have : i = 8 := by
        rw [nI_leI (by decide) (by omega)] at h
        omega
      subst this
      rw [hr] at hK
      exact hK
    · rw [nI_leI (by decide) (by omega)] at h
      obtain ⟨d, hd8⟩ : ∃ d, 8 - i = d + 1 := ⟨8 - i - 1, by omega⟩
      have hd9 : 8 - (i + 1) = d := by omega
      rw [hd8] at hr
      refine ⟨i, rfl, by omega, ?_⟩
      refine ⟨fun h2 => ?_, fun h2 => ?_⟩
      · simp only [ptf, if_pos h2] at hr
        refine ⟨a % 4 * 8 + i, nI_add _ _, by omega, ?_⟩
        refine ⟨fun h3 => ?_, fun h3 => ?_⟩
        · rw [if_neg h3] at hr
          refine ⟨fun h4 => ?_, fun h4 => ?_⟩
          · rw [hon] at h4
            subst h4
            refine ⟨8 - (i + 1), by omega, i + 1, some (a % 4 * 8 + i), rfl, by omega, ?_, fun o hoo => by cases hoo; omega, by rw [nI_add, nI_add]; rfl, rfl, rfl, rfl⟩
            rw [hr, hd9]
            rfl
          · obtain ⟨o, rfl⟩ : ∃ o, old = some o := by
              cases old with
              | none => exact absurd rfl h4
              | some o => exact ⟨o, rfl⟩
            have ho1 := ho o rfl
            refine ⟨a % 4 * 8 + i, nI_add _ _, by omega, ?_⟩
            refine ⟨o, rfl, ho1, ?_⟩
            refine ⟨fun h5 => ?_, fun h5 => ?_⟩
            · refine ⟨8 - (i + 1), by omega, i + 1, some o, rfl, by omega, ?_, fun o hoo => by cases hoo; omega, by rw [nI_add], rfl, rfl, rfl⟩
              rw [hr, hd9]
              simp only [ptU, if_neg (show ¬ st (a % 4 * 8 + i) < st o from by first | exact h5 | exact Int32.not_lt.mpr h5)]
            · refine ⟨8 - (i + 1), by omega, i + 1, some (a % 4 * 8 + i), rfl, by omega, ?_, fun o hoo => by cases hoo; omega, by rw [nI_add, nI_add]; rfl, rfl, rfl, rfl⟩
              rw [hr, hd9]
              simp only [ptU, if_pos (show st (a % 4 * 8 + i) < st o from by first | exact h5 | exact Int32.not_le.mp h5)]
        · rw [if_pos h3] at hr
          rw [hr, oI, ← nI_add] at hK
          exact hK
      · simp only [ptf, if_neg h2] at hr
        refine ⟨8 - (i + 1), by omega, i + 1, old, rfl, by omega, by rw [hr, hd9], ho, by rw [nI_add], rfl, rfl, rfl⟩
  · refine wr_ok hf hc 5 0 _ _ _ _ _ ?_
    refine ⟨by decide, ?_⟩
    exact ⟨8, 0, none, rfl, by omega, hres.symm, fun o ho => (by cases ho), by rw [first4 ha]; rfl, rfl, rfl, rfl⟩
def wfl (ow : Nat → Int32) (ln : Nat → Nat) (t : Int32) : Nat → Nat → Option Nat → Nat → Option Nat
  | 0, _, b, _ => b
  | f + 1, w, b, m => if ow w = t ∧ ln w < m then wfl ow ln t f (w + 1) (some w) (ln w) else wfl ow ln t f (w + 1) b m
def sX3_wayWithFewestLines : gS := fun av es K => ∃ t ow hd st, av = [.ref 0, .int t] ∧ es = plE ow hd st ∧ K (some (.int (oI (wfl ow (lnW hd t) t 8 0 none 5)))) es
def rmX3_wayWithFewestLines : Room := { frames := 2, cells := 0, slots := 0, locals := 46 }
def pX3_wayWithFewestLines (K : gK) : List (Nat × gO) := [(0, oConst (-1)), (1, oIStore 5 2), (2, oConst (nI 5)), (3, oIStore 5 3), (4, oConst (nI 0)), (5, oIStore 5 4), (7, oILoad 4), (9, oConst (nI 8)), (11, oICmp_ge 53), (14, oALoad 0), (15, oGet 3 0), (18, oILoad 4), (20, oIALd 0), (21, oILoad 1), (22, oICmp_ne 47), (25, oALoad 0), (26, oILoad 1), (27, oILoad 4), (29, oCallV 0 0 3 2 [0,1,2,3] sX3_linesInWay), (32, oILoad 3), (33, oICmp_ge 47), (36, oILoad 4), (38, oIStore 5 2), (39, oALoad 0), (40, oILoad 1), (41, oILoad 4), (43, oCallV 0 0 3 2 [0,1,2,3] sX3_linesInWay), (46, oIStore 5 3), (47, oIInc 5 4 (nI 1)), (50, oGoto 7), (53, oILoad 2), (54, oRet K 0 0)]
set_option maxRecDepth 100000 in
theorem kX3_wayWithFewestLines {X : gX} {l : Launch} (hM : gM X l cX3_wayWithFewestLines RX3 wsX3_wayWithFewestLines rmX3_wayWithFewestLines) {K : gK} (hE : gR X K 0 0 (some .int)) (hnL : X.2.2.2.2.2.2.2.2.2.2.2.2.2.2.2.2 = 5) : okL X (pX3_wayWithFewestLines K) := by
  obtain ⟨p, l1, e, R, s, m, args, below, meth, c, D, cA, A, ag, ad0, Q, nL⟩ := X
  cases hnL
  refine ⟨ok_iconst hM dX3_wayWithFewestLines_0 rfl,
    ok_istore_n hM 2 dX3_wayWithFewestLines_1 rfl,
    ok_iconst hM dX3_wayWithFewestLines_2 rfl,
    ok_istore_n hM 3 dX3_wayWithFewestLines_3 rfl,
    ok_iconst hM dX3_wayWithFewestLines_4 rfl,
    ok_istore hM 4 dX3_wayWithFewestLines_5,
    ok_iload hM 4 dX3_wayWithFewestLines_7,
    ok_bipush hM dX3_wayWithFewestLines_9 rfl,
    ok_icmp_ge hM 53 dX3_wayWithFewestLines_11 (by decide),
    ok_aload_n hM 0 dX3_wayWithFewestLines_14 rfl,
    ok_get (C := RX3) (T := TX3) (Nf := 3) hM (fun _ h => List.mem_cons_of_mem _ (List.mem_append_right _ h)) rfl 0 (by decide) (List.mem_of_getElem? (i := 1) rfl) rfl dX3_wayWithFewestLines_15,
    ok_iload hM 4 dX3_wayWithFewestLines_18,
    ok_iald hM dX3_wayWithFewestLines_20,
    ok_iload_n hM 1 dX3_wayWithFewestLines_21 rfl,
    ok_icmp_ne hM 47 dX3_wayWithFewestLines_22 (by decide),
    ok_aload_n hM 0 dX3_wayWithFewestLines_25 rfl,
    ok_iload_n hM 1 dX3_wayWithFewestLines_26 rfl,
    ok_iload hM 4 dX3_wayWithFewestLines_27,
    ok_callV hM [0,1,2,3] (ctX3_linesInWay l) rfl rfl gX3_wayWithFewestLines_X3_linesInWay rfl rfl rfl (by decide +kernel) (by decide) dX3_wayWithFewestLines_29,
    ok_iload_n hM 3 dX3_wayWithFewestLines_32 rfl,
    ok_icmp_ge hM 47 dX3_wayWithFewestLines_33 (by decide),
    ok_iload hM 4 dX3_wayWithFewestLines_36,
    ok_istore_n hM 2 dX3_wayWithFewestLines_38 rfl,
    ok_aload_n hM 0 dX3_wayWithFewestLines_39 rfl,
    ok_iload_n hM 1 dX3_wayWithFewestLines_40 rfl,
    ok_iload hM 4 dX3_wayWithFewestLines_41,
    ok_callV hM [0,1,2,3] (ctX3_linesInWay l) rfl rfl gX3_wayWithFewestLines_X3_linesInWay rfl rfl rfl (by decide +kernel) (by decide) dX3_wayWithFewestLines_43,
    ok_istore_n hM 3 dX3_wayWithFewestLines_46 rfl,
    ok_iinc hM 4 dX3_wayWithFewestLines_47 rfl,
    ok_goto hM 7 dX3_wayWithFewestLines_50 (by decide),
    ok_iload_n hM 2 dX3_wayWithFewestLines_53 rfl,
    ok_ret hM hE dX3_wayWithFewestLines_54,
    trivial⟩
theorem ctX3_wayWithFewestLines (l : Launch) : Ct l yX3_wayWithFewestLines wsX3_wayWithFewestLines rmX3_wayWithFewestLines 0 0 false sX3_wayWithFewestLines := by
  refine ct_of (own := RX3) (cc := cX3_wayWithFewestLines) (maxL := 5) (ret := (some .int)) (by decide) rfl rfl (by rintro _ _ _ ⟨t, ow, hd, st, rfl, rfl, hK⟩; exact Nat.le_of_ble_eq_true rfl) ?_
  intro X av es K hM hE hag hin hnL hsp
  obtain ⟨t, ow, hd, st, rfl, rfl, hK⟩ := hsp
  have hf := kX3_wayWithFewestLines hM hE hnL
  generalize hres : wfl ow (lnW hd t) t 8 0 none 5 = res at hK
  refine g_with (X := X) 7 [0, 1, 2, 3, 4] (fun μ vs es k n => ∃ (i : Nat) (b : Option Nat) (m : Nat), μ = 8 - i ∧ i ≤ 8 ∧ m ≤ 5 ∧ res = wfl ow (lnW hd t) t (8 - i) i b m ∧ vs = [.ref 0, .int t, .int (oI b), .int (nI m), .int (nI i)] ∧ es = plE ow hd st ∧ k = 0 ∧ n = 0) cut_nil (fun μ hc vs es k n hI => ?_) (fun hc => ?_)
  · obtain ⟨i, b, m, rfl, hi, hm, hr, rfl, rfl, rfl, rfl⟩ := hI
    have hln := lnW_le hd t i
    refine g_go hf hc 5 ?_
    refine ⟨fun h => ?_, fun h => ?_⟩
    · have : i = 8 := by
        rw [nI_leI (by decide) (by omega)] at h
        omega
      subst this
      rw [hr] at hK
      exact hK
    · rw [nI_leI (by decide) (by omega)] at h
      obtain ⟨d, hd8⟩ : ∃ d, 8 - i = d + 1 := ⟨8 - i - 1, by omega⟩
      have hd9 : 8 - (i + 1) = d := by omega
      rw [hd8] at hr
      refine ⟨i, rfl, by omega, ?_⟩
      refine ⟨fun h2 => ?_, fun h2 => ?_⟩
      · simp only [wfl, h2, false_and, if_false] at hr
        refine ⟨8 - (i + 1), by omega, i + 1, b, m, rfl, by omega, hm, by rw [hr, hd9], by rw [nI_add], rfl, rfl, rfl⟩
      · refine ⟨t, _, i, ow, hd, st, rfl, rfl, by omega, rfl, ?_⟩
        refine ⟨fun h3 => ?_, fun h3 => ?_⟩
        · rw [nI_leI (by omega) (by omega)] at h3
          have h4 : ¬ lnW hd t i < m := by omega
          simp only [wfl, h4, and_false, if_false] at hr
          refine ⟨8 - (i + 1), by omega, i + 1, b, m, rfl, by omega, hm, by rw [hr, hd9], by rw [nI_add], rfl, rfl, rfl⟩
        · rw [nI_leI (by omega) (by omega)] at h3
          have h4 : lnW hd t i < m := by omega
          simp only [wfl, h2, h4, and_self, if_true] at hr
          refine ⟨t, _, i, ow, hd, st, rfl, rfl, by omega, rfl, ?_⟩
          refine ⟨8 - (i + 1), by omega, i + 1, some i, lnW hd t i, rfl, by omega, by omega, by rw [hr, hd9], by rw [nI_add]; rfl, rfl, rfl, rfl⟩
  · refine wr_ok hf hc 5 0 _ _ _ _ _ ?_
    exact ⟨8, 0, none, 5, rfl, by omega, by omega, hres.symm, rfl, rfl, rfl, rfl⟩
theorem cpy0 {f g : Nat → Int32} {n j : Nat} (h : j < n) : va_cpy f g 0 0 n j = f j := by
  rw [pk_cpy_in (Nat.zero_le _) (by omega)]
  simp
def sX3_copyFrom : gS := fun av es K => ∃ ow hd st ow' hd' st', av = [.ref 0, .ref 4] ∧ es = plA 0 ow hd st ++ plA 4 ow' hd' st' ∧ K none (plA 0 ow' hd' st' ++ plA 4 ow' hd' st')
def rmX3_copyFrom : Room := { frames := 1, cells := 0, slots := 0, locals := 60 }
def pX3_copyFrom (K : gK) : List (Nat × gO) := [(0, oALoad 1), (1, oGet 3 0), (4, oConst (nI 0)), (5, oALoad 0), (6, oGet 3 0), (9, oConst (nI 0)), (10, oConst (nI 8)), (12, oCopy 60), (15, oALoad 1), (16, oGet 3 1), (19, oConst (nI 0)), (20, oALoad 0), (21, oGet 3 1), (24, oConst (nI 0)), (25, oConst (nI 32)), (27, oCopy 60), (30, oALoad 1), (31, oGet 3 2), (34, oConst (nI 0)), (35, oALoad 0), (36, oGet 3 2), (39, oConst (nI 0)), (40, oConst (nI 32)), (42, oCopy 60), (45, oRetV K 0 0)]
set_option maxRecDepth 100000 in
theorem kX3_copyFrom {X : gX} {l : Launch} (hM : gM X l cX3_copyFrom RX3 wsX3_copyFrom rmX3_copyFrom) {K : gK} (hE : gR X K 0 0 none) (hnL : X.2.2.2.2.2.2.2.2.2.2.2.2.2.2.2.2 = 2) : okL X (pX3_copyFrom K) := by
  obtain ⟨p, l1, e, R, s, m, args, below, meth, c, D, cA, A, ag, ad0, Q, nL⟩ := X
  cases hnL
  refine ⟨ok_aload_n hM 1 dX3_copyFrom_0 rfl,
    ok_get (C := RX3) (T := TX3) (Nf := 3) hM (fun _ h => List.mem_cons_of_mem _ (List.mem_append_right _ h)) rfl 0 (by decide) (List.mem_of_getElem? (i := 1) rfl) rfl dX3_copyFrom_1,
    ok_iconst hM dX3_copyFrom_4 rfl,
    ok_aload_n hM 0 dX3_copyFrom_5 rfl,
    ok_get (C := RX3) (T := TX3) (Nf := 3) hM (fun _ h => List.mem_cons_of_mem _ (List.mem_append_right _ h)) rfl 0 (by decide) (List.mem_of_getElem? (i := 1) rfl) rfl dX3_copyFrom_6,
    ok_iconst hM dX3_copyFrom_9 rfl,
    ok_bipush hM dX3_copyFrom_10 rfl,
    ok_copy hM (List.mem_of_getElem? (i := 2) rfl) (List.mem_of_getElem? (i := 3) rfl) (List.mem_of_getElem? (i := 4) rfl) (List.mem_of_getElem? (i := 5) rfl) (by decide) (by decide +kernel) dX3_copyFrom_12,
    ok_aload_n hM 1 dX3_copyFrom_15 rfl,
    ok_get (C := RX3) (T := TX3) (Nf := 3) hM (fun _ h => List.mem_cons_of_mem _ (List.mem_append_right _ h)) rfl 1 (by decide) (List.mem_of_getElem? (i := 6) rfl) rfl dX3_copyFrom_16,
    ok_iconst hM dX3_copyFrom_19 rfl,
    ok_aload_n hM 0 dX3_copyFrom_20 rfl,
    ok_get (C := RX3) (T := TX3) (Nf := 3) hM (fun _ h => List.mem_cons_of_mem _ (List.mem_append_right _ h)) rfl 1 (by decide) (List.mem_of_getElem? (i := 6) rfl) rfl dX3_copyFrom_21,
    ok_iconst hM dX3_copyFrom_24 rfl,
    ok_bipush hM dX3_copyFrom_25 rfl,
    ok_copy hM (List.mem_of_getElem? (i := 2) rfl) (List.mem_of_getElem? (i := 3) rfl) (List.mem_of_getElem? (i := 4) rfl) (List.mem_of_getElem? (i := 5) rfl) (by decide) (by decide +kernel) dX3_copyFrom_27,
    ok_aload_n hM 1 dX3_copyFrom_30 rfl,
    ok_get (C := RX3) (T := TX3) (Nf := 3) hM (fun _ h => List.mem_cons_of_mem _ (List.mem_append_right _ h)) rfl 2 (by decide) (List.mem_of_getElem? (i := 7) rfl) rfl dX3_copyFrom_31,
    ok_iconst hM dX3_copyFrom_34 rfl,
    ok_aload_n hM 0 dX3_copyFrom_35 rfl,
    ok_get (C := RX3) (T := TX3) (Nf := 3) hM (fun _ h => List.mem_cons_of_mem _ (List.mem_append_right _ h)) rfl 2 (by decide) (List.mem_of_getElem? (i := 7) rfl) rfl dX3_copyFrom_36,
    ok_iconst hM dX3_copyFrom_39 rfl,
    ok_bipush hM dX3_copyFrom_40 rfl,
    ok_copy hM (List.mem_of_getElem? (i := 2) rfl) (List.mem_of_getElem? (i := 3) rfl) (List.mem_of_getElem? (i := 4) rfl) (List.mem_of_getElem? (i := 5) rfl) (by decide) (by decide +kernel) dX3_copyFrom_42,
    ok_retV hM hE dX3_copyFrom_45,
    trivial⟩
theorem ctX3_copyFrom (l : Launch) : Ct l yX3_copyFrom wsX3_copyFrom rmX3_copyFrom 0 0 false sX3_copyFrom := by
  refine ct_of (own := RX3) (cc := cX3_copyFrom) (maxL := 2) (ret := none) (by decide) rfl rfl (by rintro _ _ _ ⟨ow, hd, st, ow', hd', st', rfl, rfl, hK⟩; exact Nat.le_of_ble_eq_true rfl) ?_
  intro X av es K hM hE hag hin hnL hsp
  obtain ⟨ow, hd, st, ow', hd', st', rfl, rfl, hK⟩ := hsp
  have hf := kX3_copyFrom hM (gR_eqv hE) hnL
  refine wr_ok hf cut_nil 5 0 _ _ _ _ _ ?_
  refine ⟨8, rfl, rfl, rfl, by omega, by omega, ?_⟩
  refine ⟨32, rfl, rfl, rfl, by omega, by omega, ?_⟩
  refine ⟨32, rfl, rfl, rfl, by omega, by omega, ?_⟩
  exact ⟨plA 0 ow' hd' st' ++ plA 4 ow' hd' st', ⟨rfl, ⟨rfl, rfl, fun _ h => cpy0 h⟩, ⟨rfl, rfl, fun _ h => cpy0 h⟩, ⟨rfl, rfl, fun _ h => cpy0 h⟩, rfl, ⟨rfl, rfl, fun _ _ => rfl⟩, ⟨rfl, rfl, fun _ _ => rfl⟩, ⟨rfl, rfl, fun _ _ => rfl⟩, trivial⟩, hK⟩
end MP2
end
section
/-! Monitors: contracts. -/
section MM
def sX6_isSampled : gS := fun av es K => ∃ s, av = [.int s] ∧ es = [] ∧ K (some (.int (bI (decide (s = nI 0) || decide (s = nI 2))))) []
def rmX6_isSampled : Room := { frames := 0, cells := 0, slots := 0, locals := 0 }
def pX6_isSampled (K : gK) : List (Nat × gO) := [(0, oILoad 0), (1, oIf_eq 9), (4, oILoad 0), (5, oConst (nI 2)), (6, oICmp_ne 13), (9, oConst (nI 1)), (10, oGoto 14), (13, oConst (nI 0)), (14, oRetZ K 0 0)]
set_option maxRecDepth 100000 in
theorem kX6_isSampled {X : gX} {l : Launch} (hM : gM X l cX6_isSampled RX6 wsX6_isSampled rmX6_isSampled) {K : gK} (hE : gR X K 0 0 (some .boolean)) (hnL : X.2.2.2.2.2.2.2.2.2.2.2.2.2.2.2.2 = 1) : okL X (pX6_isSampled K) := by
  obtain ⟨p, l1, e, R, s, m, args, below, meth, c, D, cA, A, ag, ad0, Q, nL⟩ := X
  cases hnL
  refine ⟨ok_iload_n hM 0 dX6_isSampled_0 rfl,
    ok_if_eq hM 9 dX6_isSampled_1 (by decide),
    ok_iload_n hM 0 dX6_isSampled_4 rfl,
    ok_iconst hM dX6_isSampled_5 rfl,
    ok_icmp_ne hM 13 dX6_isSampled_6 (by decide),
    ok_iconst hM dX6_isSampled_9 rfl,
    ok_goto hM 14 dX6_isSampled_10 (by decide),
    ok_iconst hM dX6_isSampled_13 rfl,
    ok_retZ hM hE dX6_isSampled_14,
    trivial⟩
theorem ctX6_isSampled (l : Launch) : Ct l yX6_isSampled wsX6_isSampled rmX6_isSampled 0 0 false sX6_isSampled := by
  refine ct_of (own := RX6) (cc := cX6_isSampled) (maxL := 1) (ret := (some .boolean)) (by decide) rfl rfl (by rintro _ _ _ ⟨s, rfl, rfl, hK⟩; exact Nat.le_of_ble_eq_true rfl) ?_
  intro X av es K hM hE hag hin hnL hsp
  obtain ⟨s, rfl, rfl, hK⟩ := hsp
  have hf := kX6_isSampled hM hE hnL
  refine wr_ok hf cut_nil 5 0 _ _ _ _ _ ?_
  refine ⟨fun h => ?_, fun h => ?_⟩
  · have e : (decide (s = nI 0) || decide (s = nI 2)) = true := by rw [show s = nI 0 from h]; rfl
    rw [e] at hK
    exact ⟨by decide, hK⟩
  · have h0 : ¬ s = nI 0 := h
    refine ⟨fun h2 => ?_, fun h2 => ?_⟩
    · have e : (decide (s = nI 0) || decide (s = nI 2)) = false := by rw [decide_eq_false h0, decide_eq_false h2]; rfl
      rw [e] at hK
      exact ⟨by decide, hK⟩
    · have e : (decide (s = nI 0) || decide (s = nI 2)) = true := by rw [h2]; rfl
      rw [e] at hK
      exact ⟨by decide, hK⟩
def sX6_listStart : gS := fun av es K => ∃ x y t s, av = [.int x, .int y] ∧ x = nI t ∧ y = nI s ∧ t < 4 ∧ s < 4 ∧ es = [] ∧ K (some (.int (nI ((t * 2 + s / 2) * 8)))) []
def rmX6_listStart : Room := { frames := 0, cells := 0, slots := 0, locals := 0 }
def pX6_listStart (K : gK) : List (Nat × gO) := [(0, oILoad 0), (1, oConst (nI 2)), (2, oMul), (3, oILoad 1), (4, oConst (nI 2)), (5, oDiv), (6, oAdd), (7, oConst (nI 8)), (9, oMul), (10, oRet K 0 0)]
set_option maxRecDepth 100000 in
theorem kX6_listStart {X : gX} {l : Launch} (hM : gM X l cX6_listStart RX6 wsX6_listStart rmX6_listStart) {K : gK} (hE : gR X K 0 0 (some .int)) (hnL : X.2.2.2.2.2.2.2.2.2.2.2.2.2.2.2.2 = 2) : okL X (pX6_listStart K) := by
  obtain ⟨p, l1, e, R, s, m, args, below, meth, c, D, cA, A, ag, ad0, Q, nL⟩ := X
  cases hnL
  refine ⟨ok_iload_n hM 0 dX6_listStart_0 rfl,
    ok_iconst hM dX6_listStart_1 rfl,
    ok_imul hM dX6_listStart_2,
    ok_iload_n hM 1 dX6_listStart_3 rfl,
    ok_iconst hM dX6_listStart_4 rfl,
    ok_idiv hM dX6_listStart_5,
    ok_iadd hM dX6_listStart_6,
    ok_bipush hM dX6_listStart_7 rfl,
    ok_imul hM dX6_listStart_9,
    ok_ret hM hE dX6_listStart_10,
    trivial⟩
theorem ctX6_listStart (l : Launch) : Ct l yX6_listStart wsX6_listStart rmX6_listStart 0 0 false sX6_listStart := by
  refine ct_of (own := RX6) (cc := cX6_listStart) (maxL := 2) (ret := (some .int)) (by decide) rfl rfl (by rintro _ _ _ ⟨x, y, t, s, rfl, rfl, rfl, ht, hs, rfl, hK⟩; exact Nat.le_of_ble_eq_true rfl) ?_
  intro X av es K hM hE hag hin hnL hsp
  obtain ⟨x, y, t, s, rfl, rfl, rfl, ht, hs, rfl, hK⟩ := hsp
  have hf := kX6_listStart hM hE hnL
  refine wr_ok hf cut_nil 5 0 _ _ _ _ _ ?_
  refine ⟨by decide, ?_⟩
  have e : (nI t * nI 2 + nI s / nI 2) * nI 8 = nI ((t * 2 + s / 2) * 8) := by
    rw [pk_mul, pk_div (by omega) (by decide) (by decide), nI_add, pk_mul]
  rw [← e] at hK
  exact hK
abbrev moA (o : Nat) (ad ga : Nat → Int32) : List gE := [.inr (2, [.ref (o + 1), .ref (o + 2)]), .inl (0, 64, .inl ad), .inl (0, 32, .inl ga)]
abbrev moE (ad ga : Nat → Int32) : List gE := moA 0 ad ga
def sumI (f : Nat → Int32) : Nat → Int32
  | 0 => nI 0
  | n + 1 => sumI f n + f n
theorem sumI_cong {f g : Nat → Int32} : ∀ {n : Nat}, (∀ j, j < n → f j = g j) → sumI f n = sumI g n
  | 0, _ => rfl
  | n + 1, h => by
    unfold sumI
    rw [h n (by omega), sumI_cong (fun j hj => h j (by omega))]
def sX2_utilityOf : gS := fun av es K => ∃ x y t w ad ga, av = [.ref 0, .int x, .int y] ∧ x = nI t ∧ y = nI w ∧ t < 4 ∧ w ≤ 8 ∧ es = moE ad ga ∧ K (some (.int (sumI (fun p => ga (t * 8 + p)) w))) es
def rmX2_utilityOf : Room := { frames := 0, cells := 0, slots := 0, locals := 0 }
def pX2_utilityOf (K : gK) : List (Nat × gO) := [(0, oConst (nI 0)), (1, oIStore 5 3), (2, oConst (nI 0)), (3, oIStore 5 4), (5, oILoad 4), (7, oConst (nI 8)), (9, oICmp_ge 39), (12, oILoad 4), (14, oILoad 2), (15, oICmp_ge 39), (18, oILoad 3), (19, oALoad 0), (20, oGet 2 1), (23, oILoad 1), (24, oConst (nI 8)), (26, oMul), (27, oILoad 4), (29, oAdd), (30, oIALd 0), (31, oAdd), (32, oIStore 5 3), (33, oIInc 5 4 (nI 1)), (36, oGoto 5), (39, oILoad 3), (40, oRet K 0 0)]
set_option maxRecDepth 100000 in
theorem kX2_utilityOf {X : gX} {l : Launch} (hM : gM X l cX2_utilityOf RX2 wsX2_utilityOf rmX2_utilityOf) {K : gK} (hE : gR X K 0 0 (some .int)) (hnL : X.2.2.2.2.2.2.2.2.2.2.2.2.2.2.2.2 = 5) : okL X (pX2_utilityOf K) := by
  obtain ⟨p, l1, e, R, s, m, args, below, meth, c, D, cA, A, ag, ad0, Q, nL⟩ := X
  cases hnL
  refine ⟨ok_iconst hM dX2_utilityOf_0 rfl,
    ok_istore_n hM 3 dX2_utilityOf_1 rfl,
    ok_iconst hM dX2_utilityOf_2 rfl,
    ok_istore hM 4 dX2_utilityOf_3,
    ok_iload hM 4 dX2_utilityOf_5,
    ok_bipush hM dX2_utilityOf_7 rfl,
    ok_icmp_ge hM 39 dX2_utilityOf_9 (by decide),
    ok_iload hM 4 dX2_utilityOf_12,
    ok_iload_n hM 2 dX2_utilityOf_14 rfl,
    ok_icmp_ge hM 39 dX2_utilityOf_15 (by decide),
    ok_iload_n hM 3 dX2_utilityOf_18 rfl,
    ok_aload_n hM 0 dX2_utilityOf_19 rfl,
    ok_get (C := RX2) (T := TX2) (Nf := 2) hM (fun _ h => List.mem_cons_of_mem _ (List.mem_append_right _ h)) rfl 1 (by decide) (List.mem_of_getElem? (i := 1) rfl) rfl dX2_utilityOf_20,
    ok_iload_n hM 1 dX2_utilityOf_23 rfl,
    ok_bipush hM dX2_utilityOf_24 rfl,
    ok_imul hM dX2_utilityOf_26,
    ok_iload hM 4 dX2_utilityOf_27,
    ok_iadd hM dX2_utilityOf_29,
    ok_iald hM dX2_utilityOf_30,
    ok_iadd hM dX2_utilityOf_31,
    ok_istore_n hM 3 dX2_utilityOf_32 rfl,
    ok_iinc hM 4 dX2_utilityOf_33 rfl,
    ok_goto hM 5 dX2_utilityOf_36 (by decide),
    ok_iload_n hM 3 dX2_utilityOf_39 rfl,
    ok_ret hM hE dX2_utilityOf_40,
    trivial⟩
theorem ctX2_utilityOf (l : Launch) : Ct l yX2_utilityOf wsX2_utilityOf rmX2_utilityOf 0 0 false sX2_utilityOf := by
  refine ct_of (own := RX2) (cc := cX2_utilityOf) (maxL := 5) (ret := (some .int)) (by decide) rfl rfl (by rintro _ _ _ ⟨x, y, t, w, ad, ga, rfl, rfl, rfl, ht, hw, rfl, hK⟩; exact Nat.le_of_ble_eq_true rfl) ?_
  intro X av es K hM hE hag hin hnL hsp
  obtain ⟨x, y, t, w, ad, ga, rfl, rfl, rfl, ht, hw, rfl, hK⟩ := hsp
  have hf := kX2_utilityOf hM hE hnL
  refine g_with (X := X) 5 [0, 1, 2, 3, 4] (fun μ vs es k n => ∃ i : Nat, μ = 8 - i ∧ i ≤ w ∧ vs = [.ref 0, .int (nI t), .int (nI w), .int (sumI (fun p => ga (t * 8 + p)) i), .int (nI i)] ∧ es = moE ad ga ∧ k = 0 ∧ n = 0) cut_nil (fun μ hc vs es k n hI => ?_) (fun hc => ?_)
  · obtain ⟨i, rfl, hi, rfl, rfl, rfl, rfl⟩ := hI
    refine g_go hf hc 5 ?_
    refine ⟨fun h => ?_, fun h => ?_⟩
    · have : i = w := by
        rw [nI_leI (by decide) (by omega)] at h
        omega
      subst this
      exact hK
    · rw [nI_leI (by decide) (by omega)] at h
      refine ⟨fun h2 => ?_, fun h2 => ?_⟩
      · have : i = w := by
          rw [nI_leI (by omega) (by omega)] at h2
          omega
        subst this
        exact hK
      · rw [nI_leI (by omega) (by omega)] at h2
        refine ⟨t * 8 + i, by rw [pk_mul, nI_add], by omega, ?_⟩
        exact ⟨8 - (i + 1), by omega, i + 1, rfl, by omega, by rw [nI_add]; rfl, rfl, rfl, rfl⟩
  · refine wr_ok hf hc 5 0 _ _ _ _ _ ?_
    exact ⟨8, 0, rfl, by omega, rfl, rfl, rfl, rfl⟩
def sX2_sumOfGains : gS := fun av es K => ∃ ad ga, av = [.ref 0] ∧ es = moE ad ga ∧ K (some (.int (sumI ga 32))) es
def rmX2_sumOfGains : Room := { frames := 0, cells := 0, slots := 0, locals := 0 }
def pX2_sumOfGains (K : gK) : List (Nat × gO) := [(0, oConst (nI 0)), (1, oIStore 3 1), (2, oConst (nI 0)), (3, oIStore 3 2), (4, oILoad 2), (5, oALoad 0), (6, oGet 2 1), (9, oALen), (10, oICmp_ge 28), (13, oILoad 1), (14, oALoad 0), (15, oGet 2 1), (18, oILoad 2), (19, oIALd 0), (20, oAdd), (21, oIStore 3 1), (22, oIInc 3 2 (nI 1)), (25, oGoto 4), (28, oILoad 1), (29, oRet K 0 0)]
set_option maxRecDepth 100000 in
theorem kX2_sumOfGains {X : gX} {l : Launch} (hM : gM X l cX2_sumOfGains RX2 wsX2_sumOfGains rmX2_sumOfGains) {K : gK} (hE : gR X K 0 0 (some .int)) (hnL : X.2.2.2.2.2.2.2.2.2.2.2.2.2.2.2.2 = 3) : okL X (pX2_sumOfGains K) := by
  obtain ⟨p, l1, e, R, s, m, args, below, meth, c, D, cA, A, ag, ad0, Q, nL⟩ := X
  cases hnL
  refine ⟨ok_iconst hM dX2_sumOfGains_0 rfl,
    ok_istore_n hM 1 dX2_sumOfGains_1 rfl,
    ok_iconst hM dX2_sumOfGains_2 rfl,
    ok_istore_n hM 2 dX2_sumOfGains_3 rfl,
    ok_iload_n hM 2 dX2_sumOfGains_4 rfl,
    ok_aload_n hM 0 dX2_sumOfGains_5 rfl,
    ok_get (C := RX2) (T := TX2) (Nf := 2) hM (fun _ h => List.mem_cons_of_mem _ (List.mem_append_right _ h)) rfl 1 (by decide) (List.mem_of_getElem? (i := 1) rfl) rfl dX2_sumOfGains_6,
    ok_alen hM dX2_sumOfGains_9,
    ok_icmp_ge hM 28 dX2_sumOfGains_10 (by decide),
    ok_iload_n hM 1 dX2_sumOfGains_13 rfl,
    ok_aload_n hM 0 dX2_sumOfGains_14 rfl,
    ok_get (C := RX2) (T := TX2) (Nf := 2) hM (fun _ h => List.mem_cons_of_mem _ (List.mem_append_right _ h)) rfl 1 (by decide) (List.mem_of_getElem? (i := 1) rfl) rfl dX2_sumOfGains_15,
    ok_iload_n hM 2 dX2_sumOfGains_18 rfl,
    ok_iald hM dX2_sumOfGains_19,
    ok_iadd hM dX2_sumOfGains_20,
    ok_istore_n hM 1 dX2_sumOfGains_21 rfl,
    ok_iinc hM 2 dX2_sumOfGains_22 rfl,
    ok_goto hM 4 dX2_sumOfGains_25 (by decide),
    ok_iload_n hM 1 dX2_sumOfGains_28 rfl,
    ok_ret hM hE dX2_sumOfGains_29,
    trivial⟩
theorem ctX2_sumOfGains (l : Launch) : Ct l yX2_sumOfGains wsX2_sumOfGains rmX2_sumOfGains 0 0 false sX2_sumOfGains := by
  refine ct_of (own := RX2) (cc := cX2_sumOfGains) (maxL := 3) (ret := (some .int)) (by decide) rfl rfl (by rintro _ _ _ ⟨ad, ga, rfl, rfl, hK⟩; exact Nat.le_of_ble_eq_true rfl) ?_
  intro X av es K hM hE hag hin hnL hsp
  obtain ⟨ad, ga, rfl, rfl, hK⟩ := hsp
  have hf := kX2_sumOfGains hM hE hnL
  refine g_with (X := X) 4 [0, 1, 2] (fun μ vs es k n => ∃ i : Nat, μ = 32 - i ∧ i ≤ 32 ∧ vs = [.ref 0, .int (sumI ga i), .int (nI i)] ∧ es = moE ad ga ∧ k = 0 ∧ n = 0) cut_nil (fun μ hc vs es k n hI => ?_) (fun hc => ?_)
  · obtain ⟨i, rfl, hi, rfl, rfl, rfl, rfl⟩ := hI
    refine g_go hf hc 5 ?_
    refine ⟨fun h => ?_, fun h => ?_⟩
    · have : i = 32 := by
        rw [nI_leI (by decide) (by omega)] at h
        omega
      subst this
      exact hK
    · rw [nI_leI (by decide) (by omega)] at h
      refine ⟨i, rfl, by omega, ?_⟩
      exact ⟨32 - (i + 1), by omega, i + 1, rfl, by omega, by rw [nI_add]; rfl, rfl, rfl, rfl⟩
  · refine wr_ok hf hc 5 0 _ _ _ _ _ ?_
    exact ⟨32, 0, rfl, by omega, rfl, rfl, rfl, rfl⟩
def hlv (ga : Nat → Int32) : Nat → Int32 := fun j => ga j / nI 2
def sX2_halve : gS := fun av es K => ∃ ad ga, av = [.ref 0] ∧ es = moE ad ga ∧ K none (moE ad (hlv ga))
def rmX2_halve : Room := { frames := 0, cells := 0, slots := 0, locals := 0 }
def pX2_halve (K : gK) : List (Nat × gO) := [(0, oConst (nI 0)), (1, oIStore 2 1), (2, oILoad 1), (3, oALoad 0), (4, oGet 2 1), (7, oALen), (8, oICmp_ge 27), (11, oALoad 0), (12, oGet 2 1), (15, oILoad 1), (16, oDup2), (17, oIALd 0), (18, oConst (nI 2)), (19, oDiv), (20, oIASt), (21, oIInc 2 1 (nI 1)), (24, oGoto 2), (27, oRetV K 0 0)]
set_option maxRecDepth 100000 in
theorem kX2_halve {X : gX} {l : Launch} (hM : gM X l cX2_halve RX2 wsX2_halve rmX2_halve) {K : gK} (hE : gR X K 0 0 none) (hnL : X.2.2.2.2.2.2.2.2.2.2.2.2.2.2.2.2 = 2) : okL X (pX2_halve K) := by
  obtain ⟨p, l1, e, R, s, m, args, below, meth, c, D, cA, A, ag, ad0, Q, nL⟩ := X
  cases hnL
  refine ⟨ok_iconst hM dX2_halve_0 rfl,
    ok_istore_n hM 1 dX2_halve_1 rfl,
    ok_iload_n hM 1 dX2_halve_2 rfl,
    ok_aload_n hM 0 dX2_halve_3 rfl,
    ok_get (C := RX2) (T := TX2) (Nf := 2) hM (fun _ h => List.mem_cons_of_mem _ (List.mem_append_right _ h)) rfl 1 (by decide) (List.mem_of_getElem? (i := 1) rfl) rfl dX2_halve_4,
    ok_alen hM dX2_halve_7,
    ok_icmp_ge hM 27 dX2_halve_8 (by decide),
    ok_aload_n hM 0 dX2_halve_11 rfl,
    ok_get (C := RX2) (T := TX2) (Nf := 2) hM (fun _ h => List.mem_cons_of_mem _ (List.mem_append_right _ h)) rfl 1 (by decide) (List.mem_of_getElem? (i := 1) rfl) rfl dX2_halve_12,
    ok_iload_n hM 1 dX2_halve_15 rfl,
    ok_dup2 hM dX2_halve_16,
    ok_iald hM dX2_halve_17,
    ok_iconst hM dX2_halve_18 rfl,
    ok_idiv hM dX2_halve_19,
    ok_iast hM dX2_halve_20,
    ok_iinc hM 1 dX2_halve_21 rfl,
    ok_goto hM 2 dX2_halve_24 (by decide),
    ok_retV hM hE dX2_halve_27,
    trivial⟩
theorem ctX2_halve (l : Launch) : Ct l yX2_halve wsX2_halve rmX2_halve 0 0 false sX2_halve := by
  refine ct_of (own := RX2) (cc := cX2_halve) (maxL := 2) (ret := none) (by decide) rfl rfl (by rintro _ _ _ ⟨ad, ga, rfl, rfl, hK⟩; exact Nat.le_of_ble_eq_true rfl) ?_
  intro X av es K hM hE hag hin hnL hsp
  obtain ⟨ad, ga, rfl, rfl, hK⟩ := hsp
  have hf := kX2_halve hM (gR_eqv hE) hnL
  refine g_with (X := X) 2 [0, 1] (fun μ vs es k n => ∃ (i : Nat) (g : Nat → Int32), μ = 32 - i ∧ i ≤ 32 ∧ (∀ j, g j = if j < i then ga j / nI 2 else ga j) ∧ vs = [.ref 0, .int (nI i)] ∧ es = moE ad g ∧ k = 0 ∧ n = 0) cut_nil (fun μ hc vs es k n hI => ?_) (fun hc => ?_)
  · obtain ⟨i, g, rfl, hi, hg, rfl, rfl, rfl, rfl⟩ := hI
    refine g_go hf hc 5 ?_
    refine ⟨fun h => ?_, fun h => ?_⟩
    · have : i = 32 := by
        rw [nI_leI (by decide) (by omega)] at h
        omega
      subst this
      exact ⟨moE ad (hlv ga), ⟨rfl, ⟨rfl, rfl, fun _ _ => rfl⟩, ⟨rfl, rfl, fun j hj => by rw [hg, if_pos hj]; rfl⟩, trivial⟩, hK⟩
    · rw [nI_leI (by decide) (by omega)] at h
      refine ⟨i, rfl, by omega, ?_⟩
      refine ⟨by decide, ?_⟩
      refine ⟨i, rfl, by omega, ?_⟩
      refine ⟨32 - (i + 1), by omega, i + 1, upd g i (g i / nI 2), rfl, by omega, fun j => ?_, by rw [nI_add], rfl, rfl, rfl⟩
      unfold upd
      by_cases hj : j = i
      · subst hj
        rw [if_pos rfl, if_pos (by omega), hg, if_neg (by omega)]
      · rw [if_neg hj, hg]
        by_cases hj2 : j < i
        · rw [if_pos hj2, if_pos (by omega)]
        · rw [if_neg hj2, if_neg (by omega)]
  · refine wr_ok hf hc 5 0 _ _ _ _ _ ?_
    exact ⟨32, 0, ga, rfl, by omega, fun j => by simp, rfl, rfl, rfl, rfl⟩
def sX2_copyFrom : gS := fun av es K => ∃ ad ga ad' ga', av = [.ref 0, .ref 3] ∧ es = moA 0 ad ga ++ moA 3 ad' ga' ∧ K none (moA 0 ad' ga' ++ moA 3 ad' ga')
def rmX2_copyFrom : Room := { frames := 1, cells := 0, slots := 0, locals := 60 }
def pX2_copyFrom (K : gK) : List (Nat × gO) := [(0, oALoad 1), (1, oGet 2 0), (4, oConst (nI 0)), (5, oALoad 0), (6, oGet 2 0), (9, oConst (nI 0)), (10, oALoad 0), (11, oGet 2 0), (14, oALen), (15, oCopy 60), (18, oALoad 1), (19, oGet 2 1), (22, oConst (nI 0)), (23, oALoad 0), (24, oGet 2 1), (27, oConst (nI 0)), (28, oALoad 0), (29, oGet 2 1), (32, oALen), (33, oCopy 60), (36, oRetV K 0 0)]
set_option maxRecDepth 100000 in
theorem kX2_copyFrom {X : gX} {l : Launch} (hM : gM X l cX2_copyFrom RX2 wsX2_copyFrom rmX2_copyFrom) {K : gK} (hE : gR X K 0 0 none) (hnL : X.2.2.2.2.2.2.2.2.2.2.2.2.2.2.2.2 = 2) : okL X (pX2_copyFrom K) := by
  obtain ⟨p, l1, e, R, s, m, args, below, meth, c, D, cA, A, ag, ad0, Q, nL⟩ := X
  cases hnL
  refine ⟨ok_aload_n hM 1 dX2_copyFrom_0 rfl,
    ok_get (C := RX2) (T := TX2) (Nf := 2) hM (fun _ h => List.mem_cons_of_mem _ (List.mem_append_right _ h)) rfl 0 (by decide) (List.mem_of_getElem? (i := 1) rfl) rfl dX2_copyFrom_1,
    ok_iconst hM dX2_copyFrom_4 rfl,
    ok_aload_n hM 0 dX2_copyFrom_5 rfl,
    ok_get (C := RX2) (T := TX2) (Nf := 2) hM (fun _ h => List.mem_cons_of_mem _ (List.mem_append_right _ h)) rfl 0 (by decide) (List.mem_of_getElem? (i := 1) rfl) rfl dX2_copyFrom_6,
    ok_iconst hM dX2_copyFrom_9 rfl,
    ok_aload_n hM 0 dX2_copyFrom_10 rfl,
    ok_get (C := RX2) (T := TX2) (Nf := 2) hM (fun _ h => List.mem_cons_of_mem _ (List.mem_append_right _ h)) rfl 0 (by decide) (List.mem_of_getElem? (i := 1) rfl) rfl dX2_copyFrom_11,
    ok_alen hM dX2_copyFrom_14,
    ok_copy hM (List.mem_of_getElem? (i := 2) rfl) (List.mem_of_getElem? (i := 3) rfl) (List.mem_of_getElem? (i := 4) rfl) (List.mem_of_getElem? (i := 5) rfl) (by decide) (by decide +kernel) dX2_copyFrom_15,
    ok_aload_n hM 1 dX2_copyFrom_18 rfl,
    ok_get (C := RX2) (T := TX2) (Nf := 2) hM (fun _ h => List.mem_cons_of_mem _ (List.mem_append_right _ h)) rfl 1 (by decide) (List.mem_of_getElem? (i := 6) rfl) rfl dX2_copyFrom_19,
    ok_iconst hM dX2_copyFrom_22 rfl,
    ok_aload_n hM 0 dX2_copyFrom_23 rfl,
    ok_get (C := RX2) (T := TX2) (Nf := 2) hM (fun _ h => List.mem_cons_of_mem _ (List.mem_append_right _ h)) rfl 1 (by decide) (List.mem_of_getElem? (i := 6) rfl) rfl dX2_copyFrom_24,
    ok_iconst hM dX2_copyFrom_27 rfl,
    ok_aload_n hM 0 dX2_copyFrom_28 rfl,
    ok_get (C := RX2) (T := TX2) (Nf := 2) hM (fun _ h => List.mem_cons_of_mem _ (List.mem_append_right _ h)) rfl 1 (by decide) (List.mem_of_getElem? (i := 6) rfl) rfl dX2_copyFrom_29,
    ok_alen hM dX2_copyFrom_32,
    ok_copy hM (List.mem_of_getElem? (i := 2) rfl) (List.mem_of_getElem? (i := 3) rfl) (List.mem_of_getElem? (i := 4) rfl) (List.mem_of_getElem? (i := 5) rfl) (by decide) (by decide +kernel) dX2_copyFrom_33,
    ok_retV hM hE dX2_copyFrom_36,
    trivial⟩
theorem ctX2_copyFrom (l : Launch) : Ct l yX2_copyFrom wsX2_copyFrom rmX2_copyFrom 0 0 false sX2_copyFrom := by
  refine ct_of (own := RX2) (cc := cX2_copyFrom) (maxL := 2) (ret := none) (by decide) rfl rfl (by rintro _ _ _ ⟨ad, ga, ad', ga', rfl, rfl, hK⟩; exact Nat.le_of_ble_eq_true rfl) ?_
  intro X av es K hM hE hag hin hnL hsp
  obtain ⟨ad, ga, ad', ga', rfl, rfl, hK⟩ := hsp
  have hf := kX2_copyFrom hM (gR_eqv hE) hnL
  refine wr_ok hf cut_nil 5 0 _ _ _ _ _ ?_
  refine ⟨64, rfl, rfl, rfl, by omega, by omega, ?_⟩
  refine ⟨32, rfl, rfl, rfl, by omega, by omega, ?_⟩
  exact ⟨moA 0 ad' ga' ++ moA 3 ad' ga', ⟨rfl, ⟨rfl, rfl, fun _ h => cpy0 h⟩, ⟨rfl, rfl, fun _ h => cpy0 h⟩, rfl, ⟨rfl, rfl, fun _ _ => rfl⟩, ⟨rfl, rfl, fun _ _ => rfl⟩, trivial⟩, hK⟩
-- note
def lastm (p : Nat → Bool) : Nat → Nat
  | 0 => 7
  | n + 1 => if p n = true then n else lastm p n
theorem lastm_le (p : Nat → Bool) : ∀ {n : Nat}, n ≤ 8 → lastm p n ≤ 7
  | 0, _ => Nat.le_refl _
  | n + 1, h => by
    unfold lastm
    split
    · omega
    · exact lastm_le p (by omega)
def nGa (ad ga : Nat → Int32) (t s a : Nat) : Nat → Int32 := fun j => if 8 * t ≤ j ∧ j < 8 * t + 8 ∧ ad (s + (j - 8 * t)) = nI a then ga j + nI 1 else ga j
def nL (ad : Nat → Int32) (s a : Nat) : Nat := lastm (fun p => decide (ad (s + p) = nI a)) 8
def nAd (ad : Nat → Int32) (s a : Nat) : Nat → Int32 := fun j => if j = s then nI a else if s < j ∧ j ≤ s + nL ad s a then ad (j - 1) else ad j
def sX2_note : gS := fun av es K => ∃ x y t a ad ga, av = [.ref 0, .int x, .int y] ∧ x = nI t ∧ y = nI a ∧ t < 4 ∧ a < 256 ∧ es = moE ad ga ∧ K none (if a % 2 = 0 then moE (nAd ad ((t * 2 + a % 4 / 2) * 8) a) (nGa ad ga t ((t * 2 + a % 4 / 2) * 8) a) else moE ad ga)
def rmX2_note : Room := { frames := 1, cells := 0, slots := 0, locals := 21 }
def pX2_note (K : gK) : List (Nat × gO) := [(0, oILoad 2), (1, oConst (nI 4)), (2, oRem), (3, oIStore 7 3), (4, oILoad 3), (5, oCallS 0 0 1 [] sX6_isSampled), (8, oIf_ne 12), (11, oRetV K 0 0), (12, oILoad 1), (13, oILoad 3), (14, oCallS 0 0 2 [] sX6_listStart), (17, oIStore 7 4), (19, oConst (nI 7)), (21, oIStore 7 5), (23, oConst (nI 0)), (24, oIStore 7 6), (26, oILoad 6), (28, oConst (nI 8)), (30, oICmp_ge 73), (33, oALoad 0), (34, oGet 2 0), (37, oILoad 4), (39, oILoad 6), (41, oAdd), (42, oIALd 0), (43, oILoad 2), (44, oICmp_ne 67), (47, oALoad 0), (48, oGet 2 1), (51, oILoad 1), (52, oConst (nI 8)), (54, oMul), (55, oILoad 6), (57, oAdd), (58, oDup2), (59, oIALd 0), (60, oConst (nI 1)), (61, oAdd), (62, oIASt), (63, oILoad 6), (65, oIStore 7 5), (67, oIInc 7 6 (nI 1)), (70, oGoto 26), (73, oILoad 5), (75, oIStore 7 6), (77, oILoad 6), (79, oIf_le 110), (82, oALoad 0), (83, oGet 2 0), (86, oILoad 4), (88, oILoad 6), (90, oAdd), (91, oALoad 0), (92, oGet 2 0), (95, oILoad 4), (97, oILoad 6), (99, oAdd), (100, oConst (nI 1)), (101, oSub), (102, oIALd 0), (103, oIASt), (104, oIInc 7 6 (-1)), (107, oGoto 77), (110, oALoad 0), (111, oGet 2 0), (114, oILoad 4), (116, oILoad 2), (117, oIASt), (118, oRetV K 0 0)]
set_option maxRecDepth 100000 in
theorem kX2_note {X : gX} {l : Launch} (hM : gM X l cX2_note RX2 wsX2_note rmX2_note) {K : gK} (hE : gR X K 0 0 none) (hnL : X.2.2.2.2.2.2.2.2.2.2.2.2.2.2.2.2 = 7) : okL X (pX2_note K) := by
  obtain ⟨p, l1, e, R, s, m, args, below, meth, c, D, cA, A, ag, ad0, Q, nL⟩ := X
  cases hnL
  refine ⟨ok_iload_n hM 2 dX2_note_0 rfl,
    ok_iconst hM dX2_note_1 rfl,
    ok_irem hM dX2_note_2,
    ok_istore_n hM 3 dX2_note_3 rfl,
    ok_iload_n hM 3 dX2_note_4 rfl,
    ok_callSN hM [] (ctX6_isSampled l) rfl gX2_note_X6_isSampled_n24 rfl rfl rfl (by decide) (List.mem_of_getElem? (i := 3) rfl) (List.mem_of_getElem? (i := 4) rfl) (by decide +kernel) (by decide) dX2_note_5,
    ok_if_ne hM 12 dX2_note_8 (by decide),
    ok_retV hM hE dX2_note_11,
    ok_iload_n hM 1 dX2_note_12 rfl,
    ok_iload_n hM 3 dX2_note_13 rfl,
    ok_callSN hM [] (ctX6_listStart l) rfl gX2_note_X6_listStart_n28 rfl rfl rfl (by decide) (List.mem_of_getElem? (i := 6) rfl) (List.mem_of_getElem? (i := 4) rfl) (by decide +kernel) (by decide) dX2_note_14,
    ok_istore hM 4 dX2_note_17,
    ok_bipush hM dX2_note_19 rfl,
    ok_istore hM 5 dX2_note_21,
    ok_iconst hM dX2_note_23 rfl,
    ok_istore hM 6 dX2_note_24,
    ok_iload hM 6 dX2_note_26,
    ok_bipush hM dX2_note_28 rfl,
    ok_icmp_ge hM 73 dX2_note_30 (by decide),
    ok_aload_n hM 0 dX2_note_33 rfl,
    ok_get (C := RX2) (T := TX2) (Nf := 2) hM (fun _ h => List.mem_cons_of_mem _ (List.mem_append_right _ h)) rfl 0 (by decide) (List.mem_of_getElem? (i := 1) rfl) rfl dX2_note_34,
    ok_iload hM 4 dX2_note_37,
    ok_iload hM 6 dX2_note_39,
    ok_iadd hM dX2_note_41,
    ok_iald hM dX2_note_42,
    ok_iload_n hM 2 dX2_note_43 rfl,
    ok_icmp_ne hM 67 dX2_note_44 (by decide),
    ok_aload_n hM 0 dX2_note_47 rfl,
    ok_get (C := RX2) (T := TX2) (Nf := 2) hM (fun _ h => List.mem_cons_of_mem _ (List.mem_append_right _ h)) rfl 1 (by decide) (List.mem_of_getElem? (i := 2) rfl) rfl dX2_note_48,
    ok_iload_n hM 1 dX2_note_51 rfl,
    ok_bipush hM dX2_note_52 rfl,
    ok_imul hM dX2_note_54,
    ok_iload hM 6 dX2_note_55,
    ok_iadd hM dX2_note_57,
    ok_dup2 hM dX2_note_58,
    ok_iald hM dX2_note_59,
    ok_iconst hM dX2_note_60 rfl,
    ok_iadd hM dX2_note_61,
    ok_iast hM dX2_note_62,
    ok_iload hM 6 dX2_note_63,
    ok_istore hM 5 dX2_note_65,
    ok_iinc hM 6 dX2_note_67 rfl,
    ok_goto hM 26 dX2_note_70 (by decide),
    ok_iload hM 5 dX2_note_73,
    ok_istore hM 6 dX2_note_75,
    ok_iload hM 6 dX2_note_77,
    ok_if_le hM 110 dX2_note_79 (by decide),
    ok_aload_n hM 0 dX2_note_82 rfl,
    ok_get (C := RX2) (T := TX2) (Nf := 2) hM (fun _ h => List.mem_cons_of_mem _ (List.mem_append_right _ h)) rfl 0 (by decide) (List.mem_of_getElem? (i := 1) rfl) rfl dX2_note_83,
    ok_iload hM 4 dX2_note_86,
    ok_iload hM 6 dX2_note_88,
    ok_iadd hM dX2_note_90,
    ok_aload_n hM 0 dX2_note_91 rfl,
    ok_get (C := RX2) (T := TX2) (Nf := 2) hM (fun _ h => List.mem_cons_of_mem _ (List.mem_append_right _ h)) rfl 0 (by decide) (List.mem_of_getElem? (i := 1) rfl) rfl dX2_note_92,
    ok_iload hM 4 dX2_note_95,
    ok_iload hM 6 dX2_note_97,
    ok_iadd hM dX2_note_99,
    ok_iconst hM dX2_note_100 rfl,
    ok_isub hM dX2_note_101,
    ok_iald hM dX2_note_102,
    ok_iast hM dX2_note_103,
    ok_iinc hM 6 dX2_note_104 rfl,
    ok_goto hM 77 dX2_note_107 (by decide),
    ok_aload_n hM 0 dX2_note_110 rfl,
    ok_get (C := RX2) (T := TX2) (Nf := 2) hM (fun _ h => List.mem_cons_of_mem _ (List.mem_append_right _ h)) rfl 0 (by decide) (List.mem_of_getElem? (i := 1) rfl) rfl dX2_note_111,
    ok_iload hM 4 dX2_note_114,
    ok_iload_n hM 2 dX2_note_116 rfl,
    ok_iast hM dX2_note_117,
    ok_retV hM hE dX2_note_118,
    trivial⟩
theorem ctX2_note (l : Launch) : Ct l yX2_note wsX2_note rmX2_note 0 0 false sX2_note := by
  refine ct_of (own := RX2) (cc := cX2_note) (maxL := 7) (ret := none) (by decide) rfl rfl (by rintro _ _ _ ⟨x, y, t, a, ad, ga, rfl, rfl, rfl, ht, ha, rfl, hK⟩; exact Nat.le_of_ble_eq_true rfl) ?_
  intro X av es K hM hE hag hin hnL hsp
  obtain ⟨x, y, t, a, ad, ga, rfl, rfl, rfl, ht, ha, rfl, hK⟩ := hsp
  have hf := kX2_note hM (gR_eqv hE) hnL
  have hs : (t * 2 + a % 4 / 2) * 8 + 8 ≤ 64 := by omega
  generalize hsd : (t * 2 + a % 4 / 2) * 8 = sr at hK hs
  have hl7 : nL ad sr a ≤ 7 := lastm_le _ (by omega)
  refine g_with (X := X) 77 [0, 1, 2, 4, 6] (fun μ vs es k n => ∃ (i : Nat) (ad' : Nat → Int32), μ = i + 1 ∧ i ≤ nL ad sr a ∧ a % 2 = 0 ∧ (∀ j, ad' j = if sr + i < j ∧ j ≤ sr + nL ad sr a then ad (j - 1) else ad j) ∧ vs = [.ref 0, .int (nI t), .int (nI a), .int (nI sr), .int (nI i)] ∧ eqL es (moE ad' (nGa ad ga t sr a)) ∧ k = 0 ∧ n = 0) cut_nil (fun μ hc vs es k n hI => ?_) (fun hc2 => ?_)
  · obtain ⟨i, ad', rfl, hi, hev, had, rfl, he, rfl, rfl⟩ := hI
    refine G_eqv he ?_
    refine g_go hf hc 5 ?_
    refine ⟨fun h => ?_, fun h => ?_⟩
    · have h0 : i = 0 := by
        rcases Nat.eq_zero_or_pos i with q | q
        · exact q
        · exact absurd h (nI_nle q (by omega))
      subst h0
      rw [if_pos hev] at hK
      refine ⟨sr, rfl, by omega, ?_⟩
      refine ⟨moE (nAd ad sr a) (nGa ad ga t sr a), ⟨rfl, ⟨rfl, rfl, fun j hj => ?_⟩, ⟨rfl, rfl, fun _ _ => rfl⟩, trivial⟩, hK⟩
      simp only [upd, nAd, had, Nat.add_zero]
    · have h0 : 0 < i := by
        rcases Nat.eq_zero_or_pos i with q | q
        · subst q; exact absurd (by decide) h
        · exact q
      have e1 : nI sr + nI i - nI 1 = nI (sr + i - 1) := by rw [nI_add, pk_sub (by omega)]
      refine ⟨sr + i - 1, e1, by omega, ?_⟩
      refine ⟨sr + i, nI_add _ _, by omega, ?_⟩
      refine ⟨i - 1 + 1, by omega, i - 1, upd ad' (sr + i) (ad' (sr + i - 1)), rfl, by omega, hev, fun j => ?_, ?_, eqL_rfl _, rfl, rfl⟩
      · unfold upd
        by_cases hj : j = sr + i
        · subst hj
          rw [if_pos rfl, if_pos ⟨by omega, by omega⟩, had, if_neg (by omega)]
        · rw [if_neg hj, had]
          by_cases hj2 : sr + i < j ∧ j ≤ sr + nL ad sr a
          · rw [if_pos hj2, if_pos ⟨by omega, hj2.2⟩]
          · rw [if_neg hj2, if_neg (by omega)]
      · have e2 : nI i + (-1) = nI (i - 1) := sb_m1 h0
        rw [e2]
  · refine g_with (X := X) 26 [0, 1, 2, 4, 5, 6] (fun μ vs es k n => ∃ (i : Nat) (g : Nat → Int32), μ = 8 - i ∧ i ≤ 8 ∧ a % 2 = 0 ∧ (∀ j, g j = if 8 * t ≤ j ∧ j < 8 * t + i ∧ ad (sr + (j - 8 * t)) = nI a then ga j + nI 1 else ga j) ∧ vs = [.ref 0, .int (nI t), .int (nI a), .int (nI sr), .int (nI (lastm (fun p => decide (ad (sr + p) = nI a)) i)), .int (nI i)] ∧ es = moE ad g ∧ k = 0 ∧ n = 0) hc2 (fun μ hc vs es k n hI => ?_) (fun hc => ?_)
    · obtain ⟨i, g, rfl, hi, hev, hg, rfl, rfl, rfl, rfl⟩ := hI
      refine g_go hf hc 5 ?_
      refine ⟨fun h => ?_, fun h => ?_⟩
      · have h8 : i = 8 := by
          rw [nI_leI (by decide) (by omega)] at h
          omega
        subst h8
        refine ⟨nL ad sr a + 1, nL ad sr a, ad, rfl, Nat.le_refl _, hev, fun j => by rw [if_neg (by omega)], rfl, ⟨rfl, ⟨rfl, rfl, fun _ _ => rfl⟩, ⟨rfl, rfl, fun j _ => ?_⟩, trivial⟩, rfl, rfl⟩
        rw [hg]
        rfl
      · rw [nI_leI (by decide) (by omega)] at h
        refine ⟨sr + i, nI_add _ _, by omega, ?_⟩
        refine ⟨fun h2 => ?_, fun h2 => ?_⟩
        · refine ⟨8 - (i + 1), by omega, i + 1, g, rfl, by omega, hev, fun j => ?_, by rw [nI_add]; simp only [lastm, decide_eq_false h2, Bool.false_eq_true, if_false], rfl, rfl, rfl⟩
          rw [hg]
          by_cases hj : j = 8 * t + i
          · subst hj
            have e3 : sr + (8 * t + i - 8 * t) = sr + i := by omega
            rw [if_neg (by omega), if_neg (by rw [e3]; exact fun q => h2 q.2.2)]
          · have : (8 * t ≤ j ∧ j < 8 * t + i ∧ ad (sr + (j - 8 * t)) = nI a) ↔ (8 * t ≤ j ∧ j < 8 * t + (i + 1) ∧ ad (sr + (j - 8 * t)) = nI a) := ⟨fun q => ⟨q.1, by omega, q.2.2⟩, fun q => ⟨q.1, by omega, q.2.2⟩⟩
            simp only [this]
        · have e4 : nI t * nI 8 + nI i = nI (8 * t + i) := by rw [pk_mul, nI_add, Nat.mul_comm]
          refine ⟨8 * t + i, e4, by omega, ?_⟩
          refine ⟨8 * t + i, e4, by omega, ?_⟩
          refine ⟨8 - (i + 1), by omega, i + 1, upd g (8 * t + i) (g (8 * t + i) + nI 1), rfl, by omega, hev, fun j => ?_, by rw [nI_add]; simp only [lastm, decide_eq_true h2, if_true], rfl, rfl, rfl⟩
          unfold upd
          by_cases hj : j = 8 * t + i
          · subst hj
            have e3 : sr + (8 * t + i - 8 * t) = sr + i := by omega
            rw [if_pos rfl, if_pos ⟨by omega, by omega, by rw [e3]; exact h2⟩, hg, if_neg (by omega)]
          · rw [if_neg hj, hg]
            have : (8 * t ≤ j ∧ j < 8 * t + i ∧ ad (sr + (j - 8 * t)) = nI a) ↔ (8 * t ≤ j ∧ j < 8 * t + (i + 1) ∧ ad (sr + (j - 8 * t)) = nI a) := ⟨fun q => ⟨q.1, by omega, q.2.2⟩, fun q => ⟨q.1, by omega, q.2.2⟩⟩
            simp only [this]
    · refine wr_ok hf hc 5 0 _ _ _ _ _ ?_
      refine ⟨by decide, ?_⟩
      refine ⟨_, rfl, rfl, ?_⟩
      rw [rem4 ha]
      have hd0 : (nI (a % 4) = nI 0) ↔ a % 4 = 0 := nI_eq (by omega) (by decide)
      have hd2 : (nI (a % 4) = nI 2) ↔ a % 4 = 2 := nI_eq (by omega) (by decide)
      refine ⟨fun h => ?_, fun h => ?_⟩
      · refine ⟨_, _, t, a % 4, rfl, rfl, rfl, ht, by omega, rfl, ?_⟩
        have hev : a % 2 = 0 := by
          by_cases q : a % 2 = 0
          · exact q
          · exfalso
            apply h
            rw [bI_0, decide_eq_false (by rw [hd0]; omega), decide_eq_false (by rw [hd2]; omega)]
            rfl
        rw [hsd]
        exact ⟨8, 0, ga, rfl, by omega, hev, fun j => by rw [if_neg (by omega)], rfl, rfl, rfl, rfl⟩
      · have hev : ¬ a % 2 = 0 := by
          intro q
          rw [bI_0] at h
          have : a % 4 = 0 ∨ a % 4 = 2 := by omega
          rcases this with q | q
          · rw [decide_eq_true (hd0.mpr q)] at h
            cases h
          · rw [decide_eq_true (hd2.mpr q), Bool.or_true] at h
            cases h
        rw [if_neg hev] at hK
        exact ⟨moE ad ga, eqL_rfl _, hK⟩
end MM
end
