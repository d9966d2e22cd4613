/-! A calculus of abstract states: a method's code is a list of steps; a step takes what holds behind it to what must hold ahead of it; the cells of a world are numbered, a reference is a number, and one function gives the addresses. -/
section GE
abbrev gD : Type := (Nat → Int32) ⊕ (Nat → Int64) ⊕ (Nat → UInt64) ⊕ List (Option Nat)
abbrev gE : Type := (Nat × Nat × gD) ⊕ (Nat × List Value)
abbrev gP : Type := List (Nat × Value) → List Value → List gE → Nat → Nat → Prop
abbrev gO : Type := (Nat → gP) → gP → gP
abbrev gK : Type := Option Value → List gE → Prop
abbrev gI (f : Nat → Int32) : gD := .inl f
def gv (ad : Nat → Nat) : Value → Value
  | .ref k => .ref (ad k)
  | v => v
def ge (cA : Nat → ClassId) (ad : Nat → Nat) : gE → va_E
  | .inr (c, fs) => .inr (c, fs.map (gv ad))
  | .inl (t, n, .inl f) => .inl (cA t, n, .inl f)
  | .inl (t, n, .inr (.inl f)) => .inl (cA t, n, .inr (.inl f))
  | .inl (t, n, .inr (.inr (.inl f))) => .inl (cA t, n, .inr (.inr (.inr (.inl f))))
  | .inl (t, n, .inr (.inr (.inr r))) => .inl (cA t, n, .inr (.inr (.inr (.inr (fun j => (r.getD j none).map ad)))))
def gw (cA : Nat → ClassId) (ad : Nat → Nat) (es : List gE) : va_W := es.mapIdx (fun k e => (ad k, ge cA ad e))
def gT (cA : Nat → ClassId) : List (ClassId × FieldType) := [(cA 0, .int), (cA 1, .char), (cA 2, .boolean), (cA 0, .int), (cA 0, .int), (cA 5, .object RX4)]
theorem gv_cat (ad : Nat → Nat) (v : Value) : (gv ad v).category = v.category := by cases v <;> rfl
theorem gw_len {cA : Nat → ClassId} {ad : Nat → Nat} {es : List gE} : (gw cA ad es).length = es.length := by simp [gw]
theorem gw_at (cA : Nat → ClassId) (ad : Nat → Nat) (es : List gE) (k : Nat) : (gw cA ad es)[k]? = (es[k]?).map (fun e => (ad k, ge cA ad e)) := by
  simp [gw, List.getElem?_mapIdx]
theorem gw_get {cA : Nat → ClassId} {ad : Nat → Nat} {es : List gE} {k : Nat} {e : gE} (h : es[k]? = some e) : (gw cA ad es)[k]? = some (ad k, ge cA ad e) := by
  rw [gw_at, h]; rfl
theorem gw_set (cA : Nat → ClassId) (ad : Nat → Nat) (es : List gE) (k : Nat) (e : gE) : (gw cA ad es).set k (ad k, ge cA ad e) = gw cA ad (es.set k e) := by
  apply List.ext_getElem?
  intro i
  rw [gw_at, List.getElem?_set, List.getElem?_set, gw_at, gw_len]
  by_cases h : k = i
  · subst h
    by_cases h2 : k < es.length
    · simp [h2]
    · simp [h2]
  · simp [h]
theorem gw_push (cA : Nat → ClassId) (ad : Nat → Nat) (es : List gE) (e : gE) : gw cA ad es ++ [(ad es.length, ge cA ad e)] = gw cA ad (es ++ [e]) := by
  simp [gw, List.mapIdx_append]
-- lists by literal numbers
def gnth : List gE → Nat → Option gE
  | [], _ => none
  | e :: _, 0 => some e
  | _ :: es, k + 1 => gnth es k
def vnth : List Value → Nat → Option Value
  | [], _ => none
  | e :: _, 0 => some e
  | _ :: es, k + 1 => vnth es k
def rnth : List (Option Nat) → Nat → Option (Option Nat)
  | [], _ => none
  | e :: _, 0 => some e
  | _ :: es, k + 1 => rnth es k
theorem gnth_eq : ∀ (es : List gE) (k : Nat), gnth es k = es[k]?
  | [], k => by simp [gnth]
  | _ :: _, 0 => rfl
  | _ :: es, k + 1 => by simpa [gnth] using gnth_eq es k
theorem vnth_eq : ∀ (es : List Value) (k : Nat), vnth es k = es[k]?
  | [], k => by simp [vnth]
  | _ :: _, 0 => rfl
  | _ :: es, k + 1 => by simpa [vnth] using vnth_eq es k
theorem rnth_eq : ∀ (es : List (Option Nat)) (k : Nat), rnth es k = es[k]?
  | [], k => by simp [rnth]
  | _ :: _, 0 => rfl
  | _ :: es, k + 1 => by simpa [rnth] using rnth_eq es k
-- locals
def lget : List (Nat × Value) → Nat → Option Value
  | [], _ => none
  | (j, w) :: L, i => bif Nat.beq j i then some w else lget L i
def cat2 : Value → Bool
  | .long _ => true
  | .double _ => true
  | _ => false
def ldel : List (Nat × Value) → Nat → List (Nat × Value)
  | [], _ => []
  | (j, w) :: L, i => bif Nat.beq j i then ldel L i else bif Nat.beq (j + 1) i && cat2 w then ldel L i else (j, w) :: ldel L i
def lset (L : List (Nat × Value)) (i : Nat) (v : Value) : List (Nat × Value) := (i, v) :: ldel L i
def lpick (L : List (Nat × Value)) : List Nat → Option (List Value)
  | [] => some []
  | i :: is => match lget L i with
    | some v => match lpick L is with
      | some vs => some (v :: vs)
      | none => none
    | none => none
abbrev lmap (ad : Nat → Nat) (L : List (Nat × Value)) : List (Nat × Value) := L.map (fun q => (q.1, gv ad q.2))
theorem lget_mem : ∀ {L : List (Nat × Value)} {i : Nat} {v : Value}, lget L i = some v → (i, v) ∈ L
  | [], _, _, h => by cases h
  | (j, w) :: L, i, v, h => by
    unfold lget at h
    cases hb : Nat.beq j i with
    | true =>
      rw [hb] at h
      have := Nat.eq_of_beq_eq_true hb
      subst this
      cases h
      exact List.mem_cons_self
    | false =>
      rw [hb] at h
      exact List.mem_cons_of_mem _ (lget_mem h)
theorem lget_at {ls : Array Slot} {nL : Nat} {ad : Nat → Nat} {L : List (Nat × Value)} {i : Nat} {v : Value} (hl : lv_has ls nL (lmap ad L)) (h : lget L i = some v) : ls[i]? = some (.val (gv ad v)) :=
  hl.2.2 (i, gv ad v) (List.mem_map.mpr ⟨(i, v), lget_mem h, rfl⟩)
theorem lget_ix {ad : Nat → Nat} {L : List (Nat × Value)} {i : Nat} {v : Value} (h : lget L i = some v) : ∃ k : Nat, (lmap ad L)[k]? = some (i, gv ad v) := by
  have : (i, gv ad v) ∈ lmap ad L := List.mem_map.mpr ⟨(i, v), lget_mem h, rfl⟩
  exact List.getElem?_of_mem this
theorem cat2_eq (v : Value) : cat2 v = (v.category == 2) := by cases v <;> rfl
theorem ldel_mem : ∀ {L : List (Nat × Value)} {i : Nat} {q : Nat × Value}, q ∈ ldel L i → q ∈ L ∧ (!(q.1 == i) && !(q.1 + 1 == i && q.2.category == 2)) = true
  | [], _, _, h => by cases h
  | (j, w) :: L, i, q, h => by
    unfold ldel at h
    cases hb : Nat.beq j i with
    | true =>
      rw [hb] at h
      have := ldel_mem (L := L) h
      exact ⟨List.mem_cons_of_mem _ this.1, this.2⟩
    | false =>
      rw [hb] at h
      cases hc : (Nat.beq (j + 1) i && cat2 w) with
      | true =>
        rw [hc] at h
        have := ldel_mem (L := L) h
        exact ⟨List.mem_cons_of_mem _ this.1, this.2⟩
      | false =>
        rw [hc] at h
        rcases List.mem_cons.mp h with rfl | h
        · refine ⟨List.mem_cons_self, ?_⟩
          rw [cat2_eq] at hc
          have hb' : (j == i) = false := by simpa using Nat.ne_of_beq_eq_false hb
          have hc' : (j + 1 == i && w.category == 2) = false := by
            cases hx : Nat.beq (j + 1) i with
            | true =>
              rw [hx] at hc
              have h2 : (w.category == 2) = false := by simpa using hc
              simp only [h2, Bool.and_false]
            | false =>
              have h2 : (j + 1 == i) = false := by simpa using Nat.ne_of_beq_eq_false hx
              simp only [h2, Bool.false_and]
          simp only [hb', hc', Bool.not_false, Bool.and_self]
        · have := ldel_mem (L := L) h
          exact ⟨List.mem_cons_of_mem _ this.1, this.2⟩
theorem lv_mono {ls : Array Slot} {nL : Nat} {l l' : List (Nat × Value)} (h : lv_has ls nL l) (hs : ∀ q ∈ l', q ∈ l) : lv_has ls nL l' := ⟨h.1, h.2.1, fun q hq => h.2.2 q (hs q hq)⟩
theorem lset_ok {ls : Array Slot} {nL i : Nat} {ad : Nat → Nat} {v : Value} {L : List (Nat × Value)} (h : lv_has ls nL ((i, gv ad v) :: (lmap ad L).filter (fun q => !(q.1 == i) && !(q.1 + 1 == i && q.2.category == 2)))) : lv_has ls nL (lmap ad (lset L i v)) := by
  refine lv_mono h (fun q hq => ?_)
  obtain ⟨q0, hq0, rfl⟩ := List.mem_map.mp hq
  rcases List.mem_cons.mp hq0 with rfl | hq0
  · exact List.mem_cons_self
  · have := ldel_mem hq0
    refine List.mem_cons_of_mem _ (List.mem_filter.mpr ⟨List.mem_map.mpr ⟨q0, this.1, rfl⟩, ?_⟩)
    simpa [gv_cat] using this.2
theorem lpick_mem : ∀ {L : List (Nat × Value)} {is : List Nat} {vs : List Value}, lpick L is = some vs → ∀ q ∈ is.zip vs, q ∈ L
  | L, [], vs, h, q, hq => by simp at hq
  | L, i :: is, vs, h, q, hq => by
    unfold lpick at h
    split at h
    · rename_i v hv
      split at h
      · rename_i ws hw
        cases h
        rw [List.zip_cons_cons] at hq
        rcases List.mem_cons.mp hq with rfl | hq
        · exact lget_mem hv
        · exact lpick_mem hw q hq
      · cases h
    · cases h
-- what a start gives beside a world: links between nest mates, texts, two statics of Throwable
def gNest : List (String × Nat × MethodName) := [(RX6, 18, yX5_init), (RX6, 32, yX0_init), (RX2, 24, yX6_isSampled), (RX2, 28, yX6_listStart)]
def gStr : List (Nat × String) := [(202, "no such tenant, way, set, position or slot"), (206, "the number is out of range"), (173, "the set is not sampled")]
def gBad : List Cond := [.castable "java/lang/IndexOutOfBoundsException" "java/lang/IndexOutOfBoundsException", .castable "java/lang/IllegalArgumentException" "java/lang/IllegalArgumentException", .declares (Bundle.initS "java/lang/RuntimeException"), .declares (Bundle.initS "java/lang/Exception"), .declares (Bundle.initS Bundle.tN)]
theorem gBad_ot : ∀ w ∈ gBad, w.onTables = true := by
  intro w hw
  simp only [gBad, List.mem_cons, List.not_mem_nil, or_false] at hw
  rcases hw with rfl | rfl | rfl | rfl | rfl <;> rfl
def gN (U : State) : Prop := (∀ q ∈ gNest, va_Nw (.methodLinkNest q.1 q.2.1 q.2.2 RX6) U) ∧ (∀ q ∈ gStr, ∃ a : Nat, vk_R RX6 q.1 q.2 a U) ∧ (∀ w ∈ gBad, va_Nw w U) ∧ va_AO RX4 U
def gY (D : va_G) (cA : Nat → ClassId) (A : Nat → Prop) (U : State) (H : Heap) : Prop := va_K D vwCl (gT cA) U ∧ gN U ∧ vx_Zq Bundle.tN "UNASSIGNED_STACK" Bundle.steD A U H ∧ vx_Zq Bundle.tN "SUPPRESSED_SENTINEL" Bundle.listD A U H
theorem gN.warm {s U : State} (hW : s.WarmedH U.vm) (h : gN s) : gN U := ⟨fun q hq => va_Nw.warmM hW (h.1 q hq), fun q hq => (h.2.1 q hq).elim fun a ha => ⟨a, vk_R.warm hW ha⟩, fun w hw => by
  have h3 := h.2.2.1 w hw
  simp only [gBad, List.mem_cons, List.not_mem_nil, or_false] at hw
  rcases hw with rfl | rfl | rfl | rfl | rfl
  · exact va_Nw.warmC hW h3
  · exact va_Nw.warmC hW h3
  · exact va_Nw.warmD hW h3
  · exact va_Nw.warmD hW h3
  · exact va_Nw.warmD hW h3, va_AO.moved hW.alike h.2.2.2⟩
theorem gN.same {u U : State} (hv : u.vm = U.vm) (h : gN u) : gN U := ⟨fun q hq => va_Nw.same rfl hv (h.1 q hq), fun q hq => (h.2.1 q hq).elim fun a ha => ⟨a, vk_R.same hv.symm ha⟩, fun w hw => va_Nw.same (gBad_ot w hw) hv (h.2.2.1 w hw), va_AO.moved (by rw [hv]; exact Vm.Alike.refl U.vm) h.2.2.2⟩
theorem gY.same {D : va_G} {cA : Nat → ClassId} {A : Nat → Prop} {u U : State} {H : Heap} (hv : u.vm = U.vm) (h : gY D cA A u H) : gY D cA A U H := by
  have ha : u.vm.Alike U.vm := by rw [hv]; exact Vm.Alike.refl U.vm
  exact ⟨va_K.moved ha h.1, h.2.1.same hv, vx_Zq.moved ha h.2.2.1, vx_Zq.moved ha h.2.2.2⟩
theorem gY.call {D : va_G} {cA : Nat → ClassId} {A A1 : Nat → Prop} {s U : State} {H : Heap} {locs : List Loc} (h : gY D cA A s s.heap) (hS : va_S A s.heap H locs) (hF : ∀ q, A1 q → A q) (hW : s.WarmedH U.vm) (hU : U.heap = H) : gY D cA A1 U U.heap := by
  rw [hU]
  have k1 : ∀ a : Nat, a < s.heap.size → ¬ A a → H[a]? = s.heap[a]? := hS.2.1
  exact ⟨va_K.moved hW.alike h.1, h.2.1.warm hW, vx_Zq.moved hW.alike (vx_Zq.narrow (vx_Zq.kept h.2.2.1 k1) hF), vx_Zq.moved hW.alike (vx_Zq.narrow (vx_Zq.kept h.2.2.2 k1) hF)⟩
-- the context of a walk
abbrev gX : Type := Program × Launch × Env × Room × State × MethodId × Array Value × List Frame × Method × Code × va_G × (Nat → ClassId) × (Nat → Prop) × (Nat → Prop) × (Nat → Nat) × (State → Prop) × Nat
def G (X : gX) (pc : Nat) : gP := fun L S es k n => match X with
  | (p, l, e, R, s, m, args, below, meth, c, D, cA, A, ag, ad0, Q, nL) => ∀ (ad : Nat → Nat) (H : Heap) (locs : List Loc) (ls : Array Slot), (∀ i, ag i → ad i = ad0 i) → va_P D vwCl (gw cA ad es) H → va_D A (gw cA ad es) → va_S A s.heap H locs → lv_has ls nL (lmap ad L) →
    W p l e R s m args below meth c H locs k n Q (F0 m pc ls (S.map (gv ad)))
def gM (X : gX) (l0 : Launch) (cc : ByteArray) (own : String) (Ts : List Cond) (R0 : Room) : Prop := match X with
  | (p, l, _, R, s, m, args, _, meth, c, D, cA, A, _, _, _, nL) => p.tables.exec = Jvm.exec ∧ c.code = cc ∧ s.vm.findClass own = some m.cls ∧ (∀ w ∈ Ts, w.before args s = true) ∧ c.maxLocals = nL ∧ meth.locks = false ∧ gY D cA A s s.heap ∧ (∀ q, s.heap.size ≤ q → A q) ∧ R = R0 ∧ l = l0
def gQ (D : va_G) (cA : Nat → ClassId) (ad0 : Nat → Nat) (ag : Nat → Prop) (A : Nat → Prop) (K : gK) : Array Value → State → Outcome → State → Prop := fun _ st oc t =>
  (∃ (v : Option Value) (es : List gE) (ad : Nat → Nat), oc = .returned (v.map (gv ad)) ∧ K v es ∧ (∀ i, ag i → ad i = ad0 i) ∧ va_P D vwCl (gw cA ad es) t.heap ∧ va_D A (gw cA ad es)) ∧ va_F A st t
/-- the end of the walk is a method's end with K -/
def gR (X : gX) (K : gK) (mc ms : Nat) (ret : Option FieldType) : Prop := match X with
  | (p, l, e, R, s, m, args, below, meth, c, D, cA, A, ag, ad0, Q, _) => meth.sig.returnType = ret ∧ ∀ (H : Heap) (locs : List Loc) (g : JFrame), W p l e R s m args below meth c H locs mc ms (MQ below (gQ D cA ad0 ag A K) args s mc ms A) g → W p l e R s m args below meth c H locs mc ms Q g
/-- a step is right -/
def okO (X : gX) (pc nx : Nat) (o : gO) : Prop := ∀ (J : Nat → gP) (N : gP), (∀ t L S es k n, J t L S es k n → G X t L S es k n) → (∀ L S es k n, N L S es k n → G X nx L S es k n) → ∀ L S es k n, o J N L S es k n → G X pc L S es k n
def hpc : List (Nat × gO) → Nat
  | [] => 0
  | q :: _ => q.1
def okL (X : gX) : List (Nat × gO) → Prop
  | [] => True
  | q :: l => okO X q.1 (hpc l) q.2 ∧ okL X l
-- loops' heads, and the walk
abbrev gC : Type := Nat × List Nat × (List Value → List gE → Nat → Nat → Prop)
def gcut : List gC → Nat → Option gC
  | [], _ => none
  | c :: cs, t => bif Nat.beq c.1 t then some c else gcut cs t
def gcutP (c : gC) : gP := fun L S es k n => match S with
  | [] => match lpick L c.2.1 with
    | some vs => c.2.2 vs es k n
    | none => False
  | _ => False
def glook : List (Nat × gO) → Nat → List (Nat × gO)
  | [], _ => []
  | q :: l, t => bif Nat.beq q.1 t then q :: l else glook l t
def giscut (cs : List gC) (l : List (Nat × gO)) : Bool := match gcut cs (hpc l) with
  | some _ => true
  | none => false
def wl (J : Nat → gP) (cs : List gC) : List (Nat × gO) → gP
  | [] => fun _ _ _ _ _ => False
  | q :: l => q.2 J (bif giscut cs l then J (hpc l) else wl J cs l)
def wr (full : List (Nat × gO)) (cs : List gC) : Nat → Nat → gP
  | 0, _ => fun _ _ _ _ _ => False
  | f + 1, t => match gcut cs t with
    | some c => gcutP c
    | none => wl (wr full cs f) cs (glook full t)
def cutOK (X : gX) (cs : List gC) : Prop := ∀ c ∈ cs, ∀ vs es k n, c.2.2 vs es k n → G X c.1 (c.2.1.zip vs) [] es k n
theorem G_mono {X : gX} {pc : Nat} {L L' : List (Nat × Value)} {S : List Value} {es : List gE} {k n : Nat} (h : G X pc L S es k n) (hs : ∀ q ∈ L, q ∈ L') : G X pc L' S es k n := by
  obtain ⟨p, l, e, R, s, m, args, below, meth, c, D, cA, A, ag, ad0, Q, nL⟩ := X
  intro ad H locs ls ha hP hD hS hl
  refine h ad H locs ls ha hP hD hS (lv_mono hl (fun q hq => ?_))
  obtain ⟨q0, hq0, rfl⟩ := List.mem_map.mp hq
  exact List.mem_map.mpr ⟨q0, hs q0 hq0, rfl⟩
theorem gcut_ok : ∀ {cs : List gC} {t : Nat} {c : gC}, gcut cs t = some c → c ∈ cs ∧ c.1 = t
  | [], _, _, h => by cases h
  | d :: cs, t, c, h => by
    unfold gcut at h
    cases hb : Nat.beq d.1 t with
    | true =>
      rw [hb] at h
      cases h
      exact ⟨List.mem_cons_self, Nat.eq_of_beq_eq_true hb⟩
    | false =>
      rw [hb] at h
      have := gcut_ok (cs := cs) h
      exact ⟨List.mem_cons_of_mem _ this.1, this.2⟩
theorem gcutP_ok {X : gX} {cs : List gC} (hc : cutOK X cs) {t : Nat} {c : gC} (h : gcut cs t = some c) {L : List (Nat × Value)} {S : List Value} {es : List gE} {k n : Nat} (hp : gcutP c L S es k n) : G X t L S es k n := by
  obtain ⟨hm, rfl⟩ := gcut_ok h
  unfold gcutP at hp
  split at hp
  · split at hp
    · rename_i vs hv
      exact G_mono (hc c hm vs es k n hp) (lpick_mem hv)
    · exact hp.elim
  · exact hp.elim
theorem wl_ok {X : gX} {J : Nat → gP} {cs : List gC} (hJ : ∀ t L S es k n, J t L S es k n → G X t L S es k n) : ∀ {lst : List (Nat × gO)}, okL X lst → ∀ L S es k n, wl J cs lst L S es k n → G X (hpc lst) L S es k n
  | [], _, _, _, _, _, _, h => h.elim
  | q :: l, ho, L, S, es, k, n, h => by
    refine ho.1 J _ hJ (fun L S es k n h => ?_) L S es k n h
    revert h
    cases giscut cs l with
    | true => exact fun h => hJ _ _ _ _ _ _ h
    | false => exact fun h => wl_ok hJ ho.2 _ _ _ _ _ h
theorem glook_ok {X : gX} : ∀ {full : List (Nat × gO)} {t : Nat}, okL X full → okL X (glook full t) ∧ (glook full t = [] ∨ hpc (glook full t) = t)
  | [], _, _ => ⟨trivial, Or.inl rfl⟩
  | q :: l, t, h => by
    unfold glook
    cases hb : Nat.beq q.1 t with
    | true => exact ⟨h, Or.inr (Nat.eq_of_beq_eq_true hb)⟩
    | false => exact glook_ok h.2
theorem wl_at {X : gX} {J : Nat → gP} {cs : List gC} {full : List (Nat × gO)} (hf : okL X full) (hJ : ∀ t L S es k n, J t L S es k n → G X t L S es k n) {t : Nat} {L : List (Nat × Value)} {S : List Value} {es : List gE} {k n : Nat} (h : wl J cs (glook full t) L S es k n) : G X t L S es k n := by
  obtain ⟨h1, h2⟩ := glook_ok (t := t) hf
  rcases h2 with h2 | h2
  · rw [h2] at h
    exact h.elim
  · have := wl_ok hJ h1 L S es k n h
    rw [h2] at this
    exact this
theorem wr_ok {X : gX} {cs : List gC} {full : List (Nat × gO)} (hf : okL X full) (hc : cutOK X cs) : ∀ (f t : Nat) L S es k n, wr full cs f t L S es k n → G X t L S es k n
  | 0, _, _, _, _, _, _, h => h.elim
  | f + 1, t, L, S, es, k, n, h => by
    unfold wr at h
    cases hct : gcut cs t with
    | some c =>
      rw [hct] at h
      exact gcutP_ok hc hct h
    | none =>
      rw [hct] at h
      exact wl_at hf (wr_ok hf hc f) h
/-- from a head: the step at it first -/
theorem g_go {X : gX} {cs : List gC} {full : List (Nat × gO)} (hf : okL X full) (hc : cutOK X cs) (f : Nat) {t : Nat} {L : List (Nat × Value)} {S : List Value} {es : List gE} {k n : Nat} (h : wl (wr full cs f) cs (glook full t) L S es k n) : G X t L S es k n := wl_at hf (wr_ok hf hc f) h
theorem cut_nil {X : gX} : cutOK X [] := fun _ h => by cases h
/-- a loop: by a measure that falls -/
theorem g_loop {X : gX} {cs : List gC} (head : Nat) (keep : List Nat) (Inv : Nat → List Value → List gE → Nat → Nat → Prop) (hc : cutOK X cs)
    (step : ∀ μ : Nat, cutOK X ((head, keep, fun vs es k n => ∃ ν, ν < μ ∧ Inv ν vs es k n) :: cs) → ∀ vs es k n, Inv μ vs es k n → G X head (keep.zip vs) [] es k n) : cutOK X ((head, keep, fun vs es k n => ∃ ν, Inv ν vs es k n) :: cs) := by
  have key : ∀ μ : Nat, ∀ vs es k n, Inv μ vs es k n → G X head (keep.zip vs) [] es k n := by
    intro μ
    induction μ using Nat.strongRecOn with
    | ind μ ih =>
      refine step μ (fun c hm vs es k n h => ?_)
      rcases List.mem_cons.mp hm with rfl | hm
      · obtain ⟨ν, h1, h2⟩ := h
        exact ih ν h1 vs es k n h2
      · exact hc c hm vs es k n h
  intro c hm vs es k n h
  rcases List.mem_cons.mp hm with rfl | hm
  · obtain ⟨ν, h2⟩ := h
    exact key ν vs es k n h2
  · exact hc c hm vs es k n h
end GE
