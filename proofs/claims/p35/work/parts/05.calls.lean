/-! Contracts, and calls of them. -/
section GC
/-- a number in the callee's count; what isn't handed over keeps its number, far out -/
def gixA : List Nat → Nat → Nat → Nat
  | [], k, _ => 1000 + k
  | i :: is, k, j => bif Nat.beq i k then j else gixA is k (j + 1)
def gix (ids : List Nat) (k : Nat) : Nat := gixA ids k 0
def gidO : List Nat → Nat → Option Nat
  | [], _ => none
  | i :: _, 0 => some i
  | _ :: is, k + 1 => gidO is k
def gid (ids : List Nat) (k : Nat) : Nat := match gidO ids k with
  | some i => i
  | none => k - 1000
theorem gidO_eq : ∀ (ids : List Nat) (j : Nat), gidO ids j = ids[j]?
  | [], _ => by simp [gidO]
  | _ :: _, 0 => rfl
  | _ :: is, j + 1 => by simpa [gidO] using gidO_eq is j
theorem gixA_ok : ∀ (ids : List Nat) (k j : Nat), (∃ m, gixA ids k j = j + m ∧ ids[m]? = some k) ∨ gixA ids k j = 1000 + k
  | [], k, j => Or.inr rfl
  | i :: is, k, j => by
    unfold gixA
    cases hb : Nat.beq i k with
    | true => exact Or.inl ⟨0, rfl, by rw [Nat.eq_of_beq_eq_true hb]; rfl⟩
    | false =>
      rcases gixA_ok is k (j + 1) with ⟨m, h1, h2⟩ | h
      · exact Or.inl ⟨m + 1, by show gixA is k (j + 1) = _; rw [h1]; omega, by simpa using h2⟩
      · exact Or.inr h
theorem gix_ok {ids : List Nat} {k : Nat} (hl : ids.length ≤ 1000) : gid ids (gix ids k) = k := by
  unfold gid gix
  rcases gixA_ok ids k 0 with ⟨m, h1, h2⟩ | h
  · rw [h1, gidO_eq, Nat.zero_add, h2]
  · rw [h, gidO_eq, List.getElem?_eq_none (by omega)]
    show 1000 + k - 1000 = k
    omega
theorem gid_eq {ids : List Nat} {j i : Nat} (h : ids[j]? = some i) : gid ids j = i := by
  unfold gid
  rw [gidO_eq, h]
def canV (ids : List Nat) : Value → Value
  | .ref k => .ref (gix ids k)
  | v => v
def canE (ids : List Nat) : gE → gE
  | .inr (c, fs) => .inr (c, fs.map (canV ids))
  | .inl (t, n, .inl f) => .inl (t, n, .inl f)
  | .inl (t, n, .inr (.inl f)) => .inl (t, n, .inr (.inl f))
  | .inl (t, n, .inr (.inr (.inl f))) => .inl (t, n, .inr (.inr (.inl f)))
  | .inl (t, n, .inr (.inr (.inr r))) => .inl (t, n, .inr (.inr (.inr (r.map (Option.map (gix ids))))))
def renV (σ : Nat → Nat) : Value → Value
  | .ref k => .ref (σ k)
  | v => v
def renE (σ : Nat → Nat) : gE → gE
  | .inr (c, fs) => .inr (c, fs.map (renV σ))
  | .inl (t, n, .inl f) => .inl (t, n, .inl f)
  | .inl (t, n, .inr (.inl f)) => .inl (t, n, .inr (.inl f))
  | .inl (t, n, .inr (.inr (.inl f))) => .inl (t, n, .inr (.inr (.inl f)))
  | .inl (t, n, .inr (.inr (.inr r))) => .inl (t, n, .inr (.inr (.inr (r.map (Option.map σ)))))
theorem can_v {ids : List Nat} {ad : Nat → Nat} {v : Value} (h : ids.length ≤ 1000) : gv (fun k => ad (gid ids k)) (canV ids v) = gv ad v := by
  cases v <;> first | rfl | (simp only [canV, gv]; rw [gix_ok h])
theorem can_vs {ids : List Nat} {ad : Nat → Nat} (h : ids.length ≤ 1000) : ∀ (vs : List Value), (vs.map (canV ids)).map (gv (fun k => ad (gid ids k))) = vs.map (gv ad)
  | [] => rfl
  | v :: vs => by
    simp only [List.map_cons, can_v h]
    rw [can_vs h vs]
theorem can_q {ids : List Nat} {ad : Nat → Nat} (h : ids.length ≤ 1000) : ∀ (r : List (Option Nat)) (j : Nat), ((r.map (Option.map (gix ids))).getD j none).map (fun k => ad (gid ids k)) = (r.getD j none).map ad
  | [], j => by simp
  | q :: r, 0 => by
    cases q with
    | none => rfl
    | some k => simp only [List.map_cons, List.getD_cons_zero, Option.map_some]; rw [gix_ok h]
  | q :: r, j + 1 => by simpa using can_q h r j
theorem can_e {ids : List Nat} {ad : Nat → Nat} {cA : Nat → ClassId} {e : gE} (h : ids.length ≤ 1000) : ge cA (fun k => ad (gid ids k)) (canE ids e) = ge cA ad e := by
  rcases e with ⟨t, n, f | f | f | r⟩ | ⟨c, fs⟩
  · rfl
  · rfl
  · rfl
  · simp only [canE, ge]
    have : (fun j => ((r.map (Option.map (gix ids))).getD j none).map (fun k => ad (gid ids k))) = fun j => (r.getD j none).map ad := funext (can_q h r)
    rw [this]
  · simp only [canE, ge]
    rw [can_vs h]
theorem ren_v {σ ad : Nat → Nat} (v : Value) : gv ad (renV σ v) = gv (fun k => ad (σ k)) v := by cases v <;> rfl
theorem ren_e {σ ad : Nat → Nat} {cA : Nat → ClassId} (e : gE) : ge cA ad (renE σ e) = ge cA (fun k => ad (σ k)) e := by
  rcases e with ⟨t, n, f | f | f | r⟩ | ⟨c, fs⟩
  · rfl
  · rfl
  · rfl
  · simp only [renE, ge]
    have : (fun j => ((r.map (Option.map σ)).getD j none).map ad) = fun j => (r.getD j none).map (fun k => ad (σ k)) := by
      funext j
      rw [List.getD_eq_getElem?_getD, List.getD_eq_getElem?_getD, List.getElem?_map]
      cases r[j]? with
      | none => rfl
      | some q => cases q <;> rfl
    rw [this]
  · simp only [renE, ge, List.map_map]
    have : (gv ad ∘ renV σ) = gv (fun k => ad (σ k)) := funext ren_v
    rw [this]
def gpick (es : List gE) : List Nat → Option (List gE)
  | [] => some []
  | i :: is => match gnth es i with
    | some e => match gpick es is with
      | some l => some (e :: l)
      | none => none
    | none => none
theorem gpick_ok {es : List gE} : ∀ {ids : List Nat} {l : List gE}, gpick es ids = some l → l.length = ids.length ∧ ∀ j i : Nat, ids[j]? = some i → ∃ e, es[i]? = some e ∧ l[j]? = some e
  | [], l, h => by
    cases h
    exact ⟨rfl, fun j i hj => by simp at hj⟩
  | i :: is, l, h => by
    unfold gpick at h
    cases he : gnth es i with
    | none => rw [he] at h; cases h
    | some e =>
      cases hl : gpick es is with
      | none => rw [he, hl] at h; cases h
      | some l' =>
        rw [he, hl] at h
        cases h
        obtain ⟨h1, h2⟩ := gpick_ok hl
        refine ⟨by simp [h1], fun j k hj => ?_⟩
        cases j with
        | zero =>
          simp at hj
          subst hj
          rw [gnth_eq] at he
          exact ⟨e, he, rfl⟩
        | succ j =>
          obtain ⟨e', h3, h4⟩ := h2 j k (by simpa using hj)
          exact ⟨e', h3, by simpa using h4⟩
def gput : List gE → List Nat → List gE → List gE
  | es, i :: is, f :: fs => gput (es.set i f) is fs
  | es, _, _ => es
theorem gput_len : ∀ {ids : List Nat} {es fs : List gE}, (gput es ids fs).length = es.length
  | [], es, [] => rfl
  | [], es, _ :: _ => rfl
  | _ :: _, es, [] => rfl
  | i :: is, es, f :: fs => by rw [gput, gput_len]; simp
theorem gput_out : ∀ {ids : List Nat} {es fs : List gE} {i : Nat}, i ∉ ids → (gput es ids fs)[i]? = es[i]?
  | [], es, [], _, _ => rfl
  | [], es, _ :: _, _, _ => rfl
  | _ :: _, es, [], _, _ => rfl
  | j :: is, es, f :: fs, i, h => by
    rw [gput, gput_out (fun q => h (List.mem_cons_of_mem _ q)), List.getElem?_set_ne (fun q => h (by rw [q]; exact List.mem_cons_self))]
theorem gput_in : ∀ {ids : List Nat} {es fs : List gE} {j i : Nat} {f : gE}, va_nd ids = true → ids[j]? = some i → fs[j]? = some f → i < es.length → (gput es ids fs)[i]? = some f
  | [], _, _, _, _, _, _, h, _, _ => by simp at h
  | _ :: _, _, [], _, _, _, _, _, h, _ => by simp at h
  | k :: is, es, g :: fs, j, i, f, hn, h1, h2, h3 => by
    simp only [va_nd, Bool.and_eq_true, decide_eq_true_eq] at hn
    cases j with
    | zero =>
      simp at h1 h2
      subst h1
      subst h2
      rw [gput, gput_out hn.1]
      simp [h3]
    | succ j =>
      rw [gput]
      exact gput_in hn.2 (by simpa using h1) (by simpa using h2) (by simpa using h3)
def gtake : Nat → List Value → List Value → Option (List Value × List Value)
  | 0, acc, S => some (acc, S)
  | k + 1, acc, v :: S => gtake k (v :: acc) S
  | _ + 1, _, [] => none
theorem gtake_ok : ∀ {k : Nat} {acc S av S' : List Value}, gtake k acc S = some (av, S') → ∃ pre : List Value, av = pre ++ acc ∧ S = pre.reverse ++ S' ∧ pre.length = k
  | 0, acc, S, av, S', h => by
    cases h
    exact ⟨[], rfl, rfl, rfl⟩
  | k + 1, acc, [], av, S', h => by cases h
  | k + 1, acc, v :: S, av, S', h => by
    obtain ⟨pre, h1, h2, h3⟩ := gtake_ok (k := k) h
    exact ⟨pre ++ [v], by simp [h1], by simp [h2], by simp [h3]⟩
-- a contract
def agr : Bool → Nat → Nat → Prop
  | true, n, i => i < n
  | false, _, _ => True
def gPc (D : va_G) (cA : Nat → ClassId) (ad : Nat → Nat) (sz : Nat) (av : List Value) (es : List gE) : Array Value → State → Prop := va_Pc (av.map (gv ad)) (fun U => U.heap.size = sz ∧ va_P D vwCl (gw cA ad es) U.heap ∧ gY D cA (va_A (gw cA ad es) sz) U U.heap ∧ va_D (fun _ => True) (gw cA ad es))
abbrev gS : Type := List Value → List gE → gK → Prop
def Ct (l : Launch) (y : MethodName) (ws : List Cond) (rm : Room) (mc ms : Nat) (al : Bool) (sp : gS) : Prop := ∀ (D : va_G) (cA : Nat → ClassId) (ad : Nat → Nat) (sz : Nat) (av : List Value) (es : List gE) (K : gK), sp av es K → Met l y ws rm (gPc D cA ad sz av es) (gQ D cA ad (agr al es.length) (va_A (gw cA ad es) sz) K) mc ms (va_A (gw cA ad es) sz)
theorem gPc_blind {D : va_G} {cA : Nat → ClassId} {ad : Nat → Nat} {sz : Nat} {av : List Value} {es : List gE} : FrameBlind (gPc D cA ad sz av es) :=
  fun a U g mk q => by
    obtain ⟨q0, q1, qP, qY, qD⟩ := q
    exact ⟨q0, q1, qP, gY.same (u := U) (U := U.calling g mk a) rfl qY, qD⟩
theorem lv_args_map (ad : Nat → Nat) : ∀ (i : Nat) (av : List Value), lv_args i (av.map (gv ad)) = lmap ad (lv_args i av)
  | _, [] => rfl
  | i, v :: av => by
    simp only [List.map_cons, lv_args, gv_cat]
    rw [lv_args_map ad _ av]
theorem lg_sl_len (ad : Nat → Nat) (av : List Value) : (lg_sl (av.map (gv ad))).length = (lg_sl av).length := by
  induction av with
  | nil => rfl
  | cons v av ih =>
    simp only [lg_sl, List.map_cons, List.flatMap_cons, List.length_append] at ih ⊢
    rw [ih]
    cases v <;> rfl
/-- the world of the callee: picked out of the caller's -/
theorem gsub_at {cA : Nat → ClassId} {ad : Nat → Nat} {es esc : List gE} {ids : List Nat} (hp : gpick es ids = some esc) (hok : ids.length ≤ 1000) {j : Nat} {q : Nat × va_E} (h : (gw cA (fun k => ad (gid ids k)) (esc.map (canE ids)))[j]? = some q) : ∃ i e, ids[j]? = some i ∧ es[i]? = some e ∧ esc[j]? = some e ∧ q = (ad i, ge cA ad e) := by
  obtain ⟨h1, h2⟩ := gpick_ok hp
  rw [gw_at, List.getElem?_map] at h
  cases hj : esc[j]? with
  | none => rw [hj] at h; cases h
  | some e =>
    rw [hj] at h
    have hlt : j < ids.length := by rw [← h1]; exact (List.getElem?_eq_some_iff.mp hj).1
    obtain ⟨e', h3, h4⟩ := h2 j ids[j] (List.getElem?_eq_getElem hlt)
    rw [hj] at h4
    cases h4
    have hi : ids[j]? = some ids[j] := List.getElem?_eq_getElem hlt
    refine ⟨ids[j], e, hi, h3, rfl, ?_⟩
    simp only [Option.map_some] at h
    rw [can_e hok, gid_eq hi] at h
    exact (Option.some.inj h).symm
theorem gsub_P {D : va_G} {cA : Nat → ClassId} {ad : Nat → Nat} {es esc : List gE} {ids : List Nat} {H : Heap} (hp : gpick es ids = some esc) (hok : ids.length ≤ 1000) (hP : va_P D vwCl (gw cA ad es) H) : va_P D vwCl (gw cA (fun k => ad (gid ids k)) (esc.map (canE ids))) H := by
  intro j q h
  obtain ⟨i, e, -, h3, -, rfl⟩ := gsub_at hp hok h
  exact hP i _ (gw_get h3)
theorem gsub_D {cA : Nat → ClassId} {ad : Nat → Nat} {es esc : List gE} {ids : List Nat} {A B : Nat → Prop} (hp : gpick es ids = some esc) (hok : ids.length ≤ 1000) (hn : va_nd ids = true) (hD : va_D A (gw cA ad es)) (hB : ∀ q, A q → B q) : va_D B (gw cA (fun k => ad (gid ids k)) (esc.map (canE ids))) := by
  refine ⟨fun j j' q q' h h' he => ?_, fun j q h => ?_⟩
  · obtain ⟨i, e, h1, h3, -, rfl⟩ := gsub_at hp hok h
    obtain ⟨i', e', h1', h3', -, rfl⟩ := gsub_at hp hok h'
    have := hD.1 i i' _ _ (gw_get h3) (gw_get h3') he
    subst this
    exact va_nd_inj ids hn j j' i h1 h1'
  · obtain ⟨i, e, h1, h3, -, rfl⟩ := gsub_at hp hok h
    exact hB _ (hD.2 i _ (gw_get h3))
theorem gsub_F {cA : Nat → ClassId} {ad : Nat → Nat} {es esc : List gE} {ids : List Nat} {A : Nat → Prop} {H0 H : Heap} {locs : List Loc} (hp : gpick es ids = some esc) (hok : ids.length ≤ 1000) (hD : va_D A (gw cA ad es)) (hS : va_S A H0 H locs) (hA : ∀ q, H0.size ≤ q → A q) : ∀ q, va_A (gw cA (fun k => ad (gid ids k)) (esc.map (canE ids))) H.size q → A q := by
  intro q h
  rcases h with ⟨k, e, h⟩ | h
  · obtain ⟨i, e', h1, h3, -, h5⟩ := gsub_at hp hok h
    have := hD.2 i _ (gw_get h3)
    rw [show q = ad i from congrArg Prod.fst h5]
    exact this
  · exact hA q (Nat.le_trans hS.1 h)
theorem g_pre {D : va_G} {cA : Nat → ClassId} {ad : Nat → Nat} {s : State} {es esc : List gE} {ids : List Nat} {A : Nat → Prop} {H : Heap} {locs : List Loc} {av : List Value} (hp : gpick es ids = some esc) (hok : ids.length ≤ 1000) (hn : va_nd ids = true) (hY : gY D cA A s s.heap) (hP : va_P D vwCl (gw cA ad es) H) (hD : va_D A (gw cA ad es)) (hS : va_S A s.heap H locs) (hA : ∀ q, s.heap.size ≤ q → A q) :
    ∀ U : State, U.heap = H → s.WarmedH U.vm → gPc D cA (fun k => ad (gid ids k)) H.size (av.map (canV ids)) (esc.map (canE ids)) (av.map (gv ad)).toArray U := by
  intro U hU hW
  refine ⟨by rw [can_vs hok], by rw [hU], by rw [hU]; exact gsub_P hp hok hP, ?_, gsub_D hp hok hn hD (fun _ _ => trivial)⟩
  exact gY.call hY hS (gsub_F hp hok hD hS hA) hW hU
/-- behind a call that makes nothing -/
theorem g_join {D : va_G} {cA : Nat → ClassId} {ad : Nat → Nat} {es esc es' : List gE} {ids : List Nat} {A : Nat → Prop} {H H1 : Heap} (hp : gpick es ids = some esc) (hok : ids.length ≤ 1000) (hn : va_nd ids = true) (hP : va_P D vwCl (gw cA ad es) H) (hD : va_D A (gw cA ad es)) (hlen : es'.length = ids.length)
    (hk : ∀ q : Nat, q < H.size → ¬ va_A (gw cA (fun k => ad (gid ids k)) (esc.map (canE ids))) H.size q → H1[q]? = H[q]?) (hP1 : va_P D vwCl (gw cA (fun k => ad (gid ids k)) es') H1) :
    va_P D vwCl (gw cA ad (gput es ids (es'.map (renE (gid ids))))) H1 ∧ va_D A (gw cA ad (gput es ids (es'.map (renE (gid ids))))) := by
  have hi_of : ∀ i : Nat, i ∈ ids → ∃ j, ids[j]? = some i := fun i h => List.getElem?_of_mem h
  obtain ⟨hl1, hl2⟩ := gpick_ok hp
  refine ⟨fun i q h => ?_, fun i j p q h h' he => ?_, fun i q h => ?_⟩
  · rw [gw_at] at h
    cases hg : (gput es ids (es'.map (renE (gid ids))))[i]? with
    | none => rw [hg] at h; cases h
    | some e =>
      rw [hg] at h
      cases h
      have hil : i < es.length := by
        have := (List.getElem?_eq_some_iff.mp hg).1
        rwa [gput_len] at this
      by_cases hm : i ∈ ids
      · obtain ⟨j, hj⟩ := hi_of i hm
        have hjl : j < es'.length := by rw [hlen]; exact (List.getElem?_eq_some_iff.mp hj).1
        have hej : es'[j]? = some es'[j] := List.getElem?_eq_getElem hjl
        have := gput_in (es := es) (fs := es'.map (renE (gid ids))) (f := renE (gid ids) es'[j]) hn hj (by rw [List.getElem?_map, hej]; rfl) hil
        rw [hg] at this
        cases this
        have h9 := hP1 j _ (gw_get hej)
        rw [gid_eq hj] at h9
        show va_at D vwCl (ad i, ge cA ad (renE (gid ids) es'[j])) H1
        rw [ren_e]
        exact h9
      · rw [gput_out hm] at hg
        refine (hP i _ (gw_get hg)).kept (hk (ad i) ?_ ?_)
        · exact (hP i _ (gw_get hg)).lt
        · intro h
          rcases h with ⟨k, e', h⟩ | h
          · obtain ⟨i', e2, h1, h3, -, h5⟩ := gsub_at hp hok h
            have h6 : ad i = ad i' := congrArg Prod.fst h5
            have hii := hD.1 i i' _ _ (gw_get hg) (gw_get h3) h6
            subst hii
            exact hm (List.mem_of_getElem? h1)
          · have := (hP i _ (gw_get hg)).lt
            simp only at this
            omega
  · rw [gw_at] at h h'
    cases hg : (gput es ids (es'.map (renE (gid ids))))[i]? with
    | none => rw [hg] at h; cases h
    | some e =>
      cases hg' : (gput es ids (es'.map (renE (gid ids))))[j]? with
      | none => rw [hg'] at h'; cases h'
      | some e' =>
        rw [hg] at h
        rw [hg'] at h'
        cases h
        cases h'
        have hil : i < es.length := by
          have := (List.getElem?_eq_some_iff.mp hg).1
          rwa [gput_len] at this
        have hjl : j < es.length := by
          have := (List.getElem?_eq_some_iff.mp hg').1
          rwa [gput_len] at this
        exact hD.1 i j _ _ (gw_get (List.getElem?_eq_getElem hil)) (gw_get (List.getElem?_eq_getElem hjl)) he
  · rw [gw_at] at h
    cases hg : (gput es ids (es'.map (renE (gid ids))))[i]? with
    | none => rw [hg] at h; cases h
    | some e =>
      rw [hg] at h
      cases h
      have hil : i < es.length := by
        have := (List.getElem?_eq_some_iff.mp hg).1
        rwa [gput_len] at this
      exact hD.2 i (ad i, ge cA ad es[i]) (gw_get (List.getElem?_eq_getElem hil))
def vpush (σ : Nat → Nat) : Option Value → List Value → List Value
  | none, S => S
  | some v, S => renV σ v :: S
theorem vpush_map {σ ad : Nat → Nat} (v : Option Value) (S : List Value) : (vpush σ v S).map (gv ad) = (v.map (gv (fun k => ad (σ k)))).toList ++ S.map (gv ad) := by
  cases v with
  | none => rfl
  | some v => simp only [vpush, List.map_cons, ren_v, Option.map_some, Option.toList_some, List.singleton_append]
theorem g_call {p : Program} {l : Launch} {e : Env} {R : Room} {s : State} {m : MethodId} {args : Array Value} {below : List Frame} {meth : Method} {c : Code} {H : Heap} {locs : List Loc} {k n : Nat} {Q : State → Prop} {pc : Nat} {ls : Array Slot} {rest st0 : List Value} {a : Array Value} {A0 A1 ag : Nat → Prop} {H0 : Heap} {mc ms : Nat} {D : va_G} {cA : Nat → ClassId} {adc : Nat → Nat} {K : gK}
    (hr : va_Run p l e R s m args below meth c H locs k n mc ms (F0 m pc ls st0) rest (gQ D cA adc ag A1 K a) A1) (hS : va_S A0 H0 H locs) (hF : ∀ q, A1 q → A0 q)
    (kk : ∀ (v : Option Value) (es' : List gE) (ad' : Nat → Nat) (H1 : Heap) (locs1 : List Loc), K v es' → (∀ i, ag i → ad' i = adc i) → va_P D vwCl (gw cA ad' es') H1 → va_D A1 (gw cA ad' es') → H.size ≤ H1.size → (∀ q : Nat, q < H.size → ¬ A1 q → H1[q]? = H[q]?) → va_S A0 H0 H1 locs1 →
      W p l e R s m args below meth c H1 locs1 (k + mc) (n + ms) Q (F0 m (pc + 3) ls ((v.map (gv ad')).toList ++ rest))) : W p l e R s m args below meth c H locs k n Q (F0 m pc ls st0) := by
  intro T hT X
  obtain ⟨v, st₀, t, T', L, h0, X', hL, e1, e2, ⟨⟨v', es', ad', hv, hK, hag, hP, hD⟩, hz, hk⟩, st⟩ := hr T hT X
  cases hv
  rw [h0] at hz hk
  obtain ⟨t2, a1, b1⟩ := kk v' es' ad' T'.heap (locs ++ L) hK hag (by rw [e1]; exact hP) hD (by rw [e1]; exact hz) (fun q h1 h2 => by rw [e1]; exact hk q h1 h2)
    ⟨Nat.le_trans hS.1 (by rw [e1]; exact hz), fun q h1 h2 => by rw [e1, hk q (Nat.lt_of_lt_of_le h1 hS.1) (fun z => h2 (hF q z))]; exact hS.2.1 q h1 h2, fun q hq => by
      rcases List.mem_append.mp hq with h | h
      · exact hS.2.2 q h
      · exact hF _ (hL q h)⟩ T' rfl X'
  exact ⟨t2, st t2 a1, b1⟩
-- forcing: the lists of a state as written lists
def gforce : List gE → (List gE → Prop) → Prop
  | [], F => F []
  | e :: es, F => gforce es (fun es' => F (e :: es'))
def lforce : List (Nat × Value) → (List (Nat × Value) → Prop) → Prop
  | [], F => F []
  | (i, v) :: L, F => lforce L (fun L' => F ((i, v) :: L'))
theorem gforce_eq : ∀ (es : List gE) (F : List gE → Prop), gforce es F = F es
  | [], _ => rfl
  | e :: es, F => by rw [gforce, gforce_eq es]
theorem lforce_eq : ∀ (L : List (Nat × Value)) (F : List (Nat × Value) → Prop), lforce L F = F L
  | [], _ => rfl
  | (i, v) :: L, F => by rw [lforce, lforce_eq L]
def oF (o : gO) : gO := fun J N L S es k n => gforce es (fun es' => lforce L (fun L' => o J N L' S es' k n))
theorem ok_F {X : gX} {pc nx : Nat} {o : gO} (h : okO X pc nx o) : okO X pc nx (oF o) := by
  intro J N hJ hN L S es k n ho
  unfold oF at ho
  rw [gforce_eq, lforce_eq] at ho
  exact h J N hJ hN L S es k n ho
def gputF : List gE → List Nat → List gE → (List gE → Prop) → Prop
  | es, i :: is, f :: fs, F => gforce (es.set i f) (fun es' => gputF es' is fs F)
  | es, _, _, F => F es
theorem gputF_eq : ∀ (ids : List Nat) (es fs : List gE) (F : List gE → Prop), gputF es ids fs F = F (gput es ids fs)
  | [], es, [], F => rfl
  | [], es, _ :: _, F => rfl
  | _ :: _, es, [], F => rfl
  | i :: is, es, f :: fs, F => by rw [gputF, gforce_eq, gputF_eq is, gput]
def gspec (ids : List Nat) (sp : gS) (av : List Value) (N : gP) (L : List (Nat × Value)) (S' : List Value) (es : List gE) (k n : Nat) : Prop := match gpick es ids with
  | some esc => gif (Nat.ble ids.length 1000) (sp (av.map (canV ids)) (esc.map (canE ids)) (fun v es' => gif (Nat.beq es'.length ids.length) (gputF es ids (es'.map (renE (gid ids))) (fun es2 => N L (vpush (gid ids) v S') es2 k n))))
  | none => False
theorem gspec_ok {ids : List Nat} {sp : gS} {av : List Value} {N : gP} {L : List (Nat × Value)} {S' : List Value} {es : List gE} {k n : Nat} (h : gspec ids sp av N L S' es k n) : ∃ esc, gpick es ids = some esc ∧ ids.length ≤ 1000 ∧ sp (av.map (canV ids)) (esc.map (canE ids)) (fun v es' => gif (Nat.beq es'.length ids.length) (gputF es ids (es'.map (renE (gid ids))) (fun es2 => N L (vpush (gid ids) v S') es2 k n))) := by
  unfold gspec at h
  cases hp : gpick es ids with
  | none => rw [hp] at h; exact h.elim
  | some esc =>
    rw [hp] at h
    obtain ⟨h1, h2⟩ := bif_t (b := Nat.ble ids.length 1000) h
    exact ⟨esc, rfl, Nat.le_of_ble_eq_true h1, h2⟩
def oCallV (rc rs ci np : Nat) (ids : List Nat) (sp : gS) : gO := fun _ N L S es k n => match gtake np [] S with
  | some (as, .ref b :: S') => eObj es b ci (fun _ => gif (Nat.ble (scat S') 8 && (Nat.ble k rc && Nat.ble n rs)) (gspec ids sp (.ref b :: as) N L S' es k n))
  | _ => False
def oCallS (rc rs np : Nat) (ids : List Nat) (sp : gS) : gO := fun _ N L S es k n => match gtake np [] S with
  | some (as, S') => gif (Nat.ble (scat S') 8 && (Nat.ble k rc && Nat.ble n rs)) (gspec ids sp as N L S' es k n)
  | _ => False
def oCallVD (rc rs ci np : Nat) (sp : gS) : gO := fun _ N L S es k n => match gtake np [] S with
  | some (as, .ref b :: S') => eObj es b ci (fun _ => ∃ ids : List Nat, va_nd ids = true ∧ gif (Nat.ble (scat S') 8 && (Nat.ble k rc && Nat.ble n rs)) (gspec ids sp (.ref b :: as) N L S' es k n))
  | _ => False
variable {X : gX} {l0 : Launch} {cc : ByteArray} {own : String} {Ts : List Cond} {R0 : Room} {pc : Nat}
theorem ok_callV (hM : gM X l0 cc own Ts R0) {y : MethodName} {ws ws' : List Cond} {rm : Room} {bytes : ByteArray} {maxL index ci np : Nat} {ret : Option FieldType} {sp : gS} {Cn : String} {Tn : u_T} {Nn : Nat} (ids : List Nat) (hC : Ct l0 y ws rm 0 0 false sp) (hn : va_nd ids = true) (hci : vwCl[ci]? = some (Cn, Tn, Nn)) (hG : GoodIn Ts (wsV own index Cn y ws)) (hw : ws = Cond.code y bytes maxL ret :: ws') (hrc : rm.cells = 0) (hrs : rm.slots = 0)
    (hdy : y.cls = Cn ∧ y.cls ≠ "java/lang/invoke/MethodHandle" ∧ y.cls ≠ "java/lang/invoke/VarHandle" ∧ (parseMethodDescriptor y.desc).map (fun d => d.parameters.length) = some np) (hRm : rm.frames + 1 ≤ R0.frames ∧ 8 + (maxL + 11) + rm.locals ≤ R0.locals) (hd : decode cc pc = .ok (.invokevirtual index, 3)) :
    okO X pc (pc + 3) (oCallV R0.cells R0.slots ci np ids sp) := by
  obtain ⟨p, l, e, R, s, m, args, below, meth, c, D, cA, A, ag, ad0, Q, nL⟩ := X
  obtain ⟨hx, hb, hown, hts, hml, hlk, hY, hA, hR, hL0⟩ := hM
  have hK := hY.1
  subst hR
  subst hL0
  intro J N hJ hN L S es k n h ad H locs ls hag hP hD hS hl
  unfold oCallV at h
  split at h
  · rename_i as b S' htk
    obtain ⟨pre, h1, h2, h3⟩ := gtake_ok htk
    simp only [List.append_nil] at h1
    subst h1
    subst h2
    obtain ⟨fs, hes, h⟩ := eObj_ok h
    obtain ⟨hc1, h⟩ := bif_t (b := Nat.ble (scat S') 8 && (Nat.ble k R.cells && Nat.ble n R.slots)) h
    obtain ⟨hc1, hc2⟩ := and_t hc1
    obtain ⟨hc2, hc3⟩ := and_t hc2
    obtain ⟨esc, hp, hok, h⟩ := gspec_ok h
    have hF := gsub_F hp hok hD hS hA
    have hMet := hC D cA (fun k => ad (gid ids k)) H.size _ _ _ h
    refine g_call (va_runV (As := as.map (gv ad)) (rest := S'.map (gv ad)) (b := ad b) ⟨hx, hb, hml, hown, hts⟩ hMet (cwV np hts hG hw hrc hrs hdy hRm) ⟨gPc_blind, va_recv hK hP hci (q0 := b) (gw_get hes), fun U hU hW => ?_⟩ rfl (by simp [h3]) hl.1 (by simp [gv]) (lv_room (by rw [scat_eq]; exact Nat.le_of_ble_eq_true hc1)) hd ⟨Nat.le_of_ble_eq_true hc2, Nat.le_of_ble_eq_true hc3⟩) hS hF (fun v es' ad' H1 locs1 hKv hag' hP1 hD1 hz hk hS1 => ?_)
    · exact g_pre (av := .ref b :: as) hp hok hn hY hP hD hS hA U hU hW
    · have had : ad' = fun k => ad (gid ids k) := funext fun i => hag' i trivial
      subst had
      obtain ⟨hlen, hKv⟩ := bif_t (b := Nat.beq es'.length ids.length) hKv
      rw [gputF_eq] at hKv
      obtain ⟨hPn, hDn⟩ := g_join hp hok hn hP hD (Nat.eq_of_beq_eq_true hlen) hk hP1
      rw [← vpush_map]
      exact hN _ _ _ _ _ hKv ad H1 locs1 ls hag hPn hDn hS1 hl
  · exact h.elim
theorem ok_callVD (hM : gM X l0 cc own Ts R0) {y : MethodName} {ws ws' : List Cond} {rm : Room} {bytes : ByteArray} {maxL index ci np : Nat} {ret : Option FieldType} {sp : gS} {Cn : String} {Tn : u_T} {Nn : Nat} (hC : Ct l0 y ws rm 0 0 false sp) (hci : vwCl[ci]? = some (Cn, Tn, Nn)) (hG : GoodIn Ts (wsV own index Cn y ws)) (hw : ws = Cond.code y bytes maxL ret :: ws') (hrc : rm.cells = 0) (hrs : rm.slots = 0)
    (hdy : y.cls = Cn ∧ y.cls ≠ "java/lang/invoke/MethodHandle" ∧ y.cls ≠ "java/lang/invoke/VarHandle" ∧ (parseMethodDescriptor y.desc).map (fun d => d.parameters.length) = some np) (hRm : rm.frames + 1 ≤ R0.frames ∧ 8 + (maxL + 11) + rm.locals ≤ R0.locals) (hd : decode cc pc = .ok (.invokevirtual index, 3)) :
    okO X pc (pc + 3) (oCallVD R0.cells R0.slots ci np sp) := by
  obtain ⟨p, l, e, R, s, m, args, below, meth, c, D, cA, A, ag, ad0, Q, nL⟩ := X
  obtain ⟨hx, hb, hown, hts, hml, hlk, hY, hA, hR, hL0⟩ := hM
  have hK := hY.1
  subst hR
  subst hL0
  intro J N hJ hN L S es k n h ad H locs ls hag hP hD hS hl
  unfold oCallVD at h
  split at h
  · rename_i as b S' htk
    obtain ⟨pre, h1, h2, h3⟩ := gtake_ok htk
    simp only [List.append_nil] at h1
    subst h1
    subst h2
    obtain ⟨fs, hes, h⟩ := eObj_ok h
    obtain ⟨ids, hn, h⟩ := h
    obtain ⟨hc1, h⟩ := bif_t (b := Nat.ble (scat S') 8 && (Nat.ble k R.cells && Nat.ble n R.slots)) h
    obtain ⟨hc1, hc2⟩ := and_t hc1
    obtain ⟨hc2, hc3⟩ := and_t hc2
    obtain ⟨esc, hp, hok, h⟩ := gspec_ok h
    have hF := gsub_F hp hok hD hS hA
    have hMet := hC D cA (fun k => ad (gid ids k)) H.size _ _ _ h
    refine g_call (va_runV (As := as.map (gv ad)) (rest := S'.map (gv ad)) (b := ad b) ⟨hx, hb, hml, hown, hts⟩ hMet (cwV np hts hG hw hrc hrs hdy hRm) ⟨gPc_blind, va_recv hK hP hci (q0 := b) (gw_get hes), fun U hU hW => ?_⟩ rfl (by simp [h3]) hl.1 (by simp [gv]) (lv_room (by rw [scat_eq]; exact Nat.le_of_ble_eq_true hc1)) hd ⟨Nat.le_of_ble_eq_true hc2, Nat.le_of_ble_eq_true hc3⟩) hS hF (fun v es' ad' H1 locs1 hKv hag' hP1 hD1 hz hk hS1 => ?_)
    · exact g_pre (av := .ref b :: as) hp hok hn hY hP hD hS hA U hU hW
    · have had : ad' = fun k => ad (gid ids k) := funext fun i => hag' i trivial
      subst had
      obtain ⟨hlen, hKv⟩ := bif_t (b := Nat.beq es'.length ids.length) hKv
      rw [gputF_eq] at hKv
      obtain ⟨hPn, hDn⟩ := g_join hp hok hn hP hD (Nat.eq_of_beq_eq_true hlen) hk hP1
      rw [← vpush_map]
      exact hN _ _ _ _ _ hKv ad H1 locs1 ls hag hPn hDn hS1 hl
  · exact h.elim
theorem ok_callS (hM : gM X l0 cc own Ts R0) {y : MethodName} {ws ws' : List Cond} {rm : Room} {bytes : ByteArray} {maxL index np : Nat} {ret : Option FieldType} {sp : gS} (ids : List Nat) (hC : Ct l0 y ws rm 0 0 false sp) (hn : va_nd ids = true) (hG : GoodIn Ts (va_wsS own index y ws)) (hw : ws = Cond.code y bytes maxL ret :: ws') (hrc : rm.cells = 0) (hrs : rm.slots = 0)
    (hdy : y.cls ≠ "java/lang/invoke/MethodHandle" ∧ y.cls ≠ "java/lang/invoke/VarHandle" ∧ (parseMethodDescriptor y.desc).map (fun d => d.parameters.length) = some np) (hRm : rm.frames + 1 ≤ R0.frames ∧ 8 + (maxL + 11) + rm.locals ≤ R0.locals) (hd : decode cc pc = .ok (.invokestatic index, 3)) :
    okO X pc (pc + 3) (oCallS R0.cells R0.slots np ids sp) := by
  obtain ⟨p, l, e, R, s, m, args, below, meth, c, D, cA, A, ag, ad0, Q, nL⟩ := X
  obtain ⟨hx, hb, hown, hts, hml, hlk, hY, hA, hR, hL0⟩ := hM
  subst hR
  subst hL0
  intro J N hJ hN L S es k n h ad H locs ls hag hP hD hS hl
  unfold oCallS at h
  split at h
  · rename_i as S' htk
    obtain ⟨pre, h1, h2, h3⟩ := gtake_ok htk
    simp only [List.append_nil] at h1
    subst h1
    subst h2
    obtain ⟨hc1, h⟩ := bif_t (b := Nat.ble (scat S') 8 && (Nat.ble k R.cells && Nat.ble n R.slots)) h
    obtain ⟨hc1, hc2⟩ := and_t hc1
    obtain ⟨hc2, hc3⟩ := and_t hc2
    obtain ⟨esc, hp, hok, h⟩ := gspec_ok h
    have hF := gsub_F hp hok hD hS hA
    have hMet := hC D cA (fun k => ad (gid ids k)) H.size _ _ _ h
    have okw : ∀ w ∈ va_wsS own index y ws, w.before args s = true := fun w h => hts w (hG w h).1
    have hcb := callB_of (R := R) (own := own) (index := index) (maxL := maxL) np hts (fun w h => hG w (by unfold va_wsS; exact List.mem_append_right _ h)) hw hrc hrs (okw _ (by simp [va_wsS])) (okw _ (by simp [va_wsS])) hdy hRm
    refine g_call (va_runS (As := as.map (gv ad)) (rest := S'.map (gv ad)) ⟨hx, hb, hml, hown, hts⟩ hMet ⟨hcb, okw _ (by simp [va_wsS])⟩ ⟨gPc_blind, fun U hU hW => ?_⟩ rfl (by simp [h3]) hl.1 (by simp) (lv_room (by rw [scat_eq]; exact Nat.le_of_ble_eq_true hc1)) hd ⟨Nat.le_of_ble_eq_true hc2, Nat.le_of_ble_eq_true hc3⟩) hS hF (fun v es' ad' H1 locs1 hKv hag' hP1 hD1 hz hk hS1 => ?_)
    · exact g_pre (av := as) hp hok hn hY hP hD hS hA U hU hW
    · have had : ad' = fun k => ad (gid ids k) := funext fun i => hag' i trivial
      subst had
      obtain ⟨hlen, hKv⟩ := bif_t (b := Nat.beq es'.length ids.length) hKv
      rw [gputF_eq] at hKv
      obtain ⟨hPn, hDn⟩ := g_join hp hok hn hP hD (Nat.eq_of_beq_eq_true hlen) hk hP1
      rw [← vpush_map]
      exact hN _ _ _ _ _ hKv ad H1 locs1 ls hag hPn hDn hS1 hl
  · exact h.elim
theorem ok_callSN (hM : gM X l0 cc own Ts R0) {y : MethodName} {ws ws' : List Cond} {rm : Room} {bytes : ByteArray} {maxL index np : Nat} {ret : Option FieldType} {sp : gS} (ids : List Nat) (hC : Ct l0 y ws rm 0 0 false sp) (hn : va_nd ids = true) (hG : GoodIn Ts ws) (hw : ws = Cond.code y bytes maxL ret :: ws') (hrc : rm.cells = 0) (hrs : rm.slots = 0) (hnest : (own, index, y) ∈ gNest) (hst : Cond.static y ∈ Ts) (hini : Cond.initialized y.cls ∈ Ts)
    (hdy : y.cls ≠ "java/lang/invoke/MethodHandle" ∧ y.cls ≠ "java/lang/invoke/VarHandle" ∧ (parseMethodDescriptor y.desc).map (fun d => d.parameters.length) = some np) (hRm : rm.frames + 1 ≤ R0.frames ∧ 8 + (maxL + 11) + rm.locals ≤ R0.locals) (hd : decode cc pc = .ok (.invokestatic index, 3)) :
    okO X pc (pc + 3) (oCallS R0.cells R0.slots np ids sp) := by
  obtain ⟨p, l, e, R, s, m, args, below, meth, c, D, cA, A, ag, ad0, Q, nL⟩ := X
  obtain ⟨hx, hb, hown, hts, hml, hlk, hY, hA, hR, hL0⟩ := hM
  subst hR
  subst hL0
  intro J N hJ hN L S es k n h ad H locs ls hag hP hD hS hl
  unfold oCallS at h
  split at h
  · rename_i as S' htk
    obtain ⟨pre, h1, h2, h3⟩ := gtake_ok htk
    simp only [List.append_nil] at h1
    subst h1
    subst h2
    obtain ⟨hc1, h⟩ := bif_t (b := Nat.ble (scat S') 8 && (Nat.ble k R.cells && Nat.ble n R.slots)) h
    obtain ⟨hc1, hc2⟩ := and_t hc1
    obtain ⟨hc2, hc3⟩ := and_t hc2
    obtain ⟨esc, hp, hok, h⟩ := gspec_ok h
    have hF := gsub_F hp hok hD hS hA
    have hMet := hC D cA (fun k => ad (gid ids k)) H.size _ _ _ h
    have hcb := va_cnB (R := R) (own := own) (index := index) (host := RX6) (maxL := maxL) np hts hG hw hrc hrs (hY.2.1.1 _ hnest) (hts _ hini) hdy hRm
    refine g_call (va_runSN (As := as.map (gv ad)) (rest := S'.map (gv ad)) ⟨hx, hb, hml, hown, hts⟩ hMet ⟨hcb, hts _ hst, trivial⟩ ⟨gPc_blind, fun U hU hW => ?_⟩ rfl (by simp [h3]) hl.1 (by simp) (lv_room (by rw [scat_eq]; exact Nat.le_of_ble_eq_true hc1)) hd ⟨Nat.le_of_ble_eq_true hc2, Nat.le_of_ble_eq_true hc3⟩) hS hF (fun v es' ad' H1 locs1 hKv hag' hP1 hD1 hz hk hS1 => ?_)
    · exact g_pre (av := as) hp hok hn hY hP hD hS hA U hU hW
    · have had : ad' = fun k => ad (gid ids k) := funext fun i => hag' i trivial
      subst had
      obtain ⟨hlen, hKv⟩ := bif_t (b := Nat.beq es'.length ids.length) hKv
      rw [gputF_eq] at hKv
      obtain ⟨hPn, hDn⟩ := g_join hp hok hn hP hD (Nat.eq_of_beq_eq_true hlen) hk hP1
      rw [← vpush_map]
      exact hN _ _ _ _ _ hKv ad H1 locs1 ls hag hPn hDn hS1 hl
  · exact h.elim
/-- a contract out of a walk -/
theorem ct_of {l : Launch} {y : MethodName} {ws ws' : List Cond} {rm : Room} {mc ms : Nat} {al : Bool} {sp : gS} {cc : ByteArray} {maxL : Nat} {ret : Option FieldType} {own : String} (hy : plainName y.cls = true) (hown : y.cls = own) (hw : ws = Cond.code y cc maxL ret :: ws') (hav : ∀ av es K, sp av es K → (lg_sl av).length ≤ maxL)
    (body : ∀ (X : gX) (av : List Value) (es : List gE) (K : gK), gM X l cc own ws rm → gR X K mc ms ret → (∀ i, es.length ≤ i → al = true → ¬ X.2.2.2.2.2.2.2.2.2.2.2.2.2.1 i) → (y.name = "<init>" → gInit X) → X.2.2.2.2.2.2.2.2.2.2.2.2.2.2.2.2 = maxL → sp av es K → G X 0 (lv_args 0 av) [] es 0 0) : Ct l y ws rm mc ms al sp := by
  intro D cA ad sz av es K hsp
  refine Met.ofW (cc := cc) (maxL := maxL) (ret := ret) hy hw ?_
  intro p e s m args below meth c s₁ B hml hv
  obtain ⟨rfl, hsz, hP, hY, hD0⟩ := hv
  subst hsz
  have hts := atoms_spec (ws := ws) B.pre
  have hfc : s.vm.findClass own = some m.cls := by rw [← hown]; exact findClass_of_methodNamed B.named
  have hD := hD0.self (sz := s.heap.size)
  have hb := body (p, l, e, (headSpec ws rm).room, s, m, (av.map (gv ad)).toArray, below, meth, c, D, cA, va_A (gw cA ad es) s.heap.size, agr al es.length, ad, MQ below (gQ D cA ad (agr al es.length) (va_A (gw cA ad es) s.heap.size) K) (av.map (gv ad)).toArray s mc ms (va_A (gw cA ad es) s.heap.size), maxL) av es K
    ⟨B.exec, B.bytes, hfc, hts, hml, B.notSynchronized, hY, fun q h => Or.inr h, rfl, rfl⟩ ⟨B.returns, fun _ _ _ h => h⟩ (fun i hi ha h => by
      subst ha
      exact absurd h (Nat.not_lt.mpr hi)) (fun hi => (name_of_methodNamed B.named B.method).1.trans hi) rfl hsp
  have hl := lv_entry (av.map (gv ad)) (n := maxL) (by rw [lg_sl_len]; exact hav av es K hsp)
  rw [lv_args_map] at hl
  rw [lg_entry_eq]
  exact hb ad s.heap [] _ (fun _ _ => rfl) hP hD va_S.rf hl
-- the same cells, named by other functions that agree inside the rows
def eqE : gE → gE → Prop
  | .inl (t, n, .inl f), .inl (t', n', .inl g) => t = t' ∧ n = n' ∧ ∀ j, j < n → f j = g j
  | a, b => a = b
def eqL : List gE → List gE → Prop
  | [], [] => True
  | a :: as, b :: bs => eqE a b ∧ eqL as bs
  | _, _ => False
theorem eqE_rfl (a : gE) : eqE a a := by
  rcases a with ⟨t, n, f | f | f | r⟩ | ⟨c, fs⟩
  · exact ⟨rfl, rfl, fun _ _ => rfl⟩
  · rfl
  · rfl
  · rfl
  · rfl
theorem eqL_rfl : ∀ es : List gE, eqL es es
  | [] => trivial
  | a :: as => ⟨eqE_rfl a, eqL_rfl as⟩
theorem eqL_app : ∀ {a b a' b' : List gE}, eqL a a' → eqL b b' → eqL (a ++ b) (a' ++ b')
  | [], _, [], _, _, h => h
  | [], _, _ :: _, _, h, _ => h.elim
  | _ :: _, _, [], _, h, _ => h.elim
  | _ :: _, _, _ :: _, _, h, h' => ⟨h.1, eqL_app h.2 h'⟩
theorem arr_cong {c : ClassId} {n : Nat} {f g : Nat → Int32} (h : ∀ j, j < n → f j = g j) : vp_cell c (n, .inl f) = vp_cell c (n, .inl g) := by
  have e : (fun j : Fin n => Value.int (f j.val)) = fun j : Fin n => Value.int (g j.val) := funext fun j => by rw [h j.val j.isLt]
  show ({ cls := c, slots := Array.ofFn (fun j : Fin n => Value.int (f j.val)), vm := .none } : Cell) = { cls := c, slots := Array.ofFn (fun j : Fin n => Value.int (g j.val)), vm := .none }
  rw [e]
theorem eqE_ge {D : va_G} {cA : Nat → ClassId} {ad : Nat → Nat} {a b : gE} {q : Nat} {H : Heap} (h : eqE a b) (hv : va_at D vwCl (q, ge cA ad a) H) : va_at D vwCl (q, ge cA ad b) H := by
  by_cases hab : a = b
  · rw [← hab]; exact hv
  · rcases a with ⟨t, n, f | f | f | r⟩ | ⟨c, fs⟩
    · rcases b with ⟨t', n', g | g | g | r'⟩ | ⟨c', fs'⟩
      · obtain ⟨rfl, rfl, h⟩ := h
        show H[q]? = some (vp_cell (cA t) (n, .inl g))
        rw [← arr_cong h]
        exact hv
      · exact absurd h hab
      · exact absurd h hab
      · exact absurd h hab
      · exact absurd h hab
    · exact absurd h hab
    · exact absurd h hab
    · exact absurd h hab
    · exact absurd h hab
theorem eqL_at : ∀ {es es' : List gE}, eqL es es' → es.length = es'.length ∧ ∀ (i : Nat) (b : gE), es'[i]? = some b → ∃ a : gE, es[i]? = some a ∧ eqE a b
  | [], [], _ => ⟨rfl, fun i b h => by simp at h⟩
  | [], _ :: _, h => h.elim
  | _ :: _, [], h => h.elim
  | a :: as, b :: bs, h => by
    obtain ⟨h1, h2⟩ := eqL_at h.2
    refine ⟨by simp [h1], fun i c hc => ?_⟩
    cases i with
    | zero =>
      simp at hc
      subst hc
      exact ⟨a, rfl, h.1⟩
    | succ i =>
      obtain ⟨a', h3, h4⟩ := h2 i c (by simpa using hc)
      exact ⟨a', by simpa using h3, h4⟩
theorem eqL_P {D : va_G} {cA : Nat → ClassId} {ad : Nat → Nat} {es es' : List gE} {H : Heap} (h : eqL es es') (hP : va_P D vwCl (gw cA ad es) H) : va_P D vwCl (gw cA ad es') H := by
  intro i q hq
  rw [gw_at] at hq
  cases hb : es'[i]? with
  | none => rw [hb] at hq; cases hq
  | some b =>
    rw [hb] at hq
    cases hq
    obtain ⟨a, h1, h2⟩ := (eqL_at h).2 i b hb
    exact eqE_ge h2 (hP i _ (gw_get h1))
theorem eqL_D {cA : Nat → ClassId} {ad : Nat → Nat} {es es' : List gE} {A : Nat → Prop} (h : eqL es es') (hD : va_D A (gw cA ad es)) : va_D A (gw cA ad es') := by
  have key : ∀ (i : Nat) (q : Nat × va_E), (gw cA ad es')[i]? = some q → ∃ a, es[i]? = some a ∧ q.1 = ad i := by
    intro i q hq
    rw [gw_at] at hq
    cases hb : es'[i]? with
    | none => rw [hb] at hq; cases hq
    | some b =>
      rw [hb] at hq
      cases hq
      obtain ⟨a, h1, h2⟩ := (eqL_at h).2 i b hb
      exact ⟨a, h1, rfl⟩
  refine ⟨fun i j p q hp hq he => ?_, fun i q hq => ?_⟩
  · obtain ⟨a, h1, h2⟩ := key i p hp
    obtain ⟨b, h3, h4⟩ := key j q hq
    exact hD.1 i j _ _ (gw_get h1) (gw_get h3) (h2.symm.trans (he.trans h4))
  · obtain ⟨a, h1, h2⟩ := key i q hq
    rw [h2]
    exact hD.2 i (ad i, ge cA ad a) (gw_get h1)
def gEq (K : gK) : gK := fun v es => ∃ es2, eqL es es2 ∧ K v es2
theorem G_eqv {X : gX} {pc : Nat} {L : List (Nat × Value)} {S : List Value} {es es' : List gE} {k n : Nat} (he : eqL es es') (h : G X pc L S es' k n) : G X pc L S es k n := by
  obtain ⟨p, l, e, R, s, m, args, below, meth, c, D, cA, A, ag, ad0, Q, nL⟩ := X
  intro ad H locs ls ha hP hD hS hl
  exact h ad H locs ls ha (eqL_P he hP) (eqL_D he hD) hS hl
theorem gQ_eqv {D : va_G} {cA : Nat → ClassId} {ad0 : Nat → Nat} {ag A : Nat → Prop} {K : gK} {a : Array Value} {st t : State} {oc : Outcome} (h : gQ D cA ad0 ag A (gEq K) a st oc t) : gQ D cA ad0 ag A K a st oc t := by
  obtain ⟨⟨v, es, ad, h1, ⟨es2, he, hK⟩, h3, h4, h5⟩, h6⟩ := h
  exact ⟨⟨v, es2, ad, h1, hK, h3, eqL_P he h4, eqL_D he h5⟩, h6⟩
theorem gR_eqv {X : gX} {K : gK} {mc ms : Nat} {ret : Option FieldType} (h : gR X K mc ms ret) : gR X (gEq K) mc ms ret := by
  obtain ⟨p, l, e, R, s, m, args, below, meth, c, D, cA, A, ag, ad0, Q, nL⟩ := X
  refine ⟨h.1, fun H locs g hw => h.2 H locs g ?_⟩
  intro T hT X
  obtain ⟨t, st, o, h1, h2, h3, h4⟩ := hw T hT X
  exact ⟨t, st, o, h1, h2, gQ_eqv h3, h4⟩
end GC
