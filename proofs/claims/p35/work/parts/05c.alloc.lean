/-! Steps that make cells. -/
section GA
def wfv (b : Nat) : Value → Bool
  | .ref k => Nat.ble (k + 1) b
  | _ => true
def wfq (b : Nat) : Option Nat → Bool
  | some k => Nat.ble (k + 1) b
  | none => true
def wfE (b : Nat) : gE → Bool
  | .inr (_, fs) => fs.all (wfv b)
  | .inl (_, _, .inr (.inr (.inr r))) => r.all (wfq b)
  | .inl _ => true
def wfS (b : Nat) (L : List (Nat × Value)) (S : List Value) (es : List gE) : Bool := es.all (wfE b) && (S.all (wfv b) && L.all (fun q => wfv b q.2))
theorem wf_v {b : Nat} {v : Value} {ad ad' : Nat → Nat} (h : wfv b v = true) (ha : ∀ i, i < b → ad' i = ad i) : gv ad' v = gv ad v := by
  cases v with
  | ref k => simp only [gv]; rw [ha k (Nat.le_of_ble_eq_true h)]
  | _ => rfl
theorem wf_vs {b : Nat} {ad ad' : Nat → Nat} (ha : ∀ i, i < b → ad' i = ad i) : ∀ {vs : List Value}, vs.all (wfv b) = true → vs.map (gv ad') = vs.map (gv ad)
  | [], _ => rfl
  | v :: vs, h => by
    obtain ⟨h1, h2⟩ := and_t h
    simp only [List.map_cons, wf_v h1 ha]
    rw [wf_vs ha h2]
theorem wf_e {b : Nat} {ad ad' : Nat → Nat} {cA : Nat → ClassId} (ha : ∀ i, i < b → ad' i = ad i) {e : gE} (h : wfE b e = true) : ge cA ad' e = ge cA ad e := by
  rcases e with ⟨t, n, f | f | f | r⟩ | ⟨c, fs⟩
  · rfl
  · rfl
  · rfl
  · simp only [ge]
    have : (fun j => (r.getD j none).map ad') = fun j => (r.getD j none).map ad := by
      funext j
      rw [List.getD_eq_getElem?_getD]
      cases hj : r[j]? with
      | none => rfl
      | some q =>
        cases q with
        | none => rfl
        | some k =>
          have : wfq b (some k) = true := List.all_eq_true.mp h _ (List.mem_of_getElem? hj)
          show some (ad' k) = some (ad k)
          rw [ha k (Nat.le_of_ble_eq_true this)]
    rw [this]
  · simp only [ge]
    rw [wf_vs ha h]
theorem wf_w {ad ad' : Nat → Nat} {cA : Nat → ClassId} {es : List gE} (ha : ∀ i, i < es.length → ad' i = ad i) (h : es.all (wfE es.length) = true) : gw cA ad' es = gw cA ad es := by
  apply List.ext_getElem?
  intro i
  rw [gw_at, gw_at]
  cases he : es[i]? with
  | none => rfl
  | some e =>
    have hi : i < es.length := (List.getElem?_eq_some_iff.mp he).1
    have hw : wfE es.length e = true := List.all_eq_true.mp h _ (List.mem_of_getElem? he)
    simp only [Option.map_some]
    rw [ha i hi, wf_e ha hw]
theorem wf_l {b : Nat} {ad ad' : Nat → Nat} (ha : ∀ i, i < b → ad' i = ad i) : ∀ {L : List (Nat × Value)}, L.all (fun q => wfv b q.2) = true → lmap ad' L = lmap ad L
  | [], _ => rfl
  | q :: L, h => by
    obtain ⟨h1, h2⟩ := and_t h
    have := wf_l ha h2
    simp only [lmap, List.map_cons] at this ⊢
    rw [wf_v h1 ha, this]
def gN0 (X : gX) (n0 : Nat) : Prop := match X with
  | (_, _, _, _, _, _, _, _, _, _, _, _, _, ag, _, _, _) => ∀ i, ag i → i < n0
theorem gN0_of {X : gX} {n0 : Nat} (h : ∀ i, n0 ≤ i → true = true → ¬ X.2.2.2.2.2.2.2.2.2.2.2.2.2.1 i) : gN0 X n0 := by
  obtain ⟨p, l, e, R, s, m, args, below, meth, c, D, cA, A, ag, ad0, Q, nL⟩ := X
  intro i hi
  rcases Nat.lt_or_ge i n0 with q | q
  · exact q
  · exact absurd hi (h i q rfl)
variable {X : gX} {l0 : Launch} {cc : ByteArray} {own : String} {Ts : List Cond} {R0 : Room} {pc : Nat}
/-- the call of Object's constructor -/
def oObj (rl : Nat) : gO := fun _ N L S es k n => match S with
  | .ref _ :: S' => gif (Nat.ble (scat S' + 12) rl) (N L S' es k n)
  | _ => False
theorem ok_obj (hM : gM X l0 cc own Ts R0) {index : Nat} (hlink : Cond.methodLink own index objectInit ∈ Ts) (hinst : Cond.instanceMethod objectInit ∈ Ts) (hcode : Cond.code objectInit ⟨#[0xb1]⟩ 1 none ∈ Ts) (hfr : 1 ≤ R0.frames) (hd : decode cc pc = .ok (.invokespecial index, 3)) : okO X pc (pc + 3) (oObj R0.locals) := by
  obtain ⟨p, l, e, R, s, m, args, below, meth, c, D, cA, A, ag, ad0, Q, nL⟩ := X
  obtain ⟨hx, hb, hown, hts, hml, hlk, hY, hA, hR, hL0⟩ := hM
  subst hR
  intro J N hJ hN L S es k n h ad H locs ls hag hP hD hS hl
  unfold oObj at h
  split at h
  · rename_i b S'
    obtain ⟨hc, h⟩ := bif_t h
    have hc := Nat.le_of_ble_eq_true hc
    refine W.objInit (rest := S'.map (gv ad)) hx hb hown (hts _ hlink) (hts _ hinst) (hts _ hcode) rfl (hl.1.trans hml.symm) rfl hd hfr ?_ ?_
    · show 2 * 0 + _ + 12 ≤ _
      rw [scat_eq]
      omega
    · exact W.eq (g2 := F0 m (pc + 3) ls (S'.map (gv ad))) rfl (hN _ _ _ _ _ h ad H locs ls hag hP hD hS hl)
  · exact h.elim
/-- a new cell at the end of the world -/
theorem g_grow {D : va_G} {cA : Nat → ClassId} {ad : Nat → Nat} {es : List gE} {e : gE} {a : Nat} {H : Heap} {A : Nat → Prop} {x : va_E} (hwf : es.all (wfE es.length) = true) (hx : ∀ ad' : Nat → Nat, ge cA ad' e = x) (hP : va_P D vwCl (gw cA ad es ++ [(a, x)]) H) (hD : va_D A (gw cA ad es ++ [(a, x)])) :
    ∃ ad' : Nat → Nat, (∀ i, i < es.length → ad' i = ad i) ∧ ad' es.length = a ∧ va_P D vwCl (gw cA ad' (es ++ [e])) H ∧ va_D A (gw cA ad' (es ++ [e])) := by
  refine ⟨fun i => if i = es.length then a else ad i, fun i hi => if_neg (by omega), if_pos rfl, ?_⟩
  have h1 : gw cA (fun i => if i = es.length then a else ad i) (es ++ [e]) = gw cA ad es ++ [(a, x)] := by
    rw [← gw_push, wf_w (ad := ad) (fun i hi => if_neg (by omega)) hwf, hx]
    simp
  rw [h1]
  exact ⟨hP, hD⟩
def oNew (rc rs n0 ci Nf : Nat) (fs : List Value) : gO := fun _ N L S es k n => ∃ len : Nat, es.length = len ∧ gif (wfS len L S es && (Nat.ble n0 len && (fs.all (wfv 0) && (Nat.ble (k + 1) rc && Nat.ble (n + Nf) rs)))) (N L (.ref len :: S) (es ++ [.inr (ci, fs)]) (k + 1) (n + Nf))
theorem nov {fs : List Value} (h : fs.all (wfv 0) = true) (ad : Nat → Nat) : fs.map (gv ad) = fs := by
  induction fs with
  | nil => rfl
  | cons v fs ih =>
    obtain ⟨h1, h2⟩ := and_t h
    rw [List.map_cons, ih h2]
    cases v with
    | ref k => exact absurd (Nat.le_of_ble_eq_true h1) (by omega)
    | _ => rfl
theorem ok_new (hM : gM X l0 cc own Ts R0) {n0 : Nat} (hA0 : gN0 X n0) {C : String} {T : u_T} {Nf ci index : Nat} (hin : ∀ w ∈ u_ws C T Nf, w ∈ Ts) (ty0 : Nat → FieldType) (hty : ∀ k, k < Nf → parseFieldDescriptor (T k).2.2.1 = some (ty0 k)) (hcl : Cond.classLink own index C ∈ Ts) (hinst : Cond.instantiable C Nf ∈ Ts) (hini : Cond.initialized C ∈ Ts) (hc : vwCl[ci]? = some (C, T, Nf)) {fs : List Value} (hfs : ∀ j, j < Nf → defaultValue (ty0 j) = vp_V fs j) (hd : decode cc pc = .ok (.new index, 3)) : okO X pc (pc + 3) (oNew R0.cells R0.slots n0 ci Nf fs) := by
  obtain ⟨p, l, e, R, s, m, args, below, meth, c, D, cA, A, ag, ad0, Q, nL⟩ := X
  obtain ⟨hx, hb, hown, hts, hml, hlk, hY, hA, hR, hL0⟩ := hM
  have hK := hY.1
  subst hR
  intro J N hJ hN L S es k n h ad H locs ls hag hP hD hS hl
  obtain ⟨len, rfl, h⟩ := h
  obtain ⟨h1, h⟩ := bif_t (b := wfS es.length L S es && (Nat.ble n0 es.length && (fs.all (wfv 0) && (Nat.ble (k + 1) R.cells && Nat.ble (n + Nf) R.slots)))) h
  obtain ⟨h1, h2⟩ := and_t h1
  obtain ⟨hw1, h1⟩ := and_t h1
  obtain ⟨hw2, hw3⟩ := and_t h1
  obtain ⟨hn0, h2⟩ := and_t h2
  obtain ⟨hnv, h2⟩ := and_t h2
  obtain ⟨hk1, hk2⟩ := and_t h2
  have hn0 := Nat.le_of_ble_eq_true hn0
  refine va_new (fs := fs) hx hb hts hin ty0 hty hown (hts _ hcl) (hts _ hinst) (hts _ hini) hK hP hD hS hA hc hfs (Nat.le_of_ble_eq_true hk1) (Nat.le_of_ble_eq_true hk2) hd (fun q H1 hP1 hD1 hS1 => ?_)
  obtain ⟨ad', ha, hq, hP2, hD2⟩ := g_grow (e := .inr (ci, fs)) hw1 (fun ad' => by simp only [ge]; rw [nov hnv]) hP1 hD1
  have h3 := hN _ _ _ _ _ h ad' H1 locs ls (fun i hi => by rw [ha i (Nat.lt_of_lt_of_le (hA0 i hi) hn0)]; exact hag i hi) hP2 hD2 hS1 (by rw [wf_l ha hw3]; exact hl)
  rw [List.map_cons, wf_vs ha hw2] at h3
  have h4 : gv ad' (.ref es.length) = .ref q := by simp only [gv]; rw [hq]
  rw [h4] at h3
  exact h3
def arr0 (tag sz : Nat) : gE := match tag with
  | 3 => .inl (3, sz, .inr (.inl (fun _ => 0)))
  | 4 => .inl (4, sz, .inr (.inr (.inl (fun _ => 0))))
  | t => .inl (t, sz, .inl (fun _ => 0))
def oNewA (rc rs n0 tag : Nat) : gO := fun _ N L S es k n => match S with
  | .int x :: S' => ∃ len sz : Nat, es.length = len ∧ x = nI sz ∧ gif (wfS len L S' es && (Nat.ble n0 len && (Nat.ble sz 100000 && (Nat.ble (k + 1) rc && Nat.ble (n + sz) rs)))) (N L (.ref len :: S') (es ++ [arr0 tag sz]) (k + 1) (n + sz))
  | _ => False
theorem cA_eq {D : va_G} {cA : Nat → ClassId} {s : State} {c : ClassId} {ty : FieldType} {t : Nat} (ht : (gT cA)[t]? = some (cA t, ty)) (hK : va_K D vwCl (gT cA) s) (hK1 : va_K D vwCl (gT cA ++ [(c, ty)]) s) : c = cA t := by
  have h1 := (hK.2 t _ ht).2
  have h2 := (hK1.2 6 (c, ty) rfl).2
  cases ty with
  | object C =>
    obtain ⟨_, _, _, _, _, h1⟩ := h1
    obtain ⟨_, _, _, _, _, h2⟩ := h2
    exact Option.some.inj (h2.symm.trans h1)
  | _ => exact Option.some.inj ((show s.vm.findClass _ = some c from h2).symm.trans h1)
theorem ok_newa0 (hM : gM X l0 cc own Ts R0) {n0 : Nat} (hA0 : gN0 X n0) (harr : Cond.arrayClass .int ∈ Ts) (hd : decode cc pc = .ok (.newarray .int, 2)) : okO X pc (pc + 2) (oNewA R0.cells R0.slots n0 0) := by
  obtain ⟨p, l, e, R, s, m, args, below, meth, c, D, cA, A, ag, ad0, Q, nL⟩ := X
  obtain ⟨hx, hb, hown, hts, hml, hlk, hY, hA, hR, hL0⟩ := hM
  have hK := hY.1
  subst hR
  intro J N hJ hN L S es k n h ad H locs ls hag hP hD hS hl
  unfold oNewA at h
  split at h
  · rename_i x S'
    obtain ⟨len, sz, rfl, rfl, h⟩ := h
    obtain ⟨h1, h⟩ := bif_t (b := wfS es.length L S' es && (Nat.ble n0 es.length && (Nat.ble sz 100000 && (Nat.ble (k + 1) R.cells && Nat.ble (n + sz) R.slots)))) h
    obtain ⟨h1, h2⟩ := and_t h1
    obtain ⟨hw1, h1⟩ := and_t h1
    obtain ⟨hw2, hw3⟩ := and_t h1
    obtain ⟨hn0, h2⟩ := and_t h2
    obtain ⟨hsz, h2⟩ := and_t h2
    obtain ⟨hk1, hk2⟩ := and_t h2
    have hn0 := Nat.le_of_ble_eq_true hn0
    have hszl := sz_lt hsz
    have hsz8 := Nat.le_of_ble_eq_true hsz
    refine va_newa (atype := .int) (ty := .int) (a0 := (sz, .inl (fun _ => 0))) hx hb (hts _ harr) rfl hK hP hD hS hA (fun cA => rfl) (nI_pos hszl) (nI_clamp hszl) (show sz * 4 ≤ 536870912 by omega) (Nat.le_of_ble_eq_true hk1) (Nat.le_of_ble_eq_true hk2) hd (fun q cA' H1 hK1 hP1 hD1 hS1 => ?_)
    have hcA := cA_eq (t := 0) rfl hK hK1
    subst hcA
    obtain ⟨ad', ha, hq, hP2, hD2⟩ := g_grow (e := arr0 0 sz) hw1 (fun ad' => rfl) hP1 hD1
    have h3 := hN _ _ _ _ _ h ad' H1 locs ls (fun i hi => by rw [ha i (Nat.lt_of_lt_of_le (hA0 i hi) hn0)]; exact hag i hi) hP2 hD2 hS1 (by rw [wf_l ha hw3]; exact hl)
    rw [List.map_cons, wf_vs ha hw2] at h3
    have h4 : gv ad' (.ref es.length) = .ref q := by simp only [gv]; rw [hq]
    rw [h4] at h3
    exact h3
  · exact h.elim
theorem ok_newa1 (hM : gM X l0 cc own Ts R0) {n0 : Nat} (hA0 : gN0 X n0) (harr : Cond.arrayClass .char ∈ Ts) (hd : decode cc pc = .ok (.newarray .char, 2)) : okO X pc (pc + 2) (oNewA R0.cells R0.slots n0 1) := by
  obtain ⟨p, l, e, R, s, m, args, below, meth, c, D, cA, A, ag, ad0, Q, nL⟩ := X
  obtain ⟨hx, hb, hown, hts, hml, hlk, hY, hA, hR, hL0⟩ := hM
  have hK := hY.1
  subst hR
  intro J N hJ hN L S es k n h ad H locs ls hag hP hD hS hl
  unfold oNewA at h
  split at h
  · rename_i x S'
    obtain ⟨len, sz, rfl, rfl, h⟩ := h
    obtain ⟨h1, h⟩ := bif_t (b := wfS es.length L S' es && (Nat.ble n0 es.length && (Nat.ble sz 100000 && (Nat.ble (k + 1) R.cells && Nat.ble (n + sz) R.slots)))) h
    obtain ⟨h1, h2⟩ := and_t h1
    obtain ⟨hw1, h1⟩ := and_t h1
    obtain ⟨hw2, hw3⟩ := and_t h1
    obtain ⟨hn0, h2⟩ := and_t h2
    obtain ⟨hsz, h2⟩ := and_t h2
    obtain ⟨hk1, hk2⟩ := and_t h2
    have hn0 := Nat.le_of_ble_eq_true hn0
    have hszl := sz_lt hsz
    have hsz8 := Nat.le_of_ble_eq_true hsz
    refine va_newa (atype := .char) (ty := .char) (a0 := (sz, .inl (fun _ => 0))) hx hb (hts _ harr) rfl hK hP hD hS hA (fun cA => rfl) (nI_pos hszl) (nI_clamp hszl) (show sz * 2 ≤ 536870912 by omega) (Nat.le_of_ble_eq_true hk1) (Nat.le_of_ble_eq_true hk2) hd (fun q cA' H1 hK1 hP1 hD1 hS1 => ?_)
    have hcA := cA_eq (t := 1) rfl hK hK1
    subst hcA
    obtain ⟨ad', ha, hq, hP2, hD2⟩ := g_grow (e := arr0 1 sz) hw1 (fun ad' => rfl) hP1 hD1
    have h3 := hN _ _ _ _ _ h ad' H1 locs ls (fun i hi => by rw [ha i (Nat.lt_of_lt_of_le (hA0 i hi) hn0)]; exact hag i hi) hP2 hD2 hS1 (by rw [wf_l ha hw3]; exact hl)
    rw [List.map_cons, wf_vs ha hw2] at h3
    have h4 : gv ad' (.ref es.length) = .ref q := by simp only [gv]; rw [hq]
    rw [h4] at h3
    exact h3
  · exact h.elim
theorem ok_newa2 (hM : gM X l0 cc own Ts R0) {n0 : Nat} (hA0 : gN0 X n0) (harr : Cond.arrayClass .boolean ∈ Ts) (hd : decode cc pc = .ok (.newarray .boolean, 2)) : okO X pc (pc + 2) (oNewA R0.cells R0.slots n0 2) := by
  obtain ⟨p, l, e, R, s, m, args, below, meth, c, D, cA, A, ag, ad0, Q, nL⟩ := X
  obtain ⟨hx, hb, hown, hts, hml, hlk, hY, hA, hR, hL0⟩ := hM
  have hK := hY.1
  subst hR
  intro J N hJ hN L S es k n h ad H locs ls hag hP hD hS hl
  unfold oNewA at h
  split at h
  · rename_i x S'
    obtain ⟨len, sz, rfl, rfl, h⟩ := h
    obtain ⟨h1, h⟩ := bif_t (b := wfS es.length L S' es && (Nat.ble n0 es.length && (Nat.ble sz 100000 && (Nat.ble (k + 1) R.cells && Nat.ble (n + sz) R.slots)))) h
    obtain ⟨h1, h2⟩ := and_t h1
    obtain ⟨hw1, h1⟩ := and_t h1
    obtain ⟨hw2, hw3⟩ := and_t h1
    obtain ⟨hn0, h2⟩ := and_t h2
    obtain ⟨hsz, h2⟩ := and_t h2
    obtain ⟨hk1, hk2⟩ := and_t h2
    have hn0 := Nat.le_of_ble_eq_true hn0
    have hszl := sz_lt hsz
    have hsz8 := Nat.le_of_ble_eq_true hsz
    refine va_newa (atype := .boolean) (ty := .boolean) (a0 := (sz, .inl (fun _ => 0))) hx hb (hts _ harr) rfl hK hP hD hS hA (fun cA => rfl) (nI_pos hszl) (nI_clamp hszl) (show sz * 1 ≤ 536870912 by omega) (Nat.le_of_ble_eq_true hk1) (Nat.le_of_ble_eq_true hk2) hd (fun q cA' H1 hK1 hP1 hD1 hS1 => ?_)
    have hcA := cA_eq (t := 2) rfl hK hK1
    subst hcA
    obtain ⟨ad', ha, hq, hP2, hD2⟩ := g_grow (e := arr0 2 sz) hw1 (fun ad' => rfl) hP1 hD1
    have h3 := hN _ _ _ _ _ h ad' H1 locs ls (fun i hi => by rw [ha i (Nat.lt_of_lt_of_le (hA0 i hi) hn0)]; exact hag i hi) hP2 hD2 hS1 (by rw [wf_l ha hw3]; exact hl)
    rw [List.map_cons, wf_vs ha hw2] at h3
    have h4 : gv ad' (.ref es.length) = .ref q := by simp only [gv]; rw [hq]
    rw [h4] at h3
    exact h3
  · exact h.elim
def oNewQ (rc rs n0 : Nat) : gO := fun _ N L S es k n => match S with
  | .int x :: S' => ∃ len sz : Nat, es.length = len ∧ x = nI sz ∧ gif (wfS len L S' es && (Nat.ble n0 len && (Nat.ble sz 100000 && (Nat.ble (k + 1) rc && Nat.ble (n + sz) rs)))) (N L (.ref len :: S') (es ++ [.inl (5, sz, .inr (.inr (.inr (List.replicate sz none))))]) (k + 1) (n + sz))
  | _ => False
theorem rep_none (ad : Nat → Nat) (sz : Nat) : (fun j => ((List.replicate sz (none : Option Nat)).getD j none).map ad) = fun _ => none := by
  funext j
  rw [List.getD_eq_getElem?_getD]
  cases h : (List.replicate sz (none : Option Nat))[j]? with
  | none => rfl
  | some q =>
    have := List.mem_of_getElem? h
    rw [(List.mem_replicate.mp this).2]
    rfl
theorem ok_newq (hM : gM X l0 cc own Ts R0) {n0 : Nat} (hA0 : gN0 X n0) {index : Nat} (hcl : Cond.classLink own index RX4 ∈ Ts) (hd : decode cc pc = .ok (.anewarray index, 3)) : okO X pc (pc + 3) (oNewQ R0.cells R0.slots n0) := by
  obtain ⟨p, l, e, R, s, m, args, below, meth, c, D, cA, A, ag, ad0, Q, nL⟩ := X
  obtain ⟨hx, hb, hown, hts, hml, hlk, hY, hA, hR, hL0⟩ := hM
  have hK := hY.1
  subst hR
  intro J N hJ hN L S es k n h ad H locs ls hag hP hD hS hl
  unfold oNewQ at h
  split at h
  · rename_i x S'
    obtain ⟨len, sz, rfl, rfl, h⟩ := h
    obtain ⟨h1, h⟩ := bif_t (b := wfS es.length L S' es && (Nat.ble n0 es.length && (Nat.ble sz 100000 && (Nat.ble (k + 1) R.cells && Nat.ble (n + sz) R.slots)))) h
    obtain ⟨h1, h2⟩ := and_t h1
    obtain ⟨hw1, h1⟩ := and_t h1
    obtain ⟨hw2, hw3⟩ := and_t h1
    obtain ⟨hn0, h2⟩ := and_t h2
    obtain ⟨hsz, h2⟩ := and_t h2
    obtain ⟨hk1, hk2⟩ := and_t h2
    have hn0 := Nat.le_of_ble_eq_true hn0
    have hszl := sz_lt hsz
    have hsz8 := Nat.le_of_ble_eq_true hsz
    refine va_newq (C := RX4) hx hb hown (hts _ hcl) hY.2.1.2.2.2 hK hP hD hS hA (nI_pos hszl) (nI_clamp hszl) (by omega) (Nat.le_of_ble_eq_true hk1) (Nat.le_of_ble_eq_true hk2) hd (fun q cA' H1 hK1 hP1 hD1 hS1 => ?_)
    have hcA := cA_eq (t := 5) rfl hK hK1
    subst hcA
    obtain ⟨ad', ha, hq, hP2, hD2⟩ := g_grow (e := .inl (5, sz, .inr (.inr (.inr (List.replicate sz none))))) hw1 (fun ad' => by simp only [ge]; rw [rep_none]) hP1 hD1
    have h3 := hN _ _ _ _ _ h ad' H1 locs ls (fun i hi => by rw [ha i (Nat.lt_of_lt_of_le (hA0 i hi) hn0)]; exact hag i hi) hP2 hD2 hS1 (by rw [wf_l ha hw3]; exact hl)
    rw [List.map_cons, wf_vs ha hw2] at h3
    have h4 : gv ad' (.ref es.length) = .ref q := by simp only [gv]; rw [hq]
    rw [h4] at h3
    exact h3
  · exact h.elim
def oAASt : gO := fun _ N L S es k n => match S with
  | .ref v :: .int i :: .ref a :: S' => eRef es a 5 (fun sz r => eObj es v 4 (fun _ => ∃ j : Nat, i = nI j ∧ j < sz ∧ gif (Nat.beq r.length sz) (N L S' (es.set a (.inl (5, sz, .inr (.inr (.inr (r.set j (some v))))))) k n)))
  | _ => False
theorem set_q (ad : Nat → Nat) (r : List (Option Nat)) {j v : Nat} (hj : j < r.length) : va_up (fun j => (r.getD j none).map ad) j (some (ad v)) = fun i => ((r.set j (some v)).getD i none).map ad := by
  funext i
  show (if i = j then some (ad v) else (r.getD i none).map ad) = _
  rw [List.getD_eq_getElem?_getD, List.getD_eq_getElem?_getD, List.getElem?_set]
  by_cases h : i = j
  · subst h
    rw [if_pos rfl, if_pos rfl, if_pos hj]
    rfl
  · rw [if_neg h, if_neg (fun q => h q.symm)]
theorem ok_aast (hM : gM X l0 cc own Ts R0) (hd : decode cc pc = .ok (.aastore, 1)) : okO X pc (pc + 1) oAASt := by
  obtain ⟨p, l, e, R, s, m, args, below, meth, c, D, cA, A, ag, ad0, Q, nL⟩ := X
  obtain ⟨hx, hb, hown, hts, hml, hlk, hY, hA, hR, hL0⟩ := hM
  have hK := hY.1
  intro J N hJ hN L S es k n h ad H locs ls hag hP hD hS hl
  unfold oAASt at h
  split at h
  · rename_i v i a S'
    obtain ⟨sz, r, hes, hsz, h⟩ := eRef_ok h
    obtain ⟨fs, hev, j, rfl, hj, h⟩ := eObj_ok h
    obtain ⟨hlen, h⟩ := bif_t (b := Nat.beq r.length sz) h
    have hlen := Nat.eq_of_beq_eq_true hlen
    have hc9 : (nI j).toNatClampNeg = j := nI_clamp (Nat.lt_trans hj hsz)
    have hsq := set_q ad r (j := j) (v := v) (by omega)
    refine va_astq (r := (RX4, TX4, 6)) hx hb hK hP hD hS a 5 v 4 (gw_get hes) rfl (gw_get hev) rfl (vp_in_nI hj hsz) hd (fun H1 locs1 hP1 hD1 hS1 => hN _ _ _ _ _ h ad H1 locs1 ls hag ?_ ?_ hS1 hl)
    · rw [hc9, hsq] at hP1
      rw [← gw_set]
      exact hP1
    · rw [hc9, hsq] at hD1
      rw [← gw_set]
      exact hD1
  · exact h.elim
-- a constructor's call: its own cell, and what it makes
def gren (b len : Nat) : Nat → Nat
  | 0 => b
  | j + 1 => len + j
def oCallI (rc rs cmc cms n0 : Nat) (sp : gS) : gO := fun _ N L S es k n => match S with
  | .ref b :: S' => (match gnth es b with
    | some (.inr (ci, fs)) => ∃ len : Nat, es.length = len ∧ gif (wfS len L S' es && (fs.all (wfv 0) && (Nat.ble n0 len && (Nat.ble (scat S') 8 && (Nat.ble (k + cmc) rc && Nat.ble (n + cms) rs))))) (sp [.ref 0] [.inr (ci, fs)] (fun v es' => match v with
      | none => (match es' with
        | e0 :: new => gforce (es.set b (renE (gren b len) e0) ++ new.map (renE (gren b len))) (fun es2 => N L S' es2 (k + cmc) (n + cms))
        | [] => False)
      | some _ => False))
    | _ => False)
  | _ => False
/-- behind a constructor -/
theorem g_joinI {D : va_G} {cA : Nat → ClassId} {ad adc : Nat → Nat} {es new : List gE} {e0 : gE} {b ci : Nat} {fs : List Value} {A : Nat → Prop} {H0 H H1 : Heap} {locs : List Loc} (hb : es[b]? = some (.inr (ci, fs))) (hwf : es.all (wfE es.length) = true) (hP : va_P D vwCl (gw cA ad es) H) (hD : va_D A (gw cA ad es)) (hS : va_S A H0 H locs) (hA : ∀ q, H0.size ≤ q → A q) (h0 : adc 0 = ad b)
    (hk : ∀ q : Nat, q < H.size → ¬ va_A (gw cA (fun _ => ad b) [.inr (ci, fs)]) H.size q → H1[q]? = H[q]?) (hP1 : va_P D vwCl (gw cA adc (e0 :: new)) H1) (hD1 : va_D (va_A (gw cA (fun _ => ad b) [.inr (ci, fs)]) H.size) (gw cA adc (e0 :: new))) :
    ∃ ad' : Nat → Nat, (∀ i, i < es.length → ad' i = ad i) ∧ va_P D vwCl (gw cA ad' (es.set b (renE (gren b es.length) e0) ++ new.map (renE (gren b es.length)))) H1 ∧ va_D A (gw cA ad' (es.set b (renE (gren b es.length) e0) ++ new.map (renE (gren b es.length)))) := by
  have hbl : b < es.length := (List.getElem?_eq_some_iff.mp hb).1
  obtain ⟨ad', had'⟩ : ∃ ad' : Nat → Nat, ad' = fun i => if i < es.length then ad i else adc (1 + (i - es.length)) := ⟨_, rfl⟩
  have ho : ∀ i, i < es.length → ad' i = ad i := fun i hi => by rw [had']; exact if_pos hi
  have hn : ∀ j, ad' (es.length + j) = adc (j + 1) := fun j => by
    rw [had']
    show (if es.length + j < es.length then _ else _) = _
    rw [if_neg (by omega), Nat.add_sub_cancel_left, Nat.add_comm]
  have hren : (fun k => ad' (gren b es.length k)) = adc := by
    funext k
    cases k with
    | zero => show ad' b = adc 0; rw [ho b hbl, h0]
    | succ j => exact hn j
  have hA1 : ∀ q, va_A (gw cA (fun _ => ad b) [.inr (ci, fs)]) H.size q → q = ad b ∨ H.size ≤ q := by
    intro q h
    rcases h with ⟨k, e, h⟩ | h
    · rw [gw_at] at h
      cases k with
      | zero =>
        simp only [List.getElem?_cons_zero, Option.map_some] at h
        exact Or.inl (congrArg Prod.fst (Option.some.inj h)).symm
      | succ k => simp at h
    · exact Or.inr h
  -- the cells of the new world, by their numbers
  have cell : ∀ (i : Nat) (q : Nat × va_E), (gw cA ad' (es.set b (renE (gren b es.length) e0) ++ new.map (renE (gren b es.length))))[i]? = some q → (i < es.length ∧ i ≠ b ∧ (gw cA ad es)[i]? = some q) ∨ (i = b ∧ q = (ad b, ge cA adc e0)) ∨ ∃ j e, i = es.length + j ∧ new[j]? = some e ∧ q = (adc (j + 1), ge cA adc e) := by
    intro i q h
    rw [gw_at] at h
    by_cases hi : i < es.length
    · rw [List.getElem?_append_left (by simpa using hi), List.getElem?_set] at h
      by_cases hib : b = i
      · subst hib
        rw [if_pos rfl, if_pos hbl] at h
        refine Or.inr (Or.inl ⟨rfl, ?_⟩)
        have := Option.some.inj h
        rw [← this]
        show (ad' b, ge cA ad' (renE (gren b es.length) e0)) = _
        rw [ren_e, hren, ho b hbl]
      · rw [if_neg hib] at h
        refine Or.inl ⟨hi, fun z => hib z.symm, ?_⟩
        rw [gw_at, ← h]
        cases he : es[i]? with
        | none => rfl
        | some e =>
          have hw : wfE es.length e = true := List.all_eq_true.mp hwf _ (List.mem_of_getElem? he)
          simp only [Option.map_some]
          rw [ho i hi, wf_e ho hw]
    · rw [List.getElem?_append_right (by simpa using hi)] at h
      simp only [List.length_set, List.getElem?_map] at h
      cases he : new[i - es.length]? with
      | none => rw [he] at h; cases h
      | some e =>
        rw [he] at h
        refine Or.inr (Or.inr ⟨i - es.length, e, by omega, he, ?_⟩)
        have := Option.some.inj h
        rw [← this]
        show (ad' i, ge cA ad' (renE (gren b es.length) e)) = _
        rw [ren_e, hren]
        rw [show i = es.length + (i - es.length) by omega, hn]
        simp
  have at0 : (gw cA adc (e0 :: new))[0]? = some (adc 0, ge cA adc e0) := gw_get rfl
  have atn : ∀ (j : Nat) (e : gE), new[j]? = some e → (gw cA adc (e0 :: new))[j + 1]? = some (adc (j + 1), ge cA adc e) := fun j e h => gw_get (by simpa using h)
  have oldlt : ∀ (i : Nat) (q : Nat × va_E), (gw cA ad es)[i]? = some q → q.1 < H.size := fun i q h => (hP i q h).lt
  have oldne : ∀ (i : Nat) (q : Nat × va_E), i ≠ b → (gw cA ad es)[i]? = some q → q.1 ≠ ad b := fun i q hi h z => hi (hD.1 i b q _ h (gw_get hb) z)
  have newge : ∀ (j : Nat) (e : gE), new[j]? = some e → H.size ≤ adc (j + 1) := fun j e h => by
    rcases hA1 _ (hD1.2 (j + 1) _ (atn j e h)) with z | z
    · exfalso
      have := hD1.1 (j + 1) 0 _ _ (atn j e h) at0 (z.trans h0.symm)
      omega
    · exact z
  refine ⟨ad', ho, fun i q h => ?_, fun i j p q hp hq hpq => ?_, fun i q h => ?_⟩
  · rcases cell i q h with ⟨h1, h2, h3⟩ | ⟨h1, h2⟩ | ⟨j, e, h1, h2, h3⟩
    · refine (hP i q h3).kept (hk q.1 (oldlt i q h3) (fun z => ?_))
      rcases hA1 _ z with z | z
      · exact oldne i q h2 h3 z
      · have := oldlt i q h3
        omega
    · rw [h2, ← h0]
      exact hP1 0 _ at0
    · rw [h3]
      exact hP1 (j + 1) _ (atn j e h2)
  · rcases cell i p hp with ⟨h1, h2, h3⟩ | ⟨h1, h2⟩ | ⟨x, e, h1, h2, h3⟩ <;> rcases cell j q hq with ⟨g1, g2, g3⟩ | ⟨g1, g2⟩ | ⟨y, f, g1, g2, g3⟩
    · exact hD.1 i j p q h3 g3 hpq
    · exact absurd (hpq.trans (by rw [g2])) (oldne i p h2 h3)
    · have a1 := oldlt i p h3
      have a2 := newge y f g2
      rw [g3] at hpq
      simp only at hpq
      omega
    · exact absurd (hpq.symm.trans (by rw [h2])) (oldne j q g2 g3)
    · omega
    · have a2 := newge y f g2
      have a1 := oldlt b _ (gw_get hb)
      rw [h2, g3] at hpq
      simp only at hpq a1
      omega
    · have a1 := oldlt j q g3
      have a2 := newge x e h2
      rw [h3] at hpq
      simp only at hpq
      omega
    · have a2 := newge x e h2
      have a1 := oldlt b _ (gw_get hb)
      rw [h3, g2] at hpq
      simp only at hpq a1
      omega
    · rw [h3, g3] at hpq
      have := hD1.1 (x + 1) (y + 1) _ _ (atn x e h2) (atn y f g2) hpq
      omega
  · rcases cell i q h with ⟨h1, h2, h3⟩ | ⟨h1, h2⟩ | ⟨j, e, h1, h2, h3⟩
    · exact hD.2 i q h3
    · rw [h2]
      show A (ad b)
      exact hD.2 b (ad b, ge cA ad (.inr (ci, fs))) (gw_get hb)
    · rw [h3]
      exact hA _ (Nat.le_trans hS.1 (newge j e h2))
theorem ok_callI (hM : gM X l0 cc own Ts R0) {n0 : Nat} (hA0 : gN0 X n0) {y : MethodName} {ws ws' : List Cond} {rm : Room} {bytes : ByteArray} {maxL index cmc cms : Nat} {sp : gS} (hC : Ct l0 y ws rm cmc cms true sp) (hG : GoodIn Ts ws) (hw : ws = Cond.code y bytes maxL none :: ws') (hrc : rm.cells = cmc) (hrs : rm.slots = cms) (hlink : Cond.methodLink own index y ∈ Ts) (hini : Cond.initialized y.cls ∈ Ts) (hin : Cond.instanceMethod y ∈ Ts) (hy1 : y.name = "<init>")
    (hdy : y.cls ≠ "java/lang/invoke/MethodHandle" ∧ y.cls ≠ "java/lang/invoke/VarHandle" ∧ (parseMethodDescriptor y.desc).map (fun d => d.parameters.length) = some 0) (hRm : rm.frames + 1 ≤ R0.frames ∧ 8 + (maxL + 11) + rm.locals ≤ R0.locals) (hd : decode cc pc = .ok (.invokespecial index, 3)) :
    okO X pc (pc + 3) (oCallI R0.cells R0.slots cmc cms n0 sp) := by
  obtain ⟨p, l, e, R, s, m, args, below, meth, c, D, cA, A, ag, ad0, Q, nL⟩ := X
  obtain ⟨hx, hb, hown, hts, hml, hlk, hY, hA, hR, hL0⟩ := hM
  subst hR
  subst hL0
  intro J N hJ hN L S es k n h ad H locs ls hag hP hD hS hl
  unfold oCallI at h
  split at h
  · rename_i b S'
    split at h
    · rename_i ci fs hes
      rw [gnth_eq] at hes
      obtain ⟨len, rfl, h⟩ := h
      obtain ⟨h1, h⟩ := bif_t (b := wfS es.length L S' es && (fs.all (wfv 0) && (Nat.ble n0 es.length && (Nat.ble (scat S') 8 && (Nat.ble (k + cmc) R.cells && Nat.ble (n + cms) R.slots))))) h
      obtain ⟨h1, h2⟩ := and_t h1
      obtain ⟨hw1, h1⟩ := and_t h1
      obtain ⟨hw2, hw3⟩ := and_t h1
      obtain ⟨hnv, h2⟩ := and_t h2
      obtain ⟨hn0, h2⟩ := and_t h2
      obtain ⟨hsc, h2⟩ := and_t h2
      obtain ⟨hk1, hk2⟩ := and_t h2
      have hn0 := Nat.le_of_ble_eq_true hn0
      have hMet := hC D cA (fun _ => ad b) H.size _ _ _ h
      have hge : ∀ ad9 : Nat → Nat, ge cA ad9 (.inr (ci, fs)) = .inr (ci, fs) := fun ad9 => by simp only [ge]; rw [nov hnv]
      have hsub : ∀ (j : Nat) (q : Nat × va_E), (gw cA (fun _ => ad b) [.inr (ci, fs)])[j]? = some q → j = 0 ∧ q = (ad b, .inr (ci, fs)) := fun j q hj => by
        rw [gw_at] at hj
        cases j with
        | zero =>
          simp only [List.getElem?_cons_zero, Option.map_some, hge] at hj
          exact ⟨rfl, (Option.some.inj hj).symm⟩
        | succ j => simp at hj
      have hbw : (gw cA ad es)[b]? = some (ad b, .inr (ci, fs)) := by rw [gw_get hes, hge]
      have hF : ∀ q, va_A (gw cA (fun _ => ad b) [.inr (ci, fs)]) H.size q → A q := by
        intro q hq
        rcases hq with ⟨j, e9, hq⟩ | hq
        · have := (hsub j _ hq).2
          rw [show q = ad b from congrArg Prod.fst this]
          exact hD.2 b _ hbw
        · exact hA q (Nat.le_trans hS.1 hq)
      have hcb := cwI (R := R) (own := own) (index := index) (maxL := maxL) 0 hts hG hw hrc hrs (hts _ hini) (hts _ hlink) (hts _ hin) hy1 hdy hRm
      refine g_call (va_runI (As := []) (rest := S'.map (gv ad)) (b := ad b) ⟨hx, hb, hml, hown, hts⟩ hMet hcb ⟨gPc_blind, fun U hU hW => ?_⟩ rfl rfl hl.1 rfl (lv_room (by rw [scat_eq]; exact Nat.le_of_ble_eq_true hsc)) hd ⟨Nat.le_of_ble_eq_true hk1, Nat.le_of_ble_eq_true hk2⟩) hS hF (fun v es' ad' H1 locs1 hKv hag' hP1 hD1 hz hk hS1 => ?_)
      · refine ⟨rfl, by rw [hU], ?_, gY.call hY hS hF hW hU, ⟨fun i j x y hi hj _ => ?_, fun _ _ _ => trivial⟩⟩
        · rw [hU]
          intro j q hj
          rw [(hsub j q hj).2]
          exact hP b _ hbw
        · rw [(hsub i x hi).1, (hsub j y hj).1]
      · cases v with
        | some v => exact hKv.elim
        | none =>
          cases es' with
          | nil => exact hKv.elim
          | cons e0 new =>
            have hKv : gforce (es.set b (renE (gren b es.length) e0) ++ new.map (renE (gren b es.length))) (fun es2 => N L S' es2 (k + cmc) (n + cms)) := hKv
            rw [gforce_eq] at hKv
            obtain ⟨ad2, ho, hP2, hD2⟩ := g_joinI hes hw1 hP hD hS hA (hag' 0 (Nat.zero_lt_one)) hk hP1 hD1
            have h3 := hN _ _ _ _ _ hKv ad2 H1 locs1 ls (fun i hi => by rw [ho i (Nat.lt_of_lt_of_le (hA0 i hi) hn0)]; exact hag i hi) hP2 hD2 hS1 (by rw [wf_l ho hw3]; exact hl)
            rw [wf_vs ho hw2] at h3
            exact h3
    · exact h.elim
  · exact h.elim
theorem ok_callIN (hM : gM X l0 cc own Ts R0) {n0 : Nat} (hA0 : gN0 X n0) {y : MethodName} {ws ws' : List Cond} {rm : Room} {bytes : ByteArray} {maxL index cmc cms : Nat} {sp : gS} (hC : Ct l0 y ws rm cmc cms true sp) (hG : GoodIn Ts ws) (hw : ws = Cond.code y bytes maxL none :: ws') (hrc : rm.cells = cmc) (hrs : rm.slots = cms) (hnest : (own, index, y) ∈ gNest) (hini : Cond.initialized y.cls ∈ Ts) (hin : Cond.instanceMethod y ∈ Ts) (hy1 : y.name = "<init>")
    (hdy : y.cls ≠ "java/lang/invoke/MethodHandle" ∧ y.cls ≠ "java/lang/invoke/VarHandle" ∧ (parseMethodDescriptor y.desc).map (fun d => d.parameters.length) = some 0) (hRm : rm.frames + 1 ≤ R0.frames ∧ 8 + (maxL + 11) + rm.locals ≤ R0.locals) (hd : decode cc pc = .ok (.invokespecial index, 3)) :
    okO X pc (pc + 3) (oCallI R0.cells R0.slots cmc cms n0 sp) := by
  obtain ⟨p, l, e, R, s, m, args, below, meth, c, D, cA, A, ag, ad0, Q, nL⟩ := X
  obtain ⟨hx, hb, hown, hts, hml, hlk, hY, hA, hR, hL0⟩ := hM
  subst hR
  subst hL0
  intro J N hJ hN L S es k n h ad H locs ls hag hP hD hS hl
  unfold oCallI at h
  split at h
  · rename_i b S'
    split at h
    · rename_i ci fs hes
      rw [gnth_eq] at hes
      obtain ⟨len, rfl, h⟩ := h
      obtain ⟨h1, h⟩ := bif_t (b := wfS es.length L S' es && (fs.all (wfv 0) && (Nat.ble n0 es.length && (Nat.ble (scat S') 8 && (Nat.ble (k + cmc) R.cells && Nat.ble (n + cms) R.slots))))) h
      obtain ⟨h1, h2⟩ := and_t h1
      obtain ⟨hw1, h1⟩ := and_t h1
      obtain ⟨hw2, hw3⟩ := and_t h1
      obtain ⟨hnv, h2⟩ := and_t h2
      obtain ⟨hn0, h2⟩ := and_t h2
      obtain ⟨hsc, h2⟩ := and_t h2
      obtain ⟨hk1, hk2⟩ := and_t h2
      have hn0 := Nat.le_of_ble_eq_true hn0
      have hMet := hC D cA (fun _ => ad b) H.size _ _ _ h
      have hge : ∀ ad9 : Nat → Nat, ge cA ad9 (.inr (ci, fs)) = .inr (ci, fs) := fun ad9 => by simp only [ge]; rw [nov hnv]
      have hsub : ∀ (j : Nat) (q : Nat × va_E), (gw cA (fun _ => ad b) [.inr (ci, fs)])[j]? = some q → j = 0 ∧ q = (ad b, .inr (ci, fs)) := fun j q hj => by
        rw [gw_at] at hj
        cases j with
        | zero =>
          simp only [List.getElem?_cons_zero, Option.map_some, hge] at hj
          exact ⟨rfl, (Option.some.inj hj).symm⟩
        | succ j => simp at hj
      have hbw : (gw cA ad es)[b]? = some (ad b, .inr (ci, fs)) := by rw [gw_get hes, hge]
      have hF : ∀ q, va_A (gw cA (fun _ => ad b) [.inr (ci, fs)]) H.size q → A q := by
        intro q hq
        rcases hq with ⟨j, e9, hq⟩ | hq
        · have := (hsub j _ hq).2
          rw [show q = ad b from congrArg Prod.fst this]
          exact hD.2 b _ hbw
        · exact hA q (Nat.le_trans hS.1 hq)
      have hcb := va_cnB (R := R) (own := own) (index := index) (host := RX6) (maxL := maxL) 0 hts hG hw hrc hrs (hY.2.1.1 _ hnest) (hts _ hini) hdy hRm
      refine g_call (va_runIN (As := []) (rest := S'.map (gv ad)) (b := ad b) ⟨hx, hb, hml, hown, hts⟩ hMet ⟨hcb, hy1, hts _ hin⟩ ⟨gPc_blind, fun U hU hW => ?_⟩ rfl rfl hl.1 rfl (lv_room (by rw [scat_eq]; exact Nat.le_of_ble_eq_true hsc)) hd ⟨Nat.le_of_ble_eq_true hk1, Nat.le_of_ble_eq_true hk2⟩) hS hF (fun v es' ad' H1 locs1 hKv hag' hP1 hD1 hz hk hS1 => ?_)
      · refine ⟨rfl, by rw [hU], ?_, gY.call hY hS hF hW hU, ⟨fun i j x y hi hj _ => ?_, fun _ _ _ => trivial⟩⟩
        · rw [hU]
          intro j q hj
          rw [(hsub j q hj).2]
          exact hP b _ hbw
        · rw [(hsub i x hi).1, (hsub j y hj).1]
      · cases v with
        | some v => exact hKv.elim
        | none =>
          cases es' with
          | nil => exact hKv.elim
          | cons e0 new =>
            have hKv : gforce (es.set b (renE (gren b es.length) e0) ++ new.map (renE (gren b es.length))) (fun es2 => N L S' es2 (k + cmc) (n + cms)) := hKv
            rw [gforce_eq] at hKv
            obtain ⟨ad2, ho, hP2, hD2⟩ := g_joinI hes hw1 hP hD hS hA (hag' 0 (Nat.zero_lt_one)) hk hP1 hD1
            have h3 := hN _ _ _ _ _ hKv ad2 H1 locs1 ls (fun i hi => by rw [ho i (Nat.lt_of_lt_of_le (hA0 i hi) hn0)]; exact hag i hi) hP2 hD2 hS1 (by rw [wf_l ho hw3]; exact hl)
            rw [wf_vs ho hw2] at h3
            exact h3
    · exact h.elim
  · exact h.elim
end GA
