/-! The law: the script, the making of the cache. -/
section LG1
variable {X : gX} {l0 : Launch} {cc : ByteArray} {own : String} {Ts : List Cond} {R0 : Room} {pc : Nat}
/-- what a start says of the script: its number is r -/
def gSc (X : gX) (b Ls : Nat) (xs : Nat → Int32) (r : Nat) : Prop := match X with
  | (_, _, _, _, s, _, _, _, _, _, _, _, A, ag, ad0, _, _) => va_X b Ls xs s s.heap ∧ b < s.heap.size ∧ ¬ A b ∧ ag r ∧ ad0 r = b ∧ Ls ≤ 2560
def oSld (Ls : Nat) (xs : Nat → Int32) (r0 : Nat) : gO := fun _ N L S es k n => match S with
  | .int i :: .ref r :: S' => gif (Nat.beq r r0) (∃ j : Nat, i = nI j ∧ j < Ls ∧ N L (.int (xs j) :: S') es k n)
  | _ => False
theorem ok_sld (hM : gM X l0 cc own Ts R0) {b Ls r0 : Nat} {xs : Nat → Int32} (hSc : gSc X b Ls xs r0) (hd : decode cc pc = .ok (.iaload, 1)) : okO X pc (pc + 1) (oSld Ls xs r0) := by
  obtain ⟨p, l, e, R, s, m, args, below, meth, c, D, cA, A, ag, ad0, Q, nL⟩ := X
  obtain ⟨hx, hb, hown, hts, hml, hlk, hY, hA, hR, hL0⟩ := hM
  obtain ⟨hX, hbl, hbA, hr1, hr2, hL⟩ := hSc
  intro J N hJ hN L S es k n h ad H locs ls hag hP hD hS hl
  unfold oSld at h
  split at h
  · rename_i i r S'
    replace h := bif_t h
    obtain ⟨hr, h⟩ := h
    obtain rfl := Nat.eq_of_beq_eq_true hr
    obtain ⟨j, rfl, hj, h⟩ := h
    have e1 : gv ad (.ref r) = .ref b := by
      show Value.ref (ad r) = _
      rw [hag r hr1, hr2]
    have hc9 : (nI j).toNatClampNeg = j := nI_clamp (by omega)
    show W p l e R s m args below meth c H locs k n Q (F0 m pc ls (.int (nI j) :: gv ad (.ref r) :: S'.map (gv ad)))
    rw [e1]
    refine va_sld hx hb hX hbl hbA hS (vp_in_nI hj (by omega)) hd ?_
    rw [hc9]
    exact hN _ _ _ _ _ h ad H locs ls hag hP hD hS hl
  · exact h.elim
def oSlen (Ls r0 : Nat) : gO := fun _ N L S es k n => match S with
  | .ref r :: S' => gif (Nat.beq r r0) (N L (.int (nI Ls) :: S') es k n)
  | _ => False
theorem ok_slen (hM : gM X l0 cc own Ts R0) {b Ls r0 : Nat} {xs : Nat → Int32} (hSc : gSc X b Ls xs r0) (hd : decode cc pc = .ok (.arraylength, 1)) : okO X pc (pc + 1) (oSlen Ls r0) := by
  obtain ⟨p, l, e, R, s, m, args, below, meth, c, D, cA, A, ag, ad0, Q, nL⟩ := X
  obtain ⟨hx, hb, hown, hts, hml, hlk, hY, hA, hR, hL0⟩ := hM
  obtain ⟨hX, hbl, hbA, hr1, hr2, hL⟩ := hSc
  intro J N hJ hN L S es k n h ad H locs ls hag hP hD hS hl
  unfold oSlen at h
  split at h
  · rename_i r S'
    replace h := bif_t h
    obtain ⟨hr, h⟩ := h
    obtain rfl := Nat.eq_of_beq_eq_true hr
    have e1 : gv ad (.ref r) = .ref b := by
      show Value.ref (ad r) = _
      rw [hag r hr1, hr2]
    show W p l e R s m args below meth c H locs k n Q (F0 m pc ls (gv ad (.ref r) :: S'.map (gv ad)))
    rw [e1]
    exact va_slen hx hb hX hbl hbA hS hd (hN _ _ _ _ _ h ad H locs ls hag hP hD hS hl)
  · exact h.elim
/-- the law's end -/
def gLE (X : gX) : Prop := match X with
  | (p, l, e, R, s, m, args, below, meth, c, _, _, A, _, _, Q, _) => ∀ (H : Heap) (locs : List Loc) (k n pc : Nat) (ls : Array Slot), decode code pc = .ok (.ireturn, 1) → (∀ q ∈ locs, A q.base) → k ≤ 600104 → n ≤ 7301314 → W p l e R s m args below meth c H locs k n Q (F0 m pc ls [.int (nI 1)])
def oLEnd : gO := fun _ _ _ S _ k n => S = [.int (nI 1)] ∧ k ≤ 600104 ∧ n ≤ 7301314
theorem ok_lend {nx : Nat} (hE : gLE X) (hd : decode code pc = .ok (.ireturn, 1)) : okO X pc nx oLEnd := by
  obtain ⟨p, l, e, R, s, m, args, below, meth, c, D, cA, A, ag, ad0, Q, nL⟩ := X
  intro J N hJ hN L S es k n h ad H locs ls hag hP hD hS hl
  obtain ⟨rfl, h1, h2⟩ := h
  exact hE H locs k n pc ls hd hS.2.2 h1 h2
def isS : Value → Bool
  | .ref k => Nat.beq k 999
  | _ => false
def wfS9 (b : Nat) (L : List (Nat × Value)) (S : List Value) (es : List gE) : Bool := es.all (wfE b) && (S.all (wfv b) && (L.all (fun q => wfv b q.2 || isS q.2) && Nat.ble b 900))
theorem wf_l9 {b : Nat} {ad ad' : Nat → Nat} (ha : ∀ i, i < b → ad' i = ad i) (h9 : ad' 999 = ad 999) : ∀ {L : List (Nat × Value)}, L.all (fun q => wfv b q.2 || isS q.2) = true → lmap ad' L = lmap ad L
  | [], _ => rfl
  | q :: L, h => by
    obtain ⟨h1, h2⟩ := and_t h
    have := wf_l9 ha h9 h2
    simp only [lmap, List.map_cons] at this ⊢
    have e : gv ad' q.2 = gv ad q.2 := by
      rcases Bool.or_eq_true _ _ ▸ h1 with h1 | h1
      · exact wf_v h1 ha
      · obtain ⟨i, v⟩ := q
        cases v with
        | ref k =>
          have : k = 999 := Nat.eq_of_beq_eq_true h1
          subst this
          simp only [gv]
          rw [h9]
        | _ => rfl
    rw [e, this]
def gN9 (X : gX) : Prop := match X with
  | (_, _, _, _, _, _, _, _, _, _, _, _, _, ag, _, _, _) => ∀ i, ag i → i = 999
/-- a new cell at the end of the world -/
theorem g_grow9 {D : va_G} {cA : Nat → ClassId} {ad : Nat → Nat} {es : List gE} {e : gE} {a : Nat} {H : Heap} {A : Nat → Prop} {x : va_E} (hwf : es.all (wfE es.length) = true) (hx : ∀ ad' : Nat → Nat, ge cA ad' e = x) (hP : va_P D vwCl (gw cA ad es ++ [(a, x)]) H) (hD : va_D A (gw cA ad es ++ [(a, x)])) :
    ∃ ad' : Nat → Nat, (∀ i, ¬ i = es.length → ad' i = ad i) ∧ ad' es.length = a ∧ va_P D vwCl (gw cA ad' (es ++ [e])) H ∧ va_D A (gw cA ad' (es ++ [e])) := by
  refine ⟨fun i => if i = es.length then a else ad i, fun i hi => if_neg hi, if_pos rfl, ?_⟩
  have h1 : gw cA (fun i => if i = es.length then a else ad i) (es ++ [e]) = gw cA ad es ++ [(a, x)] := by
    rw [← gw_push, wf_w (ad := ad) (fun i hi => if_neg (by omega)) hwf, hx]
    simp
  rw [h1]
  exact ⟨hP, hD⟩
def oNew9 (rc rs ci Nf : Nat) (fs : List Value) : gO := fun _ N L S es k n => ∃ len : Nat, es.length = len ∧ gif (wfS9 len L S es && (Nat.ble 0 len && (fs.all (wfv 0) && (Nat.ble (k + 1) rc && Nat.ble (n + Nf) rs)))) (N L (.ref len :: S) (es ++ [.inr (ci, fs)]) (k + 1) (n + Nf))
theorem ok_new9 (hM : gM X l0 cc own Ts R0) (hA0 : gN9 X) {C : String} {T : u_T} {Nf ci index : Nat} (hin : ∀ w ∈ u_ws C T Nf, w ∈ Ts) (ty0 : Nat → FieldType) (hty : ∀ k, k < Nf → parseFieldDescriptor (T k).2.2.1 = some (ty0 k)) (hcl : Cond.classLink own index C ∈ Ts) (hinst : Cond.instantiable C Nf ∈ Ts) (hini : Cond.initialized C ∈ Ts) (hc : vwCl[ci]? = some (C, T, Nf)) {fs : List Value} (hfs : ∀ j, j < Nf → defaultValue (ty0 j) = vp_V fs j) (hd : decode cc pc = .ok (.new index, 3)) : okO X pc (pc + 3) (oNew9 R0.cells R0.slots ci Nf fs) := by
  obtain ⟨p, l, e, R, s, m, args, below, meth, c, D, cA, A, ag, ad0, Q, nL⟩ := X
  obtain ⟨hx, hb, hown, hts, hml, hlk, hY, hA, hR, hL0⟩ := hM
  have hK := hY.1
  subst hR
  intro J N hJ hN L S es k n h ad H locs ls hag hP hD hS hl
  obtain ⟨len, rfl, h⟩ := h
  obtain ⟨h1, h⟩ := bif_t (b := wfS9 es.length L S es && (Nat.ble 0 es.length && (fs.all (wfv 0) && (Nat.ble (k + 1) R.cells && Nat.ble (n + Nf) R.slots)))) h
  obtain ⟨h1, h2⟩ := and_t h1
  obtain ⟨hw1, h1⟩ := and_t h1
  obtain ⟨hw2, hw3⟩ := and_t h1
  obtain ⟨hn0, h2⟩ := and_t h2
  obtain ⟨hnv, h2⟩ := and_t h2
  obtain ⟨hk1, hk2⟩ := and_t h2
  refine va_new (fs := fs) hx hb hts hin ty0 hty hown (hts _ hcl) (hts _ hinst) (hts _ hini) hK hP hD hS hA hc hfs (Nat.le_of_ble_eq_true hk1) (Nat.le_of_ble_eq_true hk2) hd (fun q H1 hP1 hD1 hS1 => ?_)
  obtain ⟨ad', ha0, hq, hP2, hD2⟩ := g_grow9 (e := .inr (ci, fs)) hw1 (fun ad' => by simp only [ge]; rw [nov hnv]) hP1 hD1
  obtain ⟨hw3, hb9⟩ := and_t hw3
  have hb9 := Nat.le_of_ble_eq_true hb9
  have ha : ∀ i, i < es.length → ad' i = ad i := fun i hi => ha0 i (by omega)
  have h9 : ad' 999 = ad 999 := ha0 999 (by omega)
  have h3 := hN _ _ _ _ _ h ad' H1 locs ls (fun i hi => by rw [hA0 i hi, h9]; exact hag 999 (by rw [← hA0 i hi]; exact hi)) hP2 hD2 hS1 (by rw [wf_l9 ha h9 hw3]; exact hl)
  rw [List.map_cons, wf_vs ha hw2] at h3
  have h4 : gv ad' (.ref es.length) = .ref q := by simp only [gv]; rw [hq]
  rw [h4] at h3
  exact h3
/-- behind a constructor -/
theorem g_joinI9 {D : va_G} {cA : Nat → ClassId} {ad adc : Nat → Nat} {es new : List gE} {e0 : gE} {b ci : Nat} {fs : List Value} {A : Nat → Prop} {H0 H H1 : Heap} {locs : List Loc} (hb : es[b]? = some (.inr (ci, fs))) (hwf : es.all (wfE es.length) = true) (hP : va_P D vwCl (gw cA ad es) H) (hD : va_D A (gw cA ad es)) (hS : va_S A H0 H locs) (hA : ∀ q, H0.size ≤ q → A q) (h0 : adc 0 = ad b)
    (hk : ∀ q : Nat, q < H.size → ¬ va_A (gw cA (fun _ => ad b) [.inr (ci, fs)]) H.size q → H1[q]? = H[q]?) (hP1 : va_P D vwCl (gw cA adc (e0 :: new)) H1) (hD1 : va_D (va_A (gw cA (fun _ => ad b) [.inr (ci, fs)]) H.size) (gw cA adc (e0 :: new))) :
    ∃ ad' : Nat → Nat, (∀ i, i < es.length → ad' i = ad i) ∧ (∀ j, ad' (es.length + j) = adc (j + 1)) ∧ va_P D vwCl (gw cA ad' (es.set b (renE (gren b es.length) e0) ++ new.map (renE (gren b es.length)))) H1 ∧ va_D A (gw cA ad' (es.set b (renE (gren b es.length) e0) ++ new.map (renE (gren b es.length)))) := by
  have hbl : b < es.length := (List.getElem?_eq_some_iff.mp hb).1
  obtain ⟨ad', had'⟩ : ∃ ad' : Nat → Nat, ad' = fun i => if i < es.length then ad i else adc (1 + (i - es.length)) := ⟨_, rfl⟩
  have ho : ∀ i, i < es.length → ad' i = ad i := fun i hi => by rw [had']; exact if_pos hi
  have hn : ∀ j, ad' (es.length + j) = adc (j + 1) := fun j => by
    rw [had']
    show (if es.length + j < es.length then _ else _) = _
    rw [if_neg (by omega), Nat.add_sub_cancel_left, Nat.add_comm]
  have hren : (fun k => ad' (gren b es.length k)) = adc := by
    funext k
    cases k with
    | zero => show ad' b = adc 0; rw [ho b hbl, h0]
    | succ j => exact hn j
  have hA1 : ∀ q, va_A (gw cA (fun _ => ad b) [.inr (ci, fs)]) H.size q → q = ad b ∨ H.size ≤ q := by
    intro q h
    rcases h with ⟨k, e, h⟩ | h
    · rw [gw_at] at h
      cases k with
      | zero =>
        simp only [List.getElem?_cons_zero, Option.map_some] at h
        exact Or.inl (congrArg Prod.fst (Option.some.inj h)).symm
      | succ k => simp at h
    · exact Or.inr h
  -- the cells of the new world, by their numbers
  have cell : ∀ (i : Nat) (q : Nat × va_E), (gw cA ad' (es.set b (renE (gren b es.length) e0) ++ new.map (renE (gren b es.length))))[i]? = some q → (i < es.length ∧ i ≠ b ∧ (gw cA ad es)[i]? = some q) ∨ (i = b ∧ q = (ad b, ge cA adc e0)) ∨ ∃ j e, i = es.length + j ∧ new[j]? = some e ∧ q = (adc (j + 1), ge cA adc e) := by
    intro i q h
    rw [gw_at] at h
    by_cases hi : i < es.length
    · rw [List.getElem?_append_left (by simpa using hi), List.getElem?_set] at h
      by_cases hib : b = i
      · subst hib
        rw [if_pos rfl, if_pos hbl] at h
        refine Or.inr (Or.inl ⟨rfl, ?_⟩)
        have := Option.some.inj h
        rw [← this]
        show (ad' b, ge cA ad' (renE (gren b es.length) e0)) = _
        rw [ren_e, hren, ho b hbl]
      · rw [if_neg hib] at h
        refine Or.inl ⟨hi, fun z => hib z.symm, ?_⟩
        rw [gw_at, ← h]
        cases he : es[i]? with
        | none => rfl
        | some e =>
          have hw : wfE es.length e = true := List.all_eq_true.mp hwf _ (List.mem_of_getElem? he)
          simp only [Option.map_some]
          rw [ho i hi, wf_e ho hw]
    · rw [List.getElem?_append_right (by simpa using hi)] at h
      simp only [List.length_set, List.getElem?_map] at h
      cases he : new[i - es.length]? with
      | none => rw [he] at h; cases h
      | some e =>
        rw [he] at h
        refine Or.inr (Or.inr ⟨i - es.length, e, by omega, he, ?_⟩)
        have := Option.some.inj h
        rw [← this]
        show (ad' i, ge cA ad' (renE (gren b es.length) e)) = _
        rw [ren_e, hren]
        rw [show i = es.length + (i - es.length) by omega, hn]
        simp
  have at0 : (gw cA adc (e0 :: new))[0]? = some (adc 0, ge cA adc e0) := gw_get rfl
  have atn : ∀ (j : Nat) (e : gE), new[j]? = some e → (gw cA adc (e0 :: new))[j + 1]? = some (adc (j + 1), ge cA adc e) := fun j e h => gw_get (by simpa using h)
  have oldlt : ∀ (i : Nat) (q : Nat × va_E), (gw cA ad es)[i]? = some q → q.1 < H.size := fun i q h => (hP i q h).lt
  have oldne : ∀ (i : Nat) (q : Nat × va_E), i ≠ b → (gw cA ad es)[i]? = some q → q.1 ≠ ad b := fun i q hi h z => hi (hD.1 i b q _ h (gw_get hb) z)
  have newge : ∀ (j : Nat) (e : gE), new[j]? = some e → H.size ≤ adc (j + 1) := fun j e h => by
    rcases hA1 _ (hD1.2 (j + 1) _ (atn j e h)) with z | z
    · exfalso
      have := hD1.1 (j + 1) 0 _ _ (atn j e h) at0 (z.trans h0.symm)
      omega
    · exact z
  refine ⟨ad', ho, hn, fun i q h => ?_, fun i j p q hp hq hpq => ?_, fun i q h => ?_⟩
  · rcases cell i q h with ⟨h1, h2, h3⟩ | ⟨h1, h2⟩ | ⟨j, e, h1, h2, h3⟩
    · refine (hP i q h3).kept (hk q.1 (oldlt i q h3) (fun z => ?_))
      rcases hA1 _ z with z | z
      · exact oldne i q h2 h3 z
      · have := oldlt i q h3
        omega
    · rw [h2, ← h0]
      exact hP1 0 _ at0
    · rw [h3]
      exact hP1 (j + 1) _ (atn j e h2)
  · rcases cell i p hp with ⟨h1, h2, h3⟩ | ⟨h1, h2⟩ | ⟨x, e, h1, h2, h3⟩ <;> rcases cell j q hq with ⟨g1, g2, g3⟩ | ⟨g1, g2⟩ | ⟨y, f, g1, g2, g3⟩
    · exact hD.1 i j p q h3 g3 hpq
    · exact absurd (hpq.trans (by rw [g2])) (oldne i p h2 h3)
    · have a1 := oldlt i p h3
      have a2 := newge y f g2
      rw [g3] at hpq
      simp only at hpq
      omega
    · exact absurd (hpq.symm.trans (by rw [h2])) (oldne j q g2 g3)
    · omega
    · have a2 := newge y f g2
      have a1 := oldlt b _ (gw_get hb)
      rw [h2, g3] at hpq
      simp only at hpq a1
      omega
    · have a1 := oldlt j q g3
      have a2 := newge x e h2
      rw [h3] at hpq
      simp only at hpq
      omega
    · have a2 := newge x e h2
      have a1 := oldlt b _ (gw_get hb)
      rw [h3, g2] at hpq
      simp only at hpq a1
      omega
    · rw [h3, g3] at hpq
      have := hD1.1 (x + 1) (y + 1) _ _ (atn x e h2) (atn y f g2) hpq
      omega
  · rcases cell i q h with ⟨h1, h2, h3⟩ | ⟨h1, h2⟩ | ⟨j, e, h1, h2, h3⟩
    · exact hD.2 i q h3
    · rw [h2]
      show A (ad b)
      exact hD.2 b (ad b, ge cA ad (.inr (ci, fs))) (gw_get hb)
    · rw [h3]
      exact hA _ (Nat.le_trans hS.1 (newge j e h2))
def oCallI9 (rc rs cmc cms : Nat) (sp : gS) : gO := fun _ N L S es k n => match S with
  | .ref b :: S' => (match gnth es b with
    | some (.inr (ci, fs)) => ∃ len : Nat, es.length = len ∧ gif (wfS9 len L S' es && (fs.all (wfv 0) && (Nat.ble 0 len && (Nat.ble (scat S') 8 && (Nat.ble (k + cmc) rc && Nat.ble (n + cms) rs))))) (sp [.ref 0] [.inr (ci, fs)] (fun v es' => match v with
      | none => (match es' with
        | e0 :: new => gif ((e0 :: new).all (wfE (new.length + 1)) && Nat.ble (len + new.length) 900) (gforce (es.set b (renE (gren b len) e0) ++ new.map (renE (gren b len))) (fun es2 => N L S' es2 (k + cmc) (n + cms)))
        | [] => False)
      | some _ => False))
    | _ => False)
  | _ => False
theorem ok_callI9 (hM : gM X l0 cc own Ts R0) (hA0 : gN9 X) {y : MethodName} {ws ws' : List Cond} {rm : Room} {bytes : ByteArray} {maxL index cmc cms : Nat} {sp : gS} (hC : Ct l0 y ws rm cmc cms true sp) (hG : GoodIn Ts ws) (hw : ws = Cond.code y bytes maxL none :: ws') (hrc : rm.cells = cmc) (hrs : rm.slots = cms) (hlink : Cond.methodLink own index y ∈ Ts) (hini : Cond.initialized y.cls ∈ Ts) (hin : Cond.instanceMethod y ∈ Ts) (hy1 : y.name = "<init>")
    (hdy : y.cls ≠ "java/lang/invoke/MethodHandle" ∧ y.cls ≠ "java/lang/invoke/VarHandle" ∧ (parseMethodDescriptor y.desc).map (fun d => d.parameters.length) = some 0) (hRm : rm.frames + 1 ≤ R0.frames ∧ 8 + (maxL + 11) + rm.locals ≤ R0.locals) (hd : decode cc pc = .ok (.invokespecial index, 3)) :
    okO X pc (pc + 3) (oCallI9 R0.cells R0.slots cmc cms sp) := by
  obtain ⟨p, l, e, R, s, m, args, below, meth, c, D, cA, A, ag, ad0, Q, nL⟩ := X
  obtain ⟨hx, hb, hown, hts, hml, hlk, hY, hA, hR, hL0⟩ := hM
  subst hR
  subst hL0
  intro J N hJ hN L S es k n h ad H locs ls hag hP hD hS hl
  unfold oCallI9 at h
  split at h
  · rename_i b S'
    split at h
    · rename_i ci fs hes
      rw [gnth_eq] at hes
      obtain ⟨len, rfl, h⟩ := h
      obtain ⟨h1, h⟩ := bif_t (b := wfS9 es.length L S' es && (fs.all (wfv 0) && (Nat.ble 0 es.length && (Nat.ble (scat S') 8 && (Nat.ble (k + cmc) R.cells && Nat.ble (n + cms) R.slots))))) h
      obtain ⟨h1, h2⟩ := and_t h1
      obtain ⟨hw1, h1⟩ := and_t h1
      obtain ⟨hw2, hw3⟩ := and_t h1
      obtain ⟨hnv, h2⟩ := and_t h2
      obtain ⟨hn0, h2⟩ := and_t h2
      obtain ⟨hsc, h2⟩ := and_t h2
      obtain ⟨hk1, hk2⟩ := and_t h2
      have hMet := hC D cA (fun _ => ad b) H.size _ _ _ h
      have hge : ∀ ad9 : Nat → Nat, ge cA ad9 (.inr (ci, fs)) = .inr (ci, fs) := fun ad9 => by simp only [ge]; rw [nov hnv]
      have hsub : ∀ (j : Nat) (q : Nat × va_E), (gw cA (fun _ => ad b) [.inr (ci, fs)])[j]? = some q → j = 0 ∧ q = (ad b, .inr (ci, fs)) := fun j q hj => by
        rw [gw_at] at hj
        cases j with
        | zero =>
          simp only [List.getElem?_cons_zero, Option.map_some, hge] at hj
          exact ⟨rfl, (Option.some.inj hj).symm⟩
        | succ j => simp at hj
      have hbw : (gw cA ad es)[b]? = some (ad b, .inr (ci, fs)) := by rw [gw_get hes, hge]
      have hF : ∀ q, va_A (gw cA (fun _ => ad b) [.inr (ci, fs)]) H.size q → A q := by
        intro q hq
        rcases hq with ⟨j, e9, hq⟩ | hq
        · have := (hsub j _ hq).2
          rw [show q = ad b from congrArg Prod.fst this]
          exact hD.2 b _ hbw
        · exact hA q (Nat.le_trans hS.1 hq)
      have hcb := cwI (R := R) (own := own) (index := index) (maxL := maxL) 0 hts hG hw hrc hrs (hts _ hini) (hts _ hlink) (hts _ hin) hy1 hdy hRm
      refine g_call (va_runI (As := []) (rest := S'.map (gv ad)) (b := ad b) ⟨hx, hb, hml, hown, hts⟩ hMet hcb ⟨gPc_blind, fun U hU hW => ?_⟩ rfl rfl hl.1 rfl (lv_room (by rw [scat_eq]; exact Nat.le_of_ble_eq_true hsc)) hd ⟨Nat.le_of_ble_eq_true hk1, Nat.le_of_ble_eq_true hk2⟩) hS hF (fun v es' ad' H1 locs1 hKv hag' hP1 hD1 hz hk hS1 => ?_)
      · refine ⟨rfl, by rw [hU], ?_, gY.call hY hS hF hW hU, ⟨fun i j x y hi hj _ => ?_, fun _ _ _ => trivial⟩⟩
        · rw [hU]
          intro j q hj
          rw [(hsub j q hj).2]
          exact hP b _ hbw
        · rw [(hsub i x hi).1, (hsub j y hj).1]
      · cases v with
        | some v => exact hKv.elim
        | none =>
          cases es' with
          | nil => exact hKv.elim
          | cons e0 new =>
            have hKv : gif ((e0 :: new).all (wfE (new.length + 1)) && Nat.ble (es.length + new.length) 900) (gforce (es.set b (renE (gren b es.length) e0) ++ new.map (renE (gren b es.length))) (fun es2 => N L S' es2 (k + cmc) (n + cms))) := hKv
            obtain ⟨hwn, hKv⟩ := bif_t (b := (e0 :: new).all (wfE (new.length + 1)) && Nat.ble (es.length + new.length) 900) hKv
            obtain ⟨hwn, hln⟩ := and_t hwn
            have hln := Nat.le_of_ble_eq_true hln
            obtain ⟨hw3, hb9⟩ := and_t hw3
            rw [gforce_eq] at hKv
            obtain ⟨adc, hadc⟩ : ∃ adc : Nat → Nat, adc = fun i => if i < new.length + 1 then ad' i else ad 999 := ⟨_, rfl⟩
            have hac : ∀ i, i < (e0 :: new).length → adc i = ad' i := fun i hi => by
              rw [hadc]
              exact if_pos (by simpa using hi)
            have hgw : gw cA adc (e0 :: new) = gw cA ad' (e0 :: new) := wf_w hac (by simpa using hwn)
            rw [← hgw] at hP1 hD1
            obtain ⟨ad2, ho, hn2, hP2, hD2⟩ := g_joinI9 (adc := adc) hes hw1 hP hD hS hA (by rw [hac 0 (by simp)]; exact hag' 0 (Nat.zero_lt_one)) hk hP1 hD1
            have h9 : ad2 999 = ad 999 := by
              have h8 := hn2 (999 - es.length)
              rw [show es.length + (999 - es.length) = 999 by omega] at h8
              rw [h8, hadc]
              exact if_neg (by omega)
            have h3 := hN _ _ _ _ _ hKv ad2 H1 locs1 ls (fun i hi => by rw [hA0 i hi, h9]; exact hag 999 (by rw [← hA0 i hi]; exact hi)) hP2 hD2 hS1 (by rw [wf_l9 ho h9 hw3]; exact hl)
            rw [wf_vs ho hw2] at h3
            exact h3
    · exact h.elim
  · exact h.elim
theorem lmap_can {ids : List Nat} {ad : Nat → Nat} (h : ids.length ≤ 1000) : ∀ (ks : List Nat) (vs : List Value), lmap (fun k => ad (gid ids k)) (ks.zip (vs.map (canV ids))) = lmap ad (ks.zip vs)
  | [], _ => rfl
  | _ :: _, [] => rfl
  | k :: ks, v :: vs => by
    have := lmap_can (ad := ad) h ks vs
    simp only [lmap, List.map_cons, List.zip_cons_cons] at this ⊢
    rw [this, can_v h]
theorem G_perm {p : Program} {l : Launch} {e : Env} {R : Room} {s : State} {m : MethodId} {args : Array Value} {below : List Frame} {meth : Method} {c : Code} {D : va_G} {cA : Nat → ClassId} {A : Nat → Prop} {Q : State → Prop} {nL b pc : Nat} {ks : List Nat} {vs : List Value} {es esc : List gE} {ids : List Nat} {k n : Nat} (hp : gpick es ids = some esc) (hok : ids.length ≤ 1000) (hn : va_nd ids = true) (h9 : gid ids 1999 = 999)
    (h : G ((p, l, e, R, s, m, args, below, meth, c, D, cA, A, (fun i => i = 1999), (fun _ => b), Q, nL) : gX) pc (ks.zip (vs.map (canV ids))) [] (esc.map (canE ids)) k n) : G ((p, l, e, R, s, m, args, below, meth, c, D, cA, A, (fun i => i = 999), (fun _ => b), Q, nL) : gX) pc (ks.zip vs) [] es k n := by
  intro ad H locs ls hag hP hD hS hl
  refine h (fun k => ad (gid ids k)) H locs ls (fun i hi => ?_) (gsub_P hp hok hP) (gsub_D hp hok hn hD (fun _ h => h)) hS (by rw [lmap_can hok]; exact hl)
  have hi2 : i = 1999 := hi
  subst hi2
  show ad (gid ids 1999) = b
  rw [h9]
  exact hag 999 rfl
def rmL_cell : Room := { frames := 0, cells := 0, slots := 0, locals := 0 }
def pL_cell (Ls : Nat) (xs : Nat → Int32) (K : gK) : List (Nat × gO) := [(0, oILoad 1), (1, oALoad 0), (2, oSlen Ls 1999), (3, oICmp_ge 12), (6, oALoad 0), (7, oILoad 1), (8, oSld Ls xs 1999), (9, oGoto 20), (12, oConst (22910021)), (14, oILoad 1), (15, oMul), (16, oConst (nI 30703)), (19, oAdd), (20, oRet K 0 0)]
set_option maxRecDepth 100000 in
theorem kL_cell {X : gX} {l : Launch} (hM : gM X l cL_cell RL wsL_cell rmL_cell) {K : gK} (hE : gR X K 0 0 (some .int)) {b Ls : Nat} {xs : Nat → Int32} (hSc : gSc X b Ls xs 1999) : okL X (pL_cell Ls xs K) := by
  obtain ⟨p, l1, e, R, s, m, args, below, meth, c, D, cA, A, ag, ad0, Q, nL⟩ := X
  refine ⟨ok_iload_n hM 1 dL_cell_0 rfl,
    ok_aload_n hM 0 dL_cell_1 rfl,
    ok_slen hM hSc dL_cell_2,
    ok_icmp_ge hM 12 dL_cell_3 (by decide),
    ok_aload_n hM 0 dL_cell_6 rfl,
    ok_iload_n hM 1 dL_cell_7 rfl,
    ok_sld hM hSc dL_cell_8,
    ok_goto hM 20 dL_cell_9 (by decide),
    ok_ldc hM (List.mem_of_getElem? (i := 1) rfl) dL_cell_12,
    ok_iload_n hM 1 dL_cell_14 rfl,
    ok_imul hM dL_cell_15,
    ok_sipush hM dL_cell_16 rfl,
    ok_iadd hM dL_cell_19,
    ok_ret hM hE dL_cell_20,
    trivial⟩
def gPs (D : va_G) (cA : Nat → ClassId) (sz b Ls : Nat) (xs : Nat → Int32) (j : Nat) : Array Value → State → Prop := va_Pc [.ref b, .int (nI j)] (fun U => U.heap.size = sz ∧ va_X b Ls xs U U.heap ∧ b < sz ∧ gY D cA (fun q => sz ≤ q) U U.heap)
theorem gPs_blind {D : va_G} {cA : Nat → ClassId} {sz b Ls : Nat} {xs : Nat → Int32} {j : Nat} : FrameBlind (gPs D cA sz b Ls xs j) :=
  fun a U g mk q => by
    obtain ⟨q0, q1, q2, q3, q4⟩ := q
    exact ⟨q0, q1, va_X.moved (u := U) (Vm.Alike.refl U.vm) q2, q3, gY.same (u := U) (U := U.calling g mk a) rfl q4⟩
def CtC (l : Launch) : Prop := ∀ (D : va_G) (cA : Nat → ClassId) (sz b Ls : Nat) (xs : Nat → Int32) (j : Nat), Ls ≤ 2560 → j < 1000 → Met l yL_cell wsL_cell rmL_cell (gPs D cA sz b Ls xs j) (gQ D cA (fun _ => b) (fun i => i = 1999) (fun q => sz ≤ q) (fun v es => es = [] ∧ ∃ x, v = some (.int x))) 0 0 (fun q => sz ≤ q)
set_option maxRecDepth 100000 in
theorem ctL_cell (l : Launch) : CtC l := by
  intro D cA sz b Ls xs j hLs hj
  refine Met.ofW (cc := cL_cell) (maxL := 2) (ret := some .int) (by decide) rfl ?_
  intro p e s m args below meth c s₁ B hml hv
  obtain ⟨rfl, hsz, hX, hbs, hY⟩ := hv
  subst hsz
  have hts := atoms_spec (ws := wsL_cell) B.pre
  have hfc : s.vm.findClass RL = some m.cls := findClass_of_methodNamed B.named
  have hM : gM ((p, l, e, (headSpec wsL_cell rmL_cell).room, s, m, ([.ref b, .int (nI j)] : List Value).toArray, below, meth, c, D, cA, (fun q => s.heap.size ≤ q), (fun i => i = 1999), (fun _ => b), MQ below (gQ D cA (fun _ => b) (fun i => i = 1999) (fun q => s.heap.size ≤ q) (fun v es => es = [] ∧ ∃ x, v = some (.int x))) ([.ref b, .int (nI j)] : List Value).toArray s 0 0 (fun q => s.heap.size ≤ q), 2) : gX) l cL_cell RL wsL_cell rmL_cell := ⟨B.exec, B.bytes, hfc, hts, hml, B.notSynchronized, hY, fun q h => h, rfl, rfl⟩
  have hf := kL_cell hM (K := fun v es => es = [] ∧ ∃ x, v = some (.int x)) ⟨B.returns, fun _ _ _ h => h⟩ (b := b) (Ls := Ls) (xs := xs) ⟨hX, hbs, Nat.not_le.mpr hbs, rfl, rfl, hLs⟩
  have hG := wr_ok hf cut_nil 9 0 [(0, .ref 1999), (1, .int (nI j))] [] [] 0 0 (by
    refine ⟨fun _ => ?_, fun h => ?_⟩
    · exact ⟨rfl, _, rfl⟩
    · rw [nI_leI (by omega) (by omega)] at h
      exact ⟨j, rfl, by omega, rfl, _, rfl⟩)
  have hl := lv_entry ([.ref b, .int (nI j)]) (n := 2) (Nat.le_of_ble_eq_true rfl)
  rw [lg_entry_eq]
  generalize (lg_sl ([.ref b, .int (nI j)]) ++ List.replicate (2 - (lg_sl ([.ref b, .int (nI j)])).length) Slot.unset).toArray = ls at hl ⊢
  have hl : lv_has ls 2 [(0, .ref b), (1, .int (nI j))] := hl
  exact hG (fun _ => b) s.heap [] ls (fun i hi => rfl) (fun k q h => by simp [gw] at h) ⟨fun i j x y h => by simp [gw] at h, fun k q h => by simp [gw] at h⟩ va_S.rf hl
/-- a cell of the script, as the law asks for it -/
def oCell (rc rs : Nat) : gO := fun _ N L S es k n => match S with
  | .int i :: .ref r :: S' => gif (Nat.beq r 1999 && Nat.ble (scat S') 8) ((k ≤ rc ∧ n ≤ rs) ∧ ∃ j : Nat, i = nI j ∧ j < 1000 ∧ ∀ x, N L (.int x :: S') es k n)
  | _ => False
theorem ok_cell (hM : gM X l0 cc own Ts R0) {b Ls : Nat} {xs : Nat → Int32} (hSc : gSc X b Ls xs 1999) (hC : CtC l0) {index : Nat} {ws' : List Cond} {bytes : ByteArray} {maxL : Nat} {ret : Option FieldType} (hG : GoodIn Ts (va_wsS own index yL_cell wsL_cell)) (hw : wsL_cell = Cond.code yL_cell bytes maxL ret :: ws') (hrc : rmL_cell.cells = 0) (hrs : rmL_cell.slots = 0)
    (hdy : yL_cell.cls ≠ "java/lang/invoke/MethodHandle" ∧ yL_cell.cls ≠ "java/lang/invoke/VarHandle" ∧ (parseMethodDescriptor yL_cell.desc).map (fun d => d.parameters.length) = some 2) (hRm : rmL_cell.frames + 1 ≤ R0.frames ∧ 8 + (maxL + 11) + rmL_cell.locals ≤ R0.locals) (hd : decode cc pc = .ok (.invokestatic index, 3)) :
    okO X pc (pc + 3) (oCell R0.cells R0.slots) := by
  obtain ⟨p, l, e, R, s, m, args, below, meth, c, D, cA, A, ag, ad0, Q, nL⟩ := X
  obtain ⟨hx, hb, hown, hts, hml, hlk, hY, hA, hR, hL0⟩ := hM
  obtain ⟨hX, hbl, hbA, hr1, hr2, hL⟩ := hSc
  subst hR
  subst hL0
  intro J N hJ hN L S es k n h ad H locs ls hag hP hD hS hl
  unfold oCell at h
  split at h
  · rename_i i r S'
    replace h := bif_t h
    obtain ⟨hc1, h⟩ := h
    obtain ⟨hb0, hc2⟩ := and_t hc1
    obtain rfl := Nat.eq_of_beq_eq_true hb0
    obtain ⟨hroom, j, rfl, hj, h⟩ := h
    have had : ad 1999 = b := (hag 1999 hr1).trans hr2
    have hF : ∀ q : Nat, H.size ≤ q → A q := fun q hq => hA q (Nat.le_trans hS.1 hq)
    have hXH : va_X b Ls xs s H := hX.kept (hS.2.1 b hbl hbA)
    have hMet := hC D cA H.size b Ls xs j hL hj
    have okw : ∀ w ∈ va_wsS own index yL_cell wsL_cell, w.before args s = true := fun w h => hts w (hG w h).1
    have hcb := callB_of (R := R) (own := own) (index := index) (maxL := maxL) 2 hts (fun w h => hG w (by unfold va_wsS; exact List.mem_append_right _ h)) hw hrc hrs (okw _ (by simp [va_wsS])) (okw _ (by simp [va_wsS])) hdy hRm
    refine g_call (va_runS (As := [.ref b, .int (nI j)]) (rest := S'.map (gv ad)) ⟨hx, hb, hml, hown, hts⟩ hMet ⟨hcb, okw _ (by simp [va_wsS])⟩ ⟨gPs_blind, fun U hU hW => ?_⟩ rfl rfl hl.1 (by simp [gv, had]) (lv_room (by rw [scat_eq]; exact Nat.le_of_ble_eq_true hc2)) hd hroom) hS hF (fun val es' ad' H1 locs1 hKv hag' hP1 hD1 hz hk hS1 => ?_)
    · exact ⟨rfl, by rw [hU], by rw [hU]; exact hXH.moved hW.alike, Nat.lt_of_lt_of_le hbl hS.1, gY.call hY hS hF hW hU⟩
    · obtain ⟨rfl, x, rfl⟩ := hKv
      have hPn : va_P D vwCl (gw cA ad es) H1 := hP.kept (fun i q hq => hk q.1 (hP i q hq).lt (Nat.not_le.mpr (hP i q hq).lt))
      exact hN _ _ _ _ _ (h x) ad H1 locs1 ls hag hPn hD hS1 hl
  · exact h.elim
end LG1
