/-! The law: methods that catch; calls over a part of the world. -/
section LE1
def nCat : List (String × String) := [("java/lang/IllegalArgumentException", "java/lang/IndexOutOfBoundsException"), ("java/lang/IllegalStateException", "java/lang/IllegalArgumentException"), ("java/lang/IllegalStateException", "java/lang/IndexOutOfBoundsException")]
def gC9 (U : State) : Prop := ∀ q ∈ nCat, va_Nc q.1 q.2 U
theorem gC9.moved {u U : State} (h : u.vm.Alike U.vm) (hc : gC9 u) : gC9 U := fun q hq => va_Nc.moved h (hc q hq)
def gXc (X : gX) : Prop := match X with
  | (_, _, _, _, s, _, _, _, _, _, _, _, _, _, _, _, _) => gC9 s
def gTb (X : gX) (hh : List (Nat × Nat × Nat × Nat)) : Prop := match X with
  | (_, _, _, _, _, _, _, _, _, c, _, _, _, ag, _, _, _) => (∀ i, ag i) ∧ c.exceptionTable.toList = tableOf hh
-- a block of the world
theorem gw_D {cA : Nat → ClassId} {ad : Nat → Nat} {es es' : List gE} {A : Nat → Prop} (h : es'.length = es.length) (hD : va_D A (gw cA ad es)) : va_D A (gw cA ad es') := by
  have key : ∀ (i : Nat) (q : Nat × va_E), (gw cA ad es')[i]? = some q → ∃ e, es[i]? = some e ∧ q.1 = ad i := by
    intro i q hq
    rw [gw_at] at hq
    cases hb : es'[i]? with
    | none => rw [hb] at hq; cases hq
    | some b =>
      rw [hb] at hq
      cases hq
      have hlt : i < es.length := by
        rw [← h]
        exact (List.getElem?_eq_some_iff.mp hb).1
      exact ⟨es[i], List.getElem?_eq_getElem hlt, rfl⟩
  refine ⟨fun i j p q hp hq he => ?_, fun i q hq => ?_⟩
  · obtain ⟨a, h1, h2⟩ := key i p hp
    obtain ⟨b, h3, h4⟩ := key j q hq
    exact hD.1 i j _ _ (gw_get h1) (gw_get h3) (h2.symm.trans (he.trans h4))
  · obtain ⟨a, h1, h2⟩ := key i q hq
    rw [h2]
    exact hD.2 i (ad i, ge cA ad a) (gw_get h1)
abbrev blk (pre E post : List gE) : List gE := pre ++ (E.map (renE (fun k => pre.length + k)) ++ post)
theorem blk_get {pre E post : List gE} {j : Nat} {e : gE} (h : E[j]? = some e) : (blk pre E post)[pre.length + j]? = some (renE (fun k => pre.length + k) e) := by
  have hlt := (List.getElem?_eq_some_iff.mp h).1
  rw [List.getElem?_append_right (by omega), Nat.add_sub_cancel_left, List.getElem?_append_left (by simpa using hlt), List.getElem?_map, h]
  rfl
theorem blk_at {cA : Nat → ClassId} {ad : Nat → Nat} {pre E post : List gE} {j : Nat} {q : Nat × va_E} (h : (gw cA (fun k => ad (pre.length + k)) E)[j]? = some q) : ∃ e, E[j]? = some e ∧ q = (ad (pre.length + j), ge cA ad (renE (fun k => pre.length + k) e)) := by
  rw [gw_at] at h
  cases hj : E[j]? with
  | none => rw [hj] at h; cases h
  | some e =>
    rw [hj] at h
    refine ⟨e, rfl, ?_⟩
    rw [ren_e]
    exact (Option.some.inj h).symm
theorem blk_P {D : va_G} {cA : Nat → ClassId} {ad : Nat → Nat} {pre E post : List gE} {H : Heap} (hP : va_P D vwCl (gw cA ad (blk pre E post)) H) : va_P D vwCl (gw cA (fun k => ad (pre.length + k)) E) H := by
  intro j q h
  obtain ⟨e, h1, rfl⟩ := blk_at (pre := pre) (post := post) h
  exact hP _ _ (gw_get (blk_get h1))
theorem blk_D {cA : Nat → ClassId} {ad : Nat → Nat} {pre E post : List gE} {A : Nat → Prop} (hD : va_D A (gw cA ad (blk pre E post))) : va_D A (gw cA (fun k => ad (pre.length + k)) E) := by
  refine ⟨fun i j p q hp hq he => ?_, fun i q hq => ?_⟩
  · obtain ⟨a, h1, rfl⟩ := blk_at (pre := pre) (post := post) hp
    obtain ⟨b, h3, rfl⟩ := blk_at (pre := pre) (post := post) hq
    have := hD.1 _ _ _ _ (gw_get (blk_get (pre := pre) (post := post) h1)) (gw_get (blk_get (pre := pre) (post := post) h3)) he
    omega
  · obtain ⟨a, h1, rfl⟩ := blk_at (pre := pre) (post := post) hq
    exact hD.2 _ _ (gw_get (blk_get (pre := pre) (post := post) h1))
theorem blk_F {cA : Nat → ClassId} {ad : Nat → Nat} {pre E post : List gE} {A : Nat → Prop} {H0 H : Heap} {locs : List Loc} (hD : va_D A (gw cA ad (blk pre E post))) (hS : va_S A H0 H locs) (hA : ∀ q, H0.size ≤ q → A q) : ∀ q, va_A (gw cA (fun k => ad (pre.length + k)) E) H.size q → A q := by
  intro q h
  rcases h with ⟨k, e, h⟩ | h
  · exact (blk_D (pre := pre) (post := post) hD).2 k _ h
  · exact hA q (Nat.le_trans hS.1 h)
theorem blk_len (pre E post : List gE) : (blk pre E post).length = pre.length + (E.length + post.length) := by simp
theorem blk_join {D : va_G} {cA : Nat → ClassId} {ad : Nat → Nat} {pre E E' post : List gE} {A : Nat → Prop} {H H1 : Heap} (hP : va_P D vwCl (gw cA ad (blk pre E post)) H) (hD : va_D A (gw cA ad (blk pre E post))) (hlen : E'.length = E.length)
    (hk : ∀ q : Nat, q < H.size → ¬ va_A (gw cA (fun k => ad (pre.length + k)) E) H.size q → H1[q]? = H[q]?) (hP1 : va_P D vwCl (gw cA (fun k => ad (pre.length + k)) E') H1) :
    va_P D vwCl (gw cA ad (blk pre E' post)) H1 ∧ va_D A (gw cA ad (blk pre E' post)) := by
  refine ⟨fun i q h => ?_, gw_D (by rw [blk_len, blk_len, hlen]) hD⟩
  by_cases hin : pre.length ≤ i ∧ i < pre.length + E.length
  · obtain ⟨j, rfl⟩ : ∃ j, i = pre.length + j := ⟨i - pre.length, by omega⟩
    have hj : j < E'.length := by omega
    have he : E'[j]? = some E'[j] := List.getElem?_eq_getElem hj
    rw [gw_get (blk_get (pre := pre) (post := post) he)] at h
    cases h
    have h9 := hP1 j _ (gw_get he)
    rw [ren_e]
    exact h9
  · have e1 : (blk pre E' post)[i]? = (blk pre E post)[i]? := by
      by_cases h1 : i < pre.length
      · rw [List.getElem?_append_left h1, List.getElem?_append_left h1]
      · rw [List.getElem?_append_right (by omega), List.getElem?_append_right (by simp only [List.length_map]; omega), List.getElem?_append_right (by omega), List.getElem?_append_right (by simp only [List.length_map]; omega), List.length_map, List.length_map, hlen]
    have e2 : (gw cA ad (blk pre E post))[i]? = some q := by
      rw [gw_at] at h ⊢
      rw [← e1]
      exact h
    have hv := hP i q e2
    refine hv.kept (hk q.1 hv.lt ?_)
    intro h
    rcases h with ⟨k, e', h⟩ | h
    · obtain ⟨e, h1, h2⟩ := blk_at (pre := pre) (post := post) h
      have h3 : q.1 = ad (pre.length + k) := congrArg Prod.fst h2
      have h4 := hD.1 _ _ _ _ e2 (gw_get (blk_get (pre := pre) (post := post) h1)) h3
      have h5 := (List.getElem?_eq_some_iff.mp h1).1
      omega
    · have := hv.lt
      omega
theorem ren_id : ∀ (E : List gE), E.map (renE (fun k => ([] : List gE).length + k)) = E := by
  have hv : ∀ v : Value, renV (fun k => ([] : List gE).length + k) v = v := fun v => by
    cases v with
    | ref k => show Value.ref (0 + k) = _; rw [Nat.zero_add]
    | _ => rfl
  have hvs : ∀ vs : List Value, vs.map (renV (fun k => ([] : List gE).length + k)) = vs := fun vs => by
    induction vs with
    | nil => rfl
    | cons v vs ih => rw [List.map_cons, hv, ih]
  have ho : ∀ r : List (Option Nat), r.map (Option.map (fun k => ([] : List gE).length + k)) = r := fun r => by
    induction r with
    | nil => rfl
    | cons q r ih =>
      rw [List.map_cons, ih]
      cases q with
      | none => rfl
      | some k => show some (0 + k) :: r = _; rw [Nat.zero_add]
  intro E
  induction E with
  | nil => rfl
  | cons e E ih =>
    rw [List.map_cons, ih]
    rcases e with ⟨t, n, f | f | f | r⟩ | ⟨c, fs⟩
    · rfl
    · rfl
    · rfl
    · simp only [renE, ho]
    · simp only [renE, hvs]
end LE1
