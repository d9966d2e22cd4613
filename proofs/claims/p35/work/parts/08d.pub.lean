/-! PartitionedCache: its whole world; a state put on the history. -/
section MQ3
abbrev st17 (v : gV) : List gE := [.inr (4, [.ref 18, .ref 22, .ref 25, .ref 26, .int (vEp v), .int (vAc v)]), .inr (3, [.ref 19, .ref 20, .ref 21]), .inl (0, 8, .inl (vOw v)), .inl (0, 32, .inl (vHd v)), .inl (0, 32, .inl (vSt v)), .inr (2, [.ref 23, .ref 24]), .inl (0, 64, .inl (vAd v)), .inl (0, 32, .inl (vGa v)), .inl (0, 4, .inl (vLe v)), .inl (0, 16, .inl (vCo v))]
abbrev st27 (v : gV) : List gE := [.inr (4, [.ref 28, .ref 32, .ref 35, .ref 36, .int (vEp v), .int (vAc v)]), .inr (3, [.ref 29, .ref 30, .ref 31]), .inl (0, 8, .inl (vOw v)), .inl (0, 32, .inl (vHd v)), .inl (0, 32, .inl (vSt v)), .inr (2, [.ref 33, .ref 34]), .inl (0, 64, .inl (vAd v)), .inl (0, 32, .inl (vGa v)), .inl (0, 4, .inl (vLe v)), .inl (0, 16, .inl (vCo v))]
abbrev st37 (v : gV) : List gE := [.inr (4, [.ref 38, .ref 42, .ref 45, .ref 46, .int (vEp v), .int (vAc v)]), .inr (3, [.ref 39, .ref 40, .ref 41]), .inl (0, 8, .inl (vOw v)), .inl (0, 32, .inl (vHd v)), .inl (0, 32, .inl (vSt v)), .inr (2, [.ref 43, .ref 44]), .inl (0, 64, .inl (vAd v)), .inl (0, 32, .inl (vGa v)), .inl (0, 4, .inl (vLe v)), .inl (0, 16, .inl (vCo v))]
abbrev st47 (v : gV) : List gE := [.inr (4, [.ref 48, .ref 52, .ref 55, .ref 56, .int (vEp v), .int (vAc v)]), .inr (3, [.ref 49, .ref 50, .ref 51]), .inl (0, 8, .inl (vOw v)), .inl (0, 32, .inl (vHd v)), .inl (0, 32, .inl (vSt v)), .inr (2, [.ref 53, .ref 54]), .inl (0, 64, .inl (vAd v)), .inl (0, 32, .inl (vGa v)), .inl (0, 4, .inl (vLe v)), .inl (0, 16, .inl (vCo v))]
abbrev st57 (v : gV) : List gE := [.inr (4, [.ref 58, .ref 62, .ref 65, .ref 66, .int (vEp v), .int (vAc v)]), .inr (3, [.ref 59, .ref 60, .ref 61]), .inl (0, 8, .inl (vOw v)), .inl (0, 32, .inl (vHd v)), .inl (0, 32, .inl (vSt v)), .inr (2, [.ref 63, .ref 64]), .inl (0, 64, .inl (vAd v)), .inl (0, 32, .inl (vGa v)), .inl (0, 4, .inl (vLe v)), .inl (0, 16, .inl (vCo v))]
abbrev st67 (v : gV) : List gE := [.inr (4, [.ref 68, .ref 72, .ref 75, .ref 76, .int (vEp v), .int (vAc v)]), .inr (3, [.ref 69, .ref 70, .ref 71]), .inl (0, 8, .inl (vOw v)), .inl (0, 32, .inl (vHd v)), .inl (0, 32, .inl (vSt v)), .inr (2, [.ref 73, .ref 74]), .inl (0, 64, .inl (vAd v)), .inl (0, 32, .inl (vGa v)), .inl (0, 4, .inl (vLe v)), .inl (0, 16, .inl (vCo v))]
abbrev st79 (v : gV) : List gE := [.inr (4, [.ref 80, .ref 84, .ref 87, .ref 88, .int (vEp v), .int (vAc v)]), .inr (3, [.ref 81, .ref 82, .ref 83]), .inl (0, 8, .inl (vOw v)), .inl (0, 32, .inl (vHd v)), .inl (0, 32, .inl (vSt v)), .inr (2, [.ref 85, .ref 86]), .inl (0, 64, .inl (vAd v)), .inl (0, 32, .inl (vGa v)), .inl (0, 4, .inl (vLe v)), .inl (0, 16, .inl (vCo v))]
abbrev st89 (v : gV) : List gE := [.inr (4, [.ref 90, .ref 94, .ref 97, .ref 98, .int (vEp v), .int (vAc v)]), .inr (3, [.ref 91, .ref 92, .ref 93]), .inl (0, 8, .inl (vOw v)), .inl (0, 32, .inl (vHd v)), .inl (0, 32, .inl (vSt v)), .inr (2, [.ref 95, .ref 96]), .inl (0, 64, .inl (vAd v)), .inl (0, 32, .inl (vGa v)), .inl (0, 4, .inl (vLe v)), .inl (0, 16, .inl (vCo v))]
abbrev hs15 (H : Nat → gV) (old sz : Int32) (r : List gE) : List gE := .inr (1, [.ref 16, .int old, .int sz]) :: .inl (5, 6, .inr (.inr (.inr [some 17, some 27, some 37, some 47, some 57, some 67]))) :: (st17 (H 0) ++ (st27 (H 1) ++ (st37 (H 2) ++ (st47 (H 3) ++ (st57 (H 4) ++ (st67 (H 5) ++ r))))))
abbrev wX (v : gV) (wy : Nat → Int32) (n : Nat) (ch : Nat → Nat) (H : Nat → gV) (o s : Nat) (r : List gE) : List gE := w13 v wy (txc n ch (hs15 H (nI o) (nI s) r))
abbrev slX (sf : Nat → Int32) (z0 z1 : gV) : List gE := .inl (5, 2, .inr (.inr (.inr [some 79, some 89]))) :: .inl (2, 2, .inl sf) :: (st79 z0 ++ st89 z1)
def psH (H : Nat → gV) (o s : Nat) (v : gV) : Nat → gV := hUp H ((o + s) % 6) v
def psO (o s : Nat) : Nat := if s < 6 then o else (o + 1) % 6
def psS (s : Nat) : Nat := if s < 6 then s + 1 else 6
theorem ps_ok {o s : Nat} (ho : o < 6) : psO o s < 6 ∧ psS s ≤ 6 := by
  unfold psO psS
  constructor <;> split <;> omega
abbrev idH : List Nat := [15, 16, 17, 18, 19, 20, 21, 22, 23, 24, 25, 26, 27, 28, 29, 30, 31, 32, 33, 34, 35, 36, 37, 38, 39, 40, 41, 42, 43, 44, 45, 46, 47, 48, 49, 50, 51, 52, 53, 54, 55, 56, 57, 58, 59, 60, 61, 62, 63, 64, 65, 66, 67, 68, 69, 70, 71, 72, 73, 74, 75, 76, 1, 2, 3, 4, 5, 6, 7, 8, 9, 10]
theorem gput_app : ∀ (is js : List Nat) (es fs gs : List gE), is.length = fs.length → gput es (is ++ js) (fs ++ gs) = gput (gput es is fs) js gs
  | [], js, es, [], gs, _ => by simp only [List.nil_append]; cases es <;> rfl
  | [], js, es, _ :: _, gs, h => by simp at h
  | _ :: _, js, es, [], gs, h => by simp at h
  | i :: is, js, es, f :: fs, gs, h => by
    show gput (es.set i f) (is ++ js) (fs ++ gs) = gput (gput (es.set i f) is fs) js gs
    exact gput_app is js _ fs gs (by simpa using h)
theorem gput_blk : ∀ (mid pre post fs : List gE), fs.length = mid.length → gput (pre ++ (mid ++ post)) (List.range' pre.length mid.length) fs = pre ++ (fs ++ post)
  | [], pre, post, [], _ => by cases pre <;> rfl
  | [], pre, post, _ :: _, h => by simp at h
  | _ :: _, pre, post, [], h => by simp at h
  | m :: mid, pre, post, f :: fs, h => by
    show gput ((pre ++ (m :: (mid ++ post))).set pre.length f) (List.range' (pre.length + 1) mid.length) fs = _
    have e1 : (pre ++ (m :: (mid ++ post))).set pre.length f = (pre ++ [f]) ++ (mid ++ post) := by simp
    rw [e1]
    have e2 := gput_blk mid (pre ++ [f]) post fs (by simpa using h)
    rw [List.length_append, List.length_singleton] at e2
    rw [e2]
    simp
abbrev hsB (H : Nat → gV) (old sz : Int32) : List gE := .inr (1, [.ref 16, .int old, .int sz]) :: .inl (5, 6, .inr (.inr (.inr [some 17, some 27, some 37, some 47, some 57, some 67]))) :: (st17 (H 0) ++ (st27 (H 1) ++ (st37 (H 2) ++ (st47 (H 3) ++ (st57 (H 4) ++ st67 (H 5))))))
abbrev pr15 (v : gV) (wy : Nat → Int32) (n : Nat) (ch : Nat → Nat) : List gE := pcO 1 11 15 13 77 78 :: (st1 v ++ [.inr (5, [.ref 12]), .inl (0, 4, .inl wy), .inr (0, [.ref 14, .int (nI n)]), .inl (1, 80, .inl (nF ch))])
theorem gput_H (v v' : gV) (wy : Nat → Int32) (n : Nat) (ch : Nat → Nat) (H H' : Nat → gV) (o s o' s' : Int32) (r : List gE) : gput (w13 v wy (txc n ch (hs15 H o s r))) idH (hsB H' o' s' ++ st1 v') = w13 v' wy (txc n ch (hs15 H' o' s' r)) := by
  have e0 : idH = List.range' 15 62 ++ List.range' 1 10 := by decide
  rw [e0, gput_app _ _ _ _ _ rfl]
  have e1 : gput (pr15 v wy n ch ++ (hsB H o s ++ r)) (List.range' 15 62) (hsB H' o' s') = pr15 v wy n ch ++ (hsB H' o' s' ++ r) := gput_blk (hsB H o s) (pr15 v wy n ch) r (hsB H' o' s') rfl
  have e2 : w13 v wy (txc n ch (hs15 H o s r)) = pr15 v wy n ch ++ (hsB H o s ++ r) := rfl
  rw [e2, e1]
  exact gput_blk (st1 v) [pcO 1 11 15 13 77 78] (.inr (5, [.ref 12]) :: .inl (0, 4, .inl wy) :: txc n ch (hs15 H' o' s' r)) (st1 v') rfl
theorem ren_H (H : Nat → gV) (o s : Int32) (v : gV) : List.map (renE (gid idH)) (hs0 H o s ++ st62 v) = hsB H o s ++ st1 v := rfl
theorem gs_push {N : gP} {L : List (Nat × Value)} {S' : List Value} {k n' : Nat} {v : gV} {wy : Nat → Int32} {n : Nat} {ch : Nat → Nat} {H : Nat → gV} {o s : Nat} {r : List gE} (ho : o < 6) (hs : s ≤ 6) (h : N L S' (wX v wy n ch (psH H o s v) (psO o s) (psS s) r) k n') : gspec idH sX1_push [.ref 15, .ref 1] N L S' (wX v wy n ch H o s r) k n' := by
  refine ⟨H, o, s, v, rfl, ho, hs, rfl, ?_⟩
  show gif true (gputF (wX v wy n ch H o s r) idH (List.map (renE (gid idH)) (hs0 (psH H o s v) (nI (psO o s)) (nI (psS s)) ++ st62 v)) fun es2 => N L S' es2 k n')
  rw [gputF_eq, ren_H, gput_H]
  exact h
/-- push, in the whole cache -/
def oPushX (rc rs : Nat) : gO := fun _ N L S es k n => match S with
  | .ref 1 :: .ref 15 :: S' => ∃ v wy m ch H o s r, o < 6 ∧ s ≤ 6 ∧ es = wX v wy m ch H o s r ∧ gif (Nat.ble (scat S') 8 && (Nat.ble k rc && Nat.ble n rs)) (gforN 17 (wX v wy m ch (psH H o s v) (psO o s) (psS s) r) (fun es' => N L S' es' k n))
  | _ => False
theorem ok_pushX {X : gX} {rc rs pc nx : Nat} (h : okO X pc nx (oCallV rc rs 1 1 idH sX1_push)) : okO X pc nx (oPushX rc rs) := by
  intro J N hJ hN L S es k n ho
  unfold oPushX at ho
  split at ho
  · rename_i S'
    obtain ⟨v, wy, m, ch, H, o, s, r, h1, h2, rfl, ho⟩ := ho
    obtain ⟨hb, ho⟩ := bif_t ho
    rw [gforN_eq] at ho
    refine h J N hJ hN L _ _ k n ?_
    have h3 : gif (Nat.ble (scat S') 8 && (Nat.ble k rc && Nat.ble n rs)) (gspec idH sX1_push [.ref 15, .ref 1] N L S' (wX v wy m ch H o s r) k n) := by
      rw [hb]
      exact gs_push h1 h2 ho
    exact h3
  · exact ho.elim
end MQ3
