/-! Worlds with an open rest: only the first fz cells are looked at; calls that hand over the whole world. -/
section GR
def gforN : Nat → List gE → (List gE → Prop) → Prop
  | 0, es, F => F es
  | f + 1, e :: es, F => gforN f es (fun es' => F (e :: es'))
  | _ + 1, [], F => F []
theorem gforN_eq : ∀ (f : Nat) (es : List gE) (F : List gE → Prop), gforN f es F = F es
  | 0, _, _ => rfl
  | f + 1, [], _ => rfl
  | f + 1, e :: es, F => by rw [gforN, gforN_eq f es]
def oFR (fz : Nat) (o : gO) : gO := fun J N L S es k n => gforN fz es (fun es' => lforce L (fun L' => o J N L' S es' k n))
theorem ok_FR {X : gX} {pc nx fz : Nat} {o : gO} (h : okO X pc nx o) : okO X pc nx (oFR fz o) := by
  intro J N hJ hN L S es k n ho
  unfold oFR at ho
  rw [gforN_eq, lforce_eq] at ho
  exact h J N hJ hN L S es k n ho
def gputR (fz : Nat) : List gE → List Nat → List gE → (List gE → Prop) → Prop
  | es, i :: is, f :: fs, F => gforN fz (es.set i f) (fun es' => gputR fz es' is fs F)
  | es, _, _, F => F es
theorem gputR_eq (fz : Nat) : ∀ (ids : List Nat) (es fs : List gE) (F : List gE → Prop), gputR fz es ids fs F = F (gput es ids fs)
  | [], es, [], F => rfl
  | [], es, _ :: _, F => rfl
  | _ :: _, es, [], F => rfl
  | i :: is, es, f :: fs, F => by rw [gputR, gforN_eq, gputR_eq fz is, gput]
def gspecR (fz : Nat) (ids : List Nat) (sp : gS) (av : List Value) (N : gP) (L : List (Nat × Value)) (S' : List Value) (es : List gE) (k n : Nat) : Prop := match gpick es ids with
  | some esc => gif (Nat.ble ids.length 1000) (sp (av.map (canV ids)) (esc.map (canE ids)) (fun v es' => gif (Nat.beq es'.length ids.length) (gputR fz es ids (es'.map (renE (gid ids))) (fun es2 => N L (vpush (gid ids) v S') es2 k n))))
  | none => False
theorem gspecR_eq (fz : Nat) (ids : List Nat) (sp : gS) (av : List Value) (N : gP) (L : List (Nat × Value)) (S' : List Value) (es : List gE) (k n : Nat) : gspecR fz ids sp av N L S' es k n = gspec ids sp av N L S' es k n := by
  unfold gspecR gspec
  cases gpick es ids with
  | none => rfl
  | some esc => simp only [gputR_eq, gputF_eq]
def oCallVR (fz rc rs ci np : Nat) (ids : List Nat) (sp : gS) : gO := fun _ N L S es k n => match gtake np [] S with
  | some (as, .ref b :: S') => eObj es b ci (fun _ => gif (Nat.ble (scat S') 8 && (Nat.ble k rc && Nat.ble n rs)) (gspecR fz ids sp (.ref b :: as) N L S' es k n))
  | _ => False
variable {X : gX} {l0 : Launch} {cc : ByteArray} {own : String} {Ts : List Cond} {R0 : Room} {pc : Nat}
theorem ok_R {fz rc rs ci np nx : Nat} {ids : List Nat} {sp : gS} (h : okO X pc nx (oCallV rc rs ci np ids sp)) : okO X pc nx (oCallVR fz rc rs ci np ids sp) := by
  have e : oCallVR fz rc rs ci np ids sp = oCallV rc rs ci np ids sp := by
    funext J N L S es k n
    unfold oCallVR oCallV
    simp only [gspecR_eq]
    try rfl
  rw [e]
  exact h
def oSR (fz rc rs np : Nat) (ids : List Nat) (sp : gS) : gO := fun _ N L S es k n => match gtake np [] S with
  | some (as, S') => gif (Nat.ble (scat S') 8 && (Nat.ble k rc && Nat.ble n rs)) (gspecR fz ids sp as N L S' es k n)
  | _ => False
theorem ok_SR {fz rc rs np nx : Nat} {ids : List Nat} {sp : gS} (h : okO X pc nx (oCallS rc rs np ids sp)) : okO X pc nx (oSR fz rc rs np ids sp) := by
  have e : oSR fz rc rs np ids sp = oCallS rc rs np ids sp := by
    funext J N L S es k n
    unfold oSR oCallS
    simp only [gspecR_eq]
    try rfl
  rw [e]
  exact h
-- the whole world handed over, numbers and all
def vpushI : Option Value → List Value → List Value
  | none, S => S
  | some v, S => v :: S
theorem vpushI_map {ad : Nat → Nat} (v : Option Value) (S : List Value) : (vpushI v S).map (gv ad) = (v.map (gv ad)).toList ++ S.map (gv ad) := by
  cases v <;> rfl
def oCallV0 (rc rs ci np : Nat) (sp : gS) : gO := fun _ N L S es k n => match gtake np [] S with
  | some (as, .ref b :: S') => eObj es b ci (fun _ => gif (Nat.ble (scat S') 8 && (Nat.ble k rc && Nat.ble n rs)) (sp (.ref b :: as) es (fun v es' => N L (vpushI v S') es' k n)))
  | _ => False
theorem ok_callV0 (hM : gM X l0 cc own Ts R0) {y : MethodName} {ws ws' : List Cond} {rm : Room} {bytes : ByteArray} {maxL index ci np : Nat} {ret : Option FieldType} {sp : gS} {Cn : String} {Tn : u_T} {Nn : Nat} (hC : Ct l0 y ws rm 0 0 false sp) (hci : vwCl[ci]? = some (Cn, Tn, Nn)) (hG : GoodIn Ts (wsV own index Cn y ws)) (hw : ws = Cond.code y bytes maxL ret :: ws') (hrc : rm.cells = 0) (hrs : rm.slots = 0)
    (hdy : y.cls = Cn ∧ y.cls ≠ "java/lang/invoke/MethodHandle" ∧ y.cls ≠ "java/lang/invoke/VarHandle" ∧ (parseMethodDescriptor y.desc).map (fun d => d.parameters.length) = some np) (hRm : rm.frames + 1 ≤ R0.frames ∧ 8 + (maxL + 11) + rm.locals ≤ R0.locals) (hd : decode cc pc = .ok (.invokevirtual index, 3)) :
    okO X pc (pc + 3) (oCallV0 R0.cells R0.slots ci np sp) := by
  obtain ⟨p, l, e, R, s, m, args, below, meth, c, D, cA, A, ag, ad0, Q, nL⟩ := X
  obtain ⟨hx, hb, hown, hts, hml, hlk, hY, hA, hR, hL0⟩ := hM
  have hK := hY.1
  subst hR
  subst hL0
  intro J N hJ hN L S es k n h ad H locs ls hag hP hD hS hl
  unfold oCallV0 at h
  split at h
  · rename_i as b S' htk
    obtain ⟨pre, h1, h2, h3⟩ := gtake_ok htk
    simp only [List.append_nil] at h1
    subst h1
    subst h2
    obtain ⟨fs, hes, h⟩ := eObj_ok h
    obtain ⟨hc1, h⟩ := bif_t (b := Nat.ble (scat S') 8 && (Nat.ble k R.cells && Nat.ble n R.slots)) h
    obtain ⟨hc1, hc2⟩ := and_t hc1
    obtain ⟨hc2, hc3⟩ := and_t hc2
    have hF : ∀ q, va_A (gw cA ad es) H.size q → A q := by
      intro q hq
      rcases hq with ⟨j, e9, hq⟩ | hq
      · exact hD.2 j _ hq
      · exact hA q (Nat.le_trans hS.1 hq)
    have hMet := hC D cA ad H.size _ _ _ h
    refine g_call (va_runV (As := as.map (gv ad)) (rest := S'.map (gv ad)) (b := ad b) ⟨hx, hb, hml, hown, hts⟩ hMet (cwV np hts hG hw hrc hrs hdy hRm) ⟨gPc_blind, va_recv hK hP hci (q0 := b) (gw_get hes), fun U hU hW => ?_⟩ rfl (by simp [h3]) hl.1 (by simp [gv]) (lv_room (by rw [scat_eq]; exact Nat.le_of_ble_eq_true hc1)) hd ⟨Nat.le_of_ble_eq_true hc2, Nat.le_of_ble_eq_true hc3⟩) hS hF (fun v es' ad' H1 locs1 hKv hag' hP1 hD1 hz hk hS1 => ?_)
    · exact ⟨rfl, by rw [hU], by rw [hU]; exact hP, gY.call hY hS hF hW hU, hD.weaken (fun _ _ _ _ => trivial)⟩
    · have had : ad' = ad := funext fun i => hag' i trivial
      subst had
      rw [← vpushI_map]
      exact hN _ _ _ _ _ hKv ad' H1 locs1 ls hag hP1 (hD1.weaken (fun _ q _ h => hF q.1 h)) hS1 hl
  · exact h.elim
end GR
