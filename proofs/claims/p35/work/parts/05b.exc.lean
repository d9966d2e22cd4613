/-! Methods that may throw: contracts, throws, calls. -/
section GXC
abbrev gKX : Type := String → List gE → Prop
abbrev gSX : Type := List Value → List gE → gK → gKX → Prop
def gXC (D : va_G) (cA : Nat → ClassId) (ad0 : Nat → Nat) (A : Nat → Prop) (KX : gKX) : String → State → State → Prop := fun E st t => ∃ es : List gE, KX E es ∧ va_P D vwCl (gw cA ad0 es) t.heap ∧ va_D A (gw cA ad0 es) ∧ va_F A st t
def CtX (l : Launch) (y : MethodName) (ws : List Cond) (rm : Room) (mc ms : Nat) (sp : gSX) : Prop := ∀ (D : va_G) (cA : Nat → ClassId) (ad : Nat → Nat) (sz : Nat) (av : List Value) (es : List gE) (K : gK) (KX : gKX), sp av es K KX → vx_Met l y ws rm (gPc D cA ad sz av es) (gQ D cA ad (agr false es.length) (va_A (gw cA ad es) sz) K) (gXC D cA ad (va_A (gw cA ad es) sz) KX) mc ms (va_A (gw cA ad es) sz)
/-- the end of the walk is the end of a method that may throw -/
def gRX (X : gX) (KX : gKX) (mc ms : Nat) : Prop := match X with
  | (p, l, e, R, s, m, args, below, meth, c, D, cA, A, ag, ad0, Q, _) => (∀ i, ag i) ∧ (∀ x ∈ c.exceptionTable.toList, False) ∧ ∃ Qc, (∀ (H : Heap) (locs : List Loc) (k n : Nat) (g : JFrame), W p l e R s m args below meth c H locs k n (vx_MQ below Qc (gXC D cA ad0 A KX) args s mc ms A) g → W p l e R s m args below meth c H locs k n Q g) ∧ ∀ (H : Heap) (locs : List Loc) (k n : Nat) (g : JFrame) (q : Addr), vx_W p l e R s m args below meth c H locs k n (vx_MQ below Qc (gXC D cA ad0 A KX) args s mc ms A) g q → vx_W p l e R s m args below meth c H locs k n Q g q
def oThrow (KX : gKX) (E : String) (mc ms : Nat) : gO := fun _ _ _ S es k n => match S with
  | [] => gif (Nat.ble (k + 1) mc && Nat.ble (n + 6) ms) (KX E es)
  | _ => False
variable {X : gX} {l0 : Launch} {cc : ByteArray} {own : String} {Ts : List Cond} {R0 : Room} {pc : Nat}
theorem ok_throw (hM : gM X l0 cc own Ts R0) {KX : gKX} {mc ms : Nat} (hE : gRX X KX mc ms) (hl0 : l0.stackTraces = false) {ik is ic nx : Nat} {text : String} (cls : String) (names : List String) (hcls : Bundle.fit cls = true) (hnames : ∀ n ∈ names, Bundle.fit n = true) (hown6 : own = RX6) (hk : Cond.classLink own ik cls ∈ Ts) (hini : Cond.initialized cls ∈ Ts) (hstr : (is, text) ∈ gStr) (hat1 : ∀ w ∈ (vx_atS own ic cls names).filter goodWord, w ∈ Ts) (hat2 : ∀ w ∈ (vx_atS own ic cls names).filter (fun w => !goodWord w), w ∈ gBad) (hgood : ∀ w ∈ Cond.classLink own ik cls :: Cond.initialized cls :: vx_atS own ic cls names, vx_ot w = true)
    (hfr : names.length + 3 < R0.frames) (hlo : 13 * (names.length + 1) + 43 ≤ R0.locals) (hrc : mc ≤ R0.cells ∧ ms ≤ R0.slots)
    (d0 : decode cc pc = .ok (.new ik, 3)) (d3 : decode cc (pc + 3) = .ok (.dup, 1)) (d4 : decode cc (pc + 4) = .ok (.ldc is, 2)) (d6 : decode cc (pc + 6) = .ok (.invokespecial ic, 3)) (d9 : decode cc (pc + 9) = .ok (.athrow, 1)) : okO X pc nx (oThrow KX cls mc ms) := by
  obtain ⟨p, l, e, R, s, m, args, below, meth, c, D, cA, A, ag, ad0, Q, nL⟩ := X
  obtain ⟨hx, hb, hown, hts, hml, hlk, hY, hA, hR, hL0⟩ := hM
  obtain ⟨hag0, htab, Qc, hQ1, hQ2⟩ := hE
  subst hR
  subst hL0
  intro J N hJ hN L S es k n h ad H locs ls hag hP hD hS hl
  unfold oThrow at h
  split at h
  · obtain ⟨hc1, h⟩ := bif_t h
    obtain ⟨hc1, hc2⟩ := and_t hc1
    have hc1 := Nat.le_of_ble_eq_true hc1
    have hc2 := Nat.le_of_ble_eq_true hc2
    have had : ad = ad0 := funext fun i => hag i (hag0 i)
    obtain ⟨sa, hsa⟩ := hY.2.1.2.1 _ hstr
    subst hown6
    refine hQ1 _ _ _ _ _ ?_
    refine vx_throwS (A := A) (text := text) (names := names) (sa := sa) hx hb hl0 hown hcls hnames (hts _ hk) (hts _ hini) hsa (vx_hat (fun w hw => hts w (hat1 w hw)) hat2 (fun w hw => va_Nw.use (gBad_ot w hw) (hY.2.1.2.2.1 w hw))) hgood hY.2.2.1 hY.2.2.2 hS (hl.1.trans hml.symm) d0 d3 d4 d6 d9 (fun x hx9 => (htab x hx9).elim) hfr (by simpa using hlo) (by omega) (by omega) hlk (fun t hvm hz hk9 => ?_) hS.2.2 hc1 hc2
    refine ⟨es, h, ?_, ?_, ?_⟩
    · rw [← had]
      exact hP.kept (fun i q hq => hk9 q.1 (hP i q hq).lt)
    · rw [← had]
      exact hD
    · exact ⟨Nat.le_trans hS.1 hz, fun q h1 h2 => by rw [hk9 q (Nat.lt_of_lt_of_le h1 hS.1)]; exact hS.2.1 q h1 h2⟩
  · exact h.elim
/-- a call that may throw: behind it, either way -/
theorem g_callX {p : Program} {l : Launch} {e : Env} {R : Room} {s : State} {m : MethodId} {args : Array Value} {below : List Frame} {meth : Method} {c : Code} {H : Heap} {locs : List Loc} {k n : Nat} {Q : State → Prop} {pc : Nat} {ls : Array Slot} {rest st0 : List Value} {a : Array Value} {A0 A1 ag : Nat → Prop} {H0 : Heap} {mc ms : Nat} {D : va_G} {cA : Nat → ClassId} {adc : Nat → Nat} {K : gK} {KX : gKX}
    (hr : vx_Run p l e R s m args below meth c H locs k n mc ms (F0 m pc ls st0) rest (gQ D cA adc ag A1 K a) (gXC D cA adc A1 KX) A1) (hS : va_S A0 H0 H locs) (hF : ∀ q, A1 q → A0 q)
    (kx : ∀ (E : String) (ce : Cell) (q9 : Addr) (es' : List gE) (H1 : Heap) (locs1 : List Loc), KX E es' → va_P D vwCl (gw cA adc es') H1 → va_D A1 (gw cA adc es') → H.size ≤ H1.size → (∀ q : Nat, q < H.size → ¬ A1 q → H1[q]? = H[q]?) → va_S A0 H0 H1 locs1 → H1[q9]? = some ce → ce.vm = .none → s.vm.findClass E = some ce.cls → vx_W p l e R s m args below meth c H1 locs1 (k + mc) (n + ms) Q (F0 m pc ls rest) q9)
    (kk : ∀ (v : Option Value) (es' : List gE) (ad' : Nat → Nat) (H1 : Heap) (locs1 : List Loc), K v es' → (∀ i, ag i → ad' i = adc i) → va_P D vwCl (gw cA ad' es') H1 → va_D A1 (gw cA ad' es') → H.size ≤ H1.size → (∀ q : Nat, q < H.size → ¬ A1 q → H1[q]? = H[q]?) → va_S A0 H0 H1 locs1 →
      W p l e R s m args below meth c H1 locs1 (k + mc) (n + ms) Q (F0 m (pc + 3) ls ((v.map (gv ad')).toList ++ rest))) : W p l e R s m args below meth c H locs k n Q (F0 m pc ls st0) := by
  intro T hT X
  rcases hr T hT X with ⟨v, st₀, t, T', L, h0, X', hL, e1, e2, ⟨⟨v', es', ad', hv, hK, hag, hP, hD⟩, hF1⟩, st⟩ | ⟨q, st₀, t, T', L, E, ce, h0, X', hL, e1, e2, ⟨es', hKX, hP, hD, hF1⟩, hce, hcv, hcl, st⟩
  · cases hv
    obtain ⟨k1, k2, k3⟩ := vx_keep h0 e1 hS (fun q _ h => hF q h) hF hL hF1
    obtain ⟨t2, a1, b1⟩ := kk v' es' ad' T'.heap (locs ++ L) hK hag (by rw [e1]; exact hP) hD k1 k2 k3 T' rfl X'
    exact ⟨t2, st t2 a1, b1⟩
  · obtain ⟨k1, k2, k3⟩ := vx_keep h0 e1 hS (fun q _ h => hF q h) hF hL hF1
    obtain ⟨t2, a1, b1⟩ := kx E ce q es' T'.heap (locs ++ L) hKX (by rw [e1]; exact hP) hD k1 k2 k3 (by rw [e1]; exact hce) hcv hcl T' rfl X'
    exact ⟨t2, st.trans a1, b1⟩
def gspecX (ids : List Nat) (sp : gSX) (av : List Value) (F : Option Value → List gE → Prop) (FX : gKX) (es : List gE) : Prop := match gpick es ids with
  | some esc => gif (Nat.ble ids.length 1000) (sp (av.map (canV ids)) (esc.map (canE ids)) (fun v es' => gif (Nat.beq es'.length ids.length) (gputF es ids (es'.map (renE (gid ids))) (fun es2 => F v es2))) (fun E es' => gif (Nat.beq es'.length ids.length) (gputF es ids (es'.map (renE (gid ids))) (fun es2 => FX E es2))))
  | none => False
theorem gspecX_ok {ids : List Nat} {sp : gSX} {av : List Value} {F : Option Value → List gE → Prop} {FX : gKX} {es : List gE} (h : gspecX ids sp av F FX es) : ∃ esc, gpick es ids = some esc ∧ ids.length ≤ 1000 ∧ sp (av.map (canV ids)) (esc.map (canE ids)) (fun v es' => gif (Nat.beq es'.length ids.length) (gputF es ids (es'.map (renE (gid ids))) (fun es2 => F v es2))) (fun E es' => gif (Nat.beq es'.length ids.length) (gputF es ids (es'.map (renE (gid ids))) (fun es2 => FX E es2))) := by
  unfold gspecX at h
  cases hp : gpick es ids with
  | none => rw [hp] at h; exact h.elim
  | some esc =>
    rw [hp] at h
    obtain ⟨h1, h2⟩ := bif_t (b := Nat.ble ids.length 1000) h
    exact ⟨esc, rfl, Nat.le_of_ble_eq_true h1, h2⟩
/-- a static call that may throw, not caught here -/
def oCallSX (rc rs mc ms cmc cms np : Nat) (ids : List Nat) (sp : gSX) (KX : gKX) : gO := fun _ N L S es k n => match gtake np [] S with
  | some (as, S') => gif (Nat.ble (scat S') 8 && (Nat.ble (k + cmc) rc && (Nat.ble (n + cms) rs && (Nat.ble (k + cmc) mc && Nat.ble (n + cms) ms)))) (gspecX ids sp as (fun v es2 => N L (vpush (gid ids) v S') es2 (k + cmc) (n + cms)) KX es)
  | _ => False
theorem ok_callSX (hM : gM X l0 cc own Ts R0) {KX : gKX} {mc ms : Nat} (hE : gRX X KX mc ms) {y : MethodName} {ws ws' : List Cond} {rm : Room} {bytes : ByteArray} {maxL index np cmc cms : Nat} {ret : Option FieldType} {sp : gSX} (ids : List Nat) (hC : CtX l0 y ws rm cmc cms sp) (hn : va_nd ids = true) (hG : GoodIn Ts (va_wsS own index y ws)) (hw : ws = Cond.code y bytes maxL ret :: ws') (hrc : rm.cells = cmc) (hrs : rm.slots = cms)
    (hdy : y.cls ≠ "java/lang/invoke/MethodHandle" ∧ y.cls ≠ "java/lang/invoke/VarHandle" ∧ (parseMethodDescriptor y.desc).map (fun d => d.parameters.length) = some np) (hRm : rm.frames + 1 ≤ R0.frames ∧ 8 + (maxL + 11) + rm.locals ≤ R0.locals) (hd : decode cc pc = .ok (.invokestatic index, 3)) :
    okO X pc (pc + 3) (oCallSX R0.cells R0.slots mc ms cmc cms np ids sp KX) := by
  obtain ⟨p, l, e, R, s, m, args, below, meth, c, D, cA, A, ag, ad0, Q, nL⟩ := X
  obtain ⟨hx, hb, hown, hts, hml, hlk, hY, hA, hR, hL0⟩ := hM
  obtain ⟨hag0, htab, Qc, hQ1, hQ2⟩ := hE
  subst hR
  subst hL0
  intro J N hJ hN L S es k n h ad H locs ls hag hP hD hS hl
  unfold oCallSX at h
  split at h
  · rename_i as S' htk
    obtain ⟨pre, h1, h2, h3⟩ := gtake_ok htk
    simp only [List.append_nil] at h1
    subst h1
    subst h2
    obtain ⟨hc1, h⟩ := bif_t (b := Nat.ble (scat S') 8 && (Nat.ble (k + cmc) R.cells && (Nat.ble (n + cms) R.slots && (Nat.ble (k + cmc) mc && Nat.ble (n + cms) ms)))) h
    obtain ⟨hc1, hc2⟩ := and_t hc1
    obtain ⟨hc2, hc3⟩ := and_t hc2
    obtain ⟨hc3, hc4⟩ := and_t hc3
    obtain ⟨hc4, hc5⟩ := and_t hc4
    obtain ⟨esc, hp, hok, h⟩ := gspecX_ok h
    have hF := gsub_F hp hok hD hS hA
    have hMet := hC D cA (fun k => ad (gid ids k)) H.size _ _ _ _ h
    have okw : ∀ w ∈ va_wsS own index y ws, w.before args s = true := fun w h => hts w (hG w h).1
    have hcb := callB_of (R := R) (own := own) (index := index) (maxL := maxL) np hts (fun w h => hG w (by unfold va_wsS; exact List.mem_append_right _ h)) hw hrc hrs (okw _ (by simp [va_wsS])) (okw _ (by simp [va_wsS])) hdy hRm
    have had : ad = ad0 := funext fun i => hag i (hag0 i)
    refine g_callX (vx_runS (As := as.map (gv ad)) (rest := S'.map (gv ad)) ⟨hx, hb, hml, hown, hts⟩ hMet ⟨hcb, okw _ (by simp [va_wsS])⟩ ⟨gPc_blind, fun U hU hW => ?_⟩ rfl (by simp [h3]) hl.1 (by simp) (lv_room (by rw [scat_eq]; exact Nat.le_of_ble_eq_true hc1)) hd ⟨Nat.le_of_ble_eq_true hc2, Nat.le_of_ble_eq_true hc3⟩) hS hF (fun E ce q9 es' H1 locs1 hKX hP1 hD1 hz hk hS1 hce hcv hcl => ?_) (fun v es' ad' H1 locs1 hKv hag' hP1 hD1 hz hk hS1 => ?_)
    · exact g_pre (av := as) hp hok hn hY hP hD hS hA U hU hW
    · obtain ⟨hlen, hKX⟩ := bif_t (b := Nat.beq es'.length ids.length) hKX
      rw [gputF_eq] at hKX
      obtain ⟨hPn, hDn⟩ := g_join hp hok hn hP hD (Nat.eq_of_beq_eq_true hlen) hk hP1
      refine hQ2 _ _ _ _ _ _ (vx_out (fun x hx9 => (htab x hx9).elim) hlk hce hcv hcl (fun t ht hvm => ⟨_, hKX, ?_, ?_, hS1.F ht⟩) hS1.2.2 (Nat.le_of_ble_eq_true hc4) (Nat.le_of_ble_eq_true hc5))
      · rw [ht, ← had]
        exact hPn
      · rw [← had]
        exact hDn
    · have had2 : ad' = fun k => ad (gid ids k) := funext fun i => hag' i trivial
      subst had2
      obtain ⟨hlen, hKv⟩ := bif_t (b := Nat.beq es'.length ids.length) hKv
      rw [gputF_eq] at hKv
      obtain ⟨hPn, hDn⟩ := g_join hp hok hn hP hD (Nat.eq_of_beq_eq_true hlen) hk hP1
      rw [← vpush_map]
      exact hN _ _ _ _ _ hKv ad H1 locs1 ls hag hPn hDn hS1 hl
  · exact h.elim
/-- a contract of a method that may throw, out of a walk -/
theorem ctX_of {l : Launch} {y : MethodName} {ws ws' : List Cond} {rm : Room} {mc ms : Nat} {sp : gSX} {cc : ByteArray} {maxL : Nat} {ret : Option FieldType} {own : String} (hy : plainName y.cls = true) (hown : y.cls = own) (hw : ws = Cond.code y cc maxL ret :: ws') (hav : ∀ av es K KX, sp av es K KX → (lg_sl av).length ≤ maxL)
    (body : ∀ (X : gX) (av : List Value) (es : List gE) (K : gK) (KX : gKX), gM X l cc own ws rm → gR X K mc ms ret → gRX X KX mc ms → X.2.2.2.2.2.2.2.2.2.2.2.2.2.2.2.2 = maxL → sp av es K KX → G X 0 (lv_args 0 av) [] es 0 0) : CtX l y ws rm mc ms sp := by
  intro D cA ad sz av es K KX hsp
  refine vx_ofW (cc := cc) (maxL := maxL) (ret := ret) hy hw ?_
  intro p e s m args below meth c s₁ B hml htab hv
  obtain ⟨rfl, hsz, hP, hY, hD0⟩ := hv
  subst hsz
  have hts := atoms_spec (ws := ws) B.pre
  have hfc : s.vm.findClass own = some m.cls := by rw [← hown]; exact findClass_of_methodNamed B.named
  have hD := hD0.self (sz := s.heap.size)
  have hb := body (p, l, e, (headSpec ws rm).room, s, m, (av.map (gv ad)).toArray, below, meth, c, D, cA, va_A (gw cA ad es) s.heap.size, agr false es.length, ad, vx_MQ below (gQ D cA ad (agr false es.length) (va_A (gw cA ad es) s.heap.size) K) (gXC D cA ad (va_A (gw cA ad es) s.heap.size) KX) (av.map (gv ad)).toArray s mc ms (va_A (gw cA ad es) s.heap.size), maxL) av es K KX
    ⟨B.exec, B.bytes, hfc, hts, hml, B.notSynchronized, hY, fun q h => Or.inr h, rfl, rfl⟩ ⟨B.returns, fun _ _ _ h => vx_ret h⟩ ⟨fun _ => trivial, htab, _, fun _ _ _ _ _ h => h, fun _ _ _ _ _ _ h => h⟩ rfl hsp
  have hl := lv_entry (av.map (gv ad)) (n := maxL) (by rw [lg_sl_len]; exact hav av es K KX hsp)
  rw [lv_args_map] at hl
  rw [lg_entry_eq]
  exact hb ad s.heap [] _ (fun _ _ => rfl) hP hD va_S.rf hl
theorem gBad_1 : ∀ w ∈ (vx_atS RX6 175 "java/lang/IndexOutOfBoundsException" ["java/lang/RuntimeException", "java/lang/Exception"]).filter (fun w => !goodWord w), w ∈ gBad := by decide +kernel
theorem gBad_2 : ∀ w ∈ (vx_atS RX6 208 "java/lang/IllegalArgumentException" ["java/lang/RuntimeException", "java/lang/Exception"]).filter (fun w => !goodWord w), w ∈ gBad := by decide +kernel
end GXC
