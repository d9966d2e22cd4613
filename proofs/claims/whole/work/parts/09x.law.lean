/-! The law: its steps. -/
section LE2
def gPcL (D : va_G) (cA : Nat → ClassId) (ad : Nat → Nat) (sz : Nat) (av : List Value) (es : List gE) : Array Value → State → Prop := va_Pc (av.map (gv ad)) (fun U => (U.heap.size = sz ∧ va_P D vwCl (gw cA ad es) U.heap ∧ gY D cA (va_A (gw cA ad es) sz) U U.heap ∧ va_D (fun _ => True) (gw cA ad es)) ∧ gC9 U)
theorem gPcL_blind {D : va_G} {cA : Nat → ClassId} {ad : Nat → Nat} {sz : Nat} {av : List Value} {es : List gE} : FrameBlind (gPcL D cA ad sz av es) :=
  fun a U g mk q => by
    obtain ⟨q0, ⟨q1, qP, qY, qD⟩, qC⟩ := q
    exact ⟨q0, ⟨q1, qP, gY.same (u := U) (U := U.calling g mk a) rfl qY, qD⟩, gC9.moved (Vm.Alike.refl U.vm) qC⟩
def CtL (l : Launch) (y : MethodName) (ws : List Cond) (rm : Room) (mc ms : Nat) (sp : gS) : Prop := ∀ (D : va_G) (cA : Nat → ClassId) (ad : Nat → Nat) (sz : Nat) (av : List Value) (es : List gE) (K : gK), sp av es K → Met l y ws rm (gPcL D cA ad sz av es) (gQ D cA ad (agr false es.length) (va_A (gw cA ad es) sz) K) mc ms (va_A (gw cA ad es) sz)
/-- a contract of a method with a table, out of a walk -/
theorem ctL_of {l : Launch} {y : MethodName} {ws ws' : List Cond} {rm : Room} {mc ms : Nat} {sp : gS} {cc : ByteArray} {maxL : Nat} {ret : Option FieldType} {own : String} {hh : List (Nat × Nat × Nat × Nat)} (hy : plainName y.cls = true) (hown : y.cls = own) (hw : ws = Cond.codeWith y cc maxL ret hh :: ws') (hav : ∀ av es K, sp av es K → (lg_sl av).length ≤ maxL)
    (body : ∀ (X : gX) (av : List Value) (es : List gE) (K : gK), gM X l cc own ws rm → gR X K mc ms ret → gTb X hh → gXc X → X.2.2.2.2.2.2.2.2.2.2.2.2.2.2.2.2 = maxL → sp av es K → G X 0 (lv_args 0 av) [] es 0 0) : CtL l y ws rm mc ms sp := by
  intro D cA ad sz av es K hsp
  refine va_MetW (cc := cc) (maxL := maxL) (ret := ret) hy hw ?_
  intro p e s m args below meth c s₁ B hml hv
  obtain ⟨rfl, ⟨hsz, hP, hY, hD0⟩, hC⟩ := hv
  subst hsz
  have hts := atoms_spec (ws := ws) B.pre
  have hfc : s.vm.findClass own = some m.cls := by rw [← hown]; exact findClass_of_methodNamed B.named
  have hD := hD0.self (sz := s.heap.size)
  have htb : c.exceptionTable.toList = tableOf hh := vx_table (x := y) B (hts _ (by rw [hw]; exact List.mem_cons_self))
  have hb := body (p, l, e, (headSpec ws rm).room, s, m, (av.map (gv ad)).toArray, below, meth, c, D, cA, va_A (gw cA ad es) s.heap.size, agr false es.length, ad, MQ below (gQ D cA ad (agr false es.length) (va_A (gw cA ad es) s.heap.size) K) (av.map (gv ad)).toArray s mc ms (va_A (gw cA ad es) s.heap.size), maxL) av es K
    ⟨B.exec, B.bytes, hfc, hts, hml, B.notSynchronized, hY, fun q h => Or.inr h, rfl, rfl⟩ ⟨B.returns, fun _ _ _ h => h⟩ ⟨fun _ => trivial, htb⟩ hC rfl hsp
  have hl := lv_entry (av.map (gv ad)) (n := maxL) (by rw [lg_sl_len]; exact hav av es K hsp)
  rw [lv_args_map] at hl
  rw [lg_entry_eq]
  exact hb ad s.heap [] _ (fun _ _ => rfl) hP hD va_S.rf hl
variable {X : gX} {l0 : Launch} {cc : ByteArray} {own : String} {Ts : List Cond} {R0 : Room} {pc : Nat}
/-- what a row of a method's table does with a throw of E -/
def hnd (nL : Nat) (cc : ByteArray) (own : String) (Ts : List Cond) (hh : List (Nat × Nat × Nat × Nat)) (pc : Nat) (q : String × Nat × Nat) : Prop := ∃ (pre : List ExceptionTableEntry) (x : ExceptionTableEntry) (suf : List ExceptionTableEntry), tableOf hh = pre ++ x :: suf ∧ (∀ z ∈ pre, covers z pc = false ∨ (z.catchType ≠ 0 ∧ ∃ nm : String, Cond.classLink own z.catchType nm ∈ Ts ∧ (q.1, nm) ∈ nCat)) ∧ covers x pc = true ∧ x.catchType ≠ 0 ∧ Cond.classLink own x.catchType q.1 ∈ Ts ∧ Cond.castable q.1 q.1 ∈ gBad ∧ q.2.2 < nL ∧ ((decode cc x.handlerPc = .ok (.astore q.2.2, 2) ∧ q.2.1 = x.handlerPc + 2) ∨ ∃ kf : Fin 4, (kf : Nat) = q.2.2 ∧ decode cc x.handlerPc = .ok (.astore_n kf, 1) ∧ q.2.1 = x.handlerPc + 1)
def oCatch (rc rs cmc cms ci np : Nat) (hs : List (String × Nat × Nat)) (sp : gSX) : gO := fun J N L S es k n => match gtake np [] S with
  | some (as, .ref b :: S') => eObj es b ci (fun _ => gif (Nat.ble (scat S') 8 && (Nat.ble (k + cmc) rc && Nat.ble (n + cms) rs)) (∃ es0 rest : List gE, es = es0 ++ rest ∧ b < es0.length ∧ sp (.ref b :: as) es0 (fun v es' => es'.length = es0.length ∧ N L (vpushI v S') (es' ++ rest) (k + cmc) (n + cms)) (fun E es' => es'.length = es0.length ∧ ∃ i hp ix : Nat, hs[i]? = some (E, hp, ix) ∧ J hp (ldel L ix) [] (es' ++ rest) (k + cmc) (n + cms))))
  | _ => False
theorem blk_0 (es0 rest : List gE) : es0 ++ rest = blk [] es0 rest := by
  unfold blk
  rw [ren_id]
  rfl
theorem ad_0 (ad : Nat → Nat) : (fun k => ad (([] : List gE).length + k)) = ad := funext fun k => by rw [List.length_nil, Nat.zero_add]
theorem ldel_ok {ls : Array Slot} {nL i : Nat} {ad : Nat → Nat} {v : Value} {L : List (Nat × Value)} (h : lv_has ls nL ((i, v) :: (lmap ad L).filter (fun q => !(q.1 == i) && !(q.1 + 1 == i && q.2.category == 2)))) : lv_has ls nL (lmap ad (ldel L i)) := by
  refine lv_mono h (fun q hq => ?_)
  obtain ⟨q0, hq0, rfl⟩ := List.mem_map.mp hq
  have := ldel_mem hq0
  refine List.mem_cons_of_mem _ (List.mem_filter.mpr ⟨List.mem_map.mpr ⟨q0, this.1, rfl⟩, ?_⟩)
  simpa [gv_cat] using this.2
theorem ok_catch (hM : gM X l0 cc own Ts R0) {hh : List (Nat × Nat × Nat × Nat)} (hT : gTb X hh) (hC9 : gXc X) {y : MethodName} {ws ws' : List Cond} {rm : Room} {bytes : ByteArray} {maxL index ci np cmc cms : Nat} {ret : Option FieldType} {sp : gSX} {Cn : String} {Tn : u_T} {Nn : Nat} (hs : List (String × Nat × Nat)) (hhs : ∀ q ∈ hs, hnd X.2.2.2.2.2.2.2.2.2.2.2.2.2.2.2.2 cc own Ts hh pc q) (hC : CtX l0 y ws rm cmc cms sp) (hci : vwCl[ci]? = some (Cn, Tn, Nn)) (hG : GoodIn Ts (wsV own index Cn y ws)) (hw : ws = Cond.code y bytes maxL ret :: ws') (hrc : rm.cells = cmc) (hrs : rm.slots = cms)
    (hdy : y.cls = Cn ∧ y.cls ≠ "java/lang/invoke/MethodHandle" ∧ y.cls ≠ "java/lang/invoke/VarHandle" ∧ (parseMethodDescriptor y.desc).map (fun d => d.parameters.length) = some np) (hRm : rm.frames + 1 ≤ R0.frames ∧ 8 + (maxL + 11) + rm.locals ≤ R0.locals) (hd : decode cc pc = .ok (.invokevirtual index, 3)) :
    okO X pc (pc + 3) (oCatch R0.cells R0.slots cmc cms ci np hs sp) := by
  obtain ⟨p, l, e, R, s, m, args, below, meth, c, D, cA, A, ag, ad0, Q, nL⟩ := X
  obtain ⟨hx, hb, hown, hts, hml, hlk, hY, hA, hR, hL0⟩ := hM
  obtain ⟨hag0, htab⟩ := hT
  have hK := hY.1
  subst hR
  subst hL0
  intro J N hJ hN L S es k n h ad H locs ls hag hP hD hS hl
  unfold oCatch at h
  split at h
  · rename_i as b S' htk
    obtain ⟨pre, h1, h2, h3⟩ := gtake_ok htk
    simp only [List.append_nil] at h1
    subst h1
    subst h2
    obtain ⟨fs, hes, h⟩ := eObj_ok h
    obtain ⟨hc1, h⟩ := bif_t (b := Nat.ble (scat S') 8 && (Nat.ble (k + cmc) R.cells && Nat.ble (n + cms) R.slots)) h
    obtain ⟨hc1, hc2⟩ := and_t hc1
    obtain ⟨hc2, hc3⟩ := and_t hc2
    obtain ⟨es0, rest, rfl, hb0, h⟩ := h
    rw [List.getElem?_append_left hb0] at hes
    rw [blk_0] at hP hD
    have hP0 := blk_P hP
    have hD0 := blk_D hD
    have hF := blk_F hD hS hA
    rw [ad_0] at hP0 hD0 hF
    have hMet := hC D cA ad H.size _ _ _ _ h
    refine g_callX (vx_runV (As := as.map (gv ad)) (rest := S'.map (gv ad)) (b := ad b) ⟨hx, hb, hml, hown, hts⟩ hMet (cwV np hts hG hw hrc hrs hdy hRm) ⟨gPc_blind, va_recv hK hP0 hci (q0 := b) (gw_get hes), fun U hU hW => ?_⟩ rfl (by simp [h3]) hl.1 (by simp [gv]) (lv_room (by rw [scat_eq]; exact Nat.le_of_ble_eq_true hc1)) hd ⟨Nat.le_of_ble_eq_true hc2, Nat.le_of_ble_eq_true hc3⟩) hS hF (fun E ce q9 es' H1 locs1 hKX hP1 hD1 hz hk hS1 hce hcv hcl => ?_) (fun v es' ad' H1 locs1 hKv hag' hP1 hD1 hz hk hS1 => ?_)
    · exact ⟨rfl, by rw [hU], by rw [hU]; exact hP0, gY.call hY hS hF hW hU, hD0.weaken (fun _ _ _ _ => trivial)⟩
    · obtain ⟨hlen, i, hp, ix, hi, hj⟩ := hKX
      obtain ⟨pre9, x, suf, t1, t2, t3, t4, t5, t6, t7, t8⟩ := hhs _ (List.mem_of_getElem? hi)
      have hkk : ∀ q : Nat, q < H.size → ¬ va_A (gw cA (fun k => ad (([] : List gE).length + k)) es0) H.size q → H1[q]? = H[q]? := by
        rw [ad_0]
        exact hk
      obtain ⟨hPn, hDn⟩ := blk_join hP hD hlen hkk (by rw [ad_0]; exact hP1)
      rw [← blk_0] at hPn hDn
      refine vx_catch hown pre9 x suf (htab.trans t1) (fun z hz9 => ?_) t3 t4 (hts _ t5) (va_Nw.use (gBad_ot _ t6) (hY.2.1.2.2.1 _ t6)) hce hcv hcl ?_
      · rcases t2 z hz9 with h9 | ⟨h9, nm, h10, h11⟩
        · exact Or.inl h9
        · exact Or.inr ⟨h9, nm, hts _ h10, hC9 _ h11⟩
      · rcases t8 with ⟨d1, d2⟩ | ⟨kf, d0, d1, d2⟩
        · refine lv_astore hx hb d1 hl t7 rfl (fun ls' hl' => ?_)
          have d3 : x.handlerPc + 2 = hp := d2.symm
          rw [d3]
          exact hJ _ _ _ _ _ _ hj ad H1 locs1 ls' hag hPn hDn hS1 (ldel_ok hl')
        · refine lv_astore_n hx hb d1 d0 hl t7 rfl (fun ls' hl' => ?_)
          have d3 : x.handlerPc + 1 = hp := d2.symm
          rw [d3]
          exact hJ _ _ _ _ _ _ hj ad H1 locs1 ls' hag hPn hDn hS1 (ldel_ok hl')
    · have had : ad' = ad := funext fun i => hag' i trivial
      subst had
      obtain ⟨hlen, hKv⟩ := hKv
      have hkk : ∀ q : Nat, q < H.size → ¬ va_A (gw cA (fun k => ad' (([] : List gE).length + k)) es0) H.size q → H1[q]? = H[q]? := by
        rw [ad_0]
        exact hk
      obtain ⟨hPn, hDn⟩ := blk_join hP hD hlen hkk (by rw [ad_0]; exact hP1)
      rw [← blk_0] at hPn hDn
      rw [← vpushI_map]
      exact hN _ _ _ _ _ hKv ad' H1 locs1 ls hag hPn hDn hS1 hl
  · exact h.elim
/-- the answer put into the row of one long, or of one double -/
def oOutL (a : Nat) : gO := fun _ N L S es k n => match S with
  | .long x :: .int i :: .ref r :: S' => gif (Nat.beq r a) (i = nI 0 ∧ ∃ (A rest : List gE) (f : Nat → Int64), es = A ++ (.inl (3, 1, .inr (.inl f)) :: rest) ∧ A.length = a ∧ N L S' (A ++ (.inl (3, 1, .inr (.inl (vp_updL f 0 x))) :: rest)) k n)
  | _ => False
theorem app_get {α : Type} {A rest : List α} {e : α} : (A ++ (e :: rest))[A.length]? = some e := by
  rw [List.getElem?_append_right (Nat.le_refl _), Nat.sub_self]
  rfl
theorem app_set {α : Type} {A rest : List α} {e e' : α} : (A ++ (e :: rest)).set A.length e' = A ++ (e' :: rest) := by
  rw [List.set_append_right _ _ (Nat.le_refl _), Nat.sub_self]
  rfl
theorem ok_outL {nx : Nat} (a : Nat) (h : okO X pc nx oLASt) : okO X pc nx (oOutL a) := by
  intro J N hJ hN L S es k n ho
  unfold oOutL at ho
  split at ho
  · rename_i x i r S'
    obtain ⟨hr, ho⟩ := bif_t ho
    obtain rfl := Nat.eq_of_beq_eq_true hr
    obtain ⟨rfl, A, rest, f, rfl, rfl, ho3⟩ := ho
    refine h J N hJ hN L _ _ k n ?_
    show eLng (A ++ (.inl (3, 1, .inr (.inl f)) :: rest)) A.length 3 _
    unfold eLng
    rw [gnth_eq, app_get]
    refine ⟨0, rfl, by decide, ?_⟩
    rw [app_set]
    exact ho3
  · exact ho.elim
def oOutD (a : Nat) : gO := fun _ N L S es k n => match S with
  | .double x :: .int i :: .ref r :: S' => gif (Nat.beq r a) (i = nI 0 ∧ ∃ (A rest : List gE) (f : Nat → UInt64), es = A ++ (.inl (4, 1, .inr (.inr (.inl f))) :: rest) ∧ A.length = a ∧ N L S' (A ++ (.inl (4, 1, .inr (.inr (.inl (vf_upd f 0 x)))) :: rest)) k n)
  | _ => False
theorem ok_outD {nx : Nat} (a : Nat) (h : okO X pc nx oDASt) : okO X pc nx (oOutD a) := by
  intro J N hJ hN L S es k n ho
  unfold oOutD at ho
  split at ho
  · rename_i x i r S'
    obtain ⟨hr, ho⟩ := bif_t ho
    obtain rfl := Nat.eq_of_beq_eq_true hr
    obtain ⟨rfl, A, rest, f, rfl, rfl, ho3⟩ := ho
    refine h J N hJ hN L _ _ k n ?_
    show eDbl (A ++ (.inl (4, 1, .inr (.inr (.inl f))) :: rest)) A.length 4 _
    unfold eDbl
    rw [gnth_eq, app_get]
    refine ⟨0, rfl, by decide, ?_⟩
    rw [app_set]
    exact ho3
  · exact ho.elim
end LE2
