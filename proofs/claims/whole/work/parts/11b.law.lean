/-! The law's own steps. -/
section LS1
abbrev r101 (E : List gE) : List gE := E.map (renE (fun k => 101 + k))
theorem lwA_len (c : cT) (wy : Nat → Int32) : (lwA c wy).length = 99 := by
  obtain ⟨v, n, ch, H, o, s, sf, z0, z1⟩ := c
  rfl
theorem lwA_0 (c : cT) (wy : Nat → Int32) : (lwA c wy)[0]? = some (pcO 1 11 15 13 77 78) := by
  obtain ⟨v, n, ch, H, o, s, sf, z0, z1⟩ := c
  rfl
theorem lwE_app (c : cT) (wy : Nat → Int32) (f : Nat → Int64) (g : Nat → UInt64) (M : List gE) : lwE c wy f g M = lwE c wy f g [] ++ M := by
  unfold lwE
  rw [List.append_assoc]
  rfl
theorem lwE_len (c : cT) (wy : Nat → Int32) (f : Nat → Int64) (g : Nat → UInt64) : (lwE c wy f g []).length = 101 := by
  unfold lwE
  rw [List.length_append, lwA_len]
  rfl
theorem mW_E {c : cT} {th : Int32} {E : List gE} (h : mW c th E) : E.length = 7 ∧ ∃ fs, E[0]? = some (.inr (7, fs)) := by
  obtain ⟨v, n, ch, H, o, s, sf, z0, z1⟩ := c
  obtain ⟨R, P, S, tg, at0, nu, rfl, -⟩ := h
  exact ⟨rfl, _, rfl⟩
theorem lg_self (x : Int64) : lg_cmp x x = 0 := by
  unfold lg_cmp
  rw [if_neg (by exact Int64.lt_irrefl), if_pos rfl]
theorem fp_ord {x : FP.Core.Datum} (h : x ≠ .nan) : FP.Core.order x x = some .eq := by
  have e : ∀ a : Int, compare a a = .eq := fun a => by simp [compare, compareOfLessAndEq]
  cases x with
  | nan => exact absurd rfl h
  | inf => exact congrArg some (e _)
  | fin s c q => exact congrArg some (e _)
theorem fp_nan {a : UInt64} (h : vf_n64 a) : FP.Core.decode FP.Core.b64 a.toNat ≠ .nan := by
  have h1 : (a &&& 0x7fffffffffffffff).toNat ≤ (0x7ff0000000000000 : UInt64).toNat := UInt64.le_iff_toNat_le.mp h
  have h2 : (a &&& 0x7fffffffffffffff).toNat = a.toNat % 2 ^ 63 := by
    rw [UInt64.toNat_and]
    exact Nat.and_two_pow_sub_one_eq_mod a.toNat 63
  rw [h2] at h1
  have h3 : a.toNat % 9223372036854775808 ≤ 9218868437227405312 := h1
  unfold FP.Core.decode FP.Core.fieldE FP.Core.fieldT
  rw [fp_tails, fp_exps]
  intro h4
  split at h4
  · split at h4
    · cases h4
    · omega
  · split at h4
    · cases h4
    · cases h4
theorem hr_cmp (v : gV) (t : Nat) (op : CmpOp) : Op.cmpValue (FP.dcmp (hrR v t) (hrR v t)) op = 0 := by
  rw [show FP.dcmp (hrR v t) (hrR v t) = some .eq from fp_ord (fp_nan (hrR_num v t))]
  rfl
theorem Ct.mono {l : Launch} {y : MethodName} {ws : List Cond} {rm : Room} {mc ms : Nat} {al : Bool} {sp sp' : gS} (h : Ct l y ws rm mc ms al sp) (hs : ∀ av es K, sp' av es K → sp av es K) : Ct l y ws rm mc ms al sp' := fun D cA ad sz av es K hk => h D cA ad sz av es K (hs av es K hk)
variable {X : gX} {l0 : Launch} {cc : ByteArray} {own : String} {Ts : List Cond} {R0 : Room} {pc : Nat}
def oDStore (nl i : Nat) : gO := fun _ N L S es k n => match S with
  | .double x :: S' => gif (Nat.ble (i + 2) nl) (N ((i, .double x) :: ldel (ldel L i) (i + 1)) S' es k n)
  | _ => False
theorem ok_dstore (hM : gM X l0 cc own Ts R0) (i : Nat) (hd : decode cc pc = .ok (.dstore i, 2)) : okO X pc (pc + 2) (oDStore X.2.2.2.2.2.2.2.2.2.2.2.2.2.2.2.2 i) := by
  obtain ⟨p, l, e, R, s, m, args, below, meth, c, D, cA, A, ag, ad0, Q, nL⟩ := X
  obtain ⟨hx, hb, hown, hts, hml, hlk, hY, hA, hR, hL0⟩ := hM
  intro J N hJ hN L S es k n h ad H locs ls hag hP hD hS hl
  unfold oDStore at h
  split at h
  · rename_i x S'
    obtain ⟨hn, h⟩ := bif_t h
    refine lv_dstore hx hb hd hl (Nat.le_of_ble_eq_true hn) rfl (fun ls' hl' => hN _ _ _ _ _ h ad H locs ls' hag hP hD hS (lv_mono hl' (fun q hq => ?_)))
    obtain ⟨q0, hq0, rfl⟩ := List.mem_map.mp hq
    rcases List.mem_cons.mp hq0 with rfl | hq0
    · exact List.mem_cons_self
    · have h1 := ldel_mem hq0
      have h2 := ldel_mem h1.1
      refine List.mem_cons_of_mem _ (List.mem_filter.mpr ⟨List.mem_map.mpr ⟨q0, h2.1, rfl⟩, ?_⟩)
      have a1 := h1.2
      have a2 := h2.2
      simp only [Bool.and_eq_true, Bool.not_eq_true', gv_cat] at a1 a2 ⊢
      exact ⟨a2.1, a1.1, a2.2⟩
  · exact h.elim
/-- what a start says of the script: its number is r -/
def gSc (X : gX) (b Ls : Nat) (xs : Nat → Int32) (r : Nat) : Prop := match X with
  | (_, _, _, _, s, _, _, _, _, _, _, _, A, ag, ad0, _, _) => va_X b Ls xs s s.heap ∧ b < s.heap.size ∧ ¬ A b ∧ ag r ∧ ad0 r = b ∧ Ls ≤ 2560
def oSld (Ls : Nat) (xs : Nat → Int32) (r0 : Nat) : gO := fun _ N L S es k n => match S with
  | .int i :: .ref r :: S' => gif (Nat.beq r r0) (∃ j : Nat, i = nI j ∧ j < Ls ∧ N L (.int (xs j) :: S') es k n)
  | _ => False
theorem ok_sld (hM : gM X l0 cc own Ts R0) {b Ls r0 : Nat} {xs : Nat → Int32} (hSc : gSc X b Ls xs r0) (hd : decode cc pc = .ok (.iaload, 1)) : okO X pc (pc + 1) (oSld Ls xs r0) := by
  obtain ⟨p, l, e, R, s, m, args, below, meth, c, D, cA, A, ag, ad0, Q, nL⟩ := X
  obtain ⟨hx, hb, hown, hts, hml, hlk, hY, hA, hR, hL0⟩ := hM
  obtain ⟨hX, hbl, hbA, hr1, hr2, hL⟩ := hSc
  intro J N hJ hN L S es k n h ad H locs ls hag hP hD hS hl
  unfold oSld at h
  split at h
  · rename_i i r S'
    replace h := bif_t h
    obtain ⟨hr, h⟩ := h
    obtain rfl := Nat.eq_of_beq_eq_true hr
    obtain ⟨j, rfl, hj, h⟩ := h
    have e1 : gv ad (.ref r) = .ref b := by
      show Value.ref (ad r) = _
      rw [hag r hr1, hr2]
    have hc9 : (nI j).toNatClampNeg = j := nI_clamp (by omega)
    show W p l e R s m args below meth c H locs k n Q (F0 m pc ls (.int (nI j) :: gv ad (.ref r) :: S'.map (gv ad)))
    rw [e1]
    refine va_sld hx hb hX hbl hbA hS (vp_in_nI hj (by omega)) hd ?_
    rw [hc9]
    exact hN _ _ _ _ _ h ad H locs ls hag hP hD hS hl
  · exact h.elim
def oSlen (Ls r0 : Nat) : gO := fun _ N L S es k n => match S with
  | .ref r :: S' => gif (Nat.beq r r0) (N L (.int (nI Ls) :: S') es k n)
  | _ => False
theorem ok_slen (hM : gM X l0 cc own Ts R0) {b Ls r0 : Nat} {xs : Nat → Int32} (hSc : gSc X b Ls xs r0) (hd : decode cc pc = .ok (.arraylength, 1)) : okO X pc (pc + 1) (oSlen Ls r0) := by
  obtain ⟨p, l, e, R, s, m, args, below, meth, c, D, cA, A, ag, ad0, Q, nL⟩ := X
  obtain ⟨hx, hb, hown, hts, hml, hlk, hY, hA, hR, hL0⟩ := hM
  obtain ⟨hX, hbl, hbA, hr1, hr2, hL⟩ := hSc
  intro J N hJ hN L S es k n h ad H locs ls hag hP hD hS hl
  unfold oSlen at h
  split at h
  · rename_i r S'
    replace h := bif_t h
    obtain ⟨hr, h⟩ := h
    obtain rfl := Nat.eq_of_beq_eq_true hr
    have e1 : gv ad (.ref r) = .ref b := by
      show Value.ref (ad r) = _
      rw [hag r hr1, hr2]
    show W p l e R s m args below meth c H locs k n Q (F0 m pc ls (gv ad (.ref r) :: S'.map (gv ad)))
    rw [e1]
    exact va_slen hx hb hX hbl hbA hS hd (hN _ _ _ _ _ h ad H locs ls hag hP hD hS hl)
  · exact h.elim
/-- the law's end -/
def gLE (X : gX) : Prop := match X with
  | (p, l, e, R, s, m, args, below, meth, c, _, _, A, _, _, Q, _) => ∀ (H : Heap) (locs : List Loc) (k n pc : Nat) (ls : Array Slot), decode code pc = .ok (.ireturn, 1) → (∀ q ∈ locs, A q.base) → k ≤ 601024 → n ≤ 7293034 → W p l e R s m args below meth c H locs k n Q (F0 m pc ls [.int (nI 1)])
def oLEnd : gO := fun _ _ _ S _ k n => S = [.int (nI 1)] ∧ k ≤ 601024 ∧ n ≤ 7293034
theorem ok_lend {nx : Nat} (hE : gLE X) (hd : decode code pc = .ok (.ireturn, 1)) : okO X pc nx oLEnd := by
  obtain ⟨p, l, e, R, s, m, args, below, meth, c, D, cA, A, ag, ad0, Q, nL⟩ := X
  intro J N hJ hN L S es k n h ad H locs ls hag hP hD hS hl
  obtain ⟨rfl, h1, h2⟩ := h
  exact hE H locs k n pc ls hd hS.2.2 h1 h2
/-- a helper's call -/
def oLS (rc rs cmc cms np : Nat) (sp : gS) : gO := fun _ N L S es k n => match gtake np [] S with
  | some (as, S') => gif (Nat.ble (scat S') 8) ((k + cmc ≤ rc ∧ n + cms ≤ rs) ∧ ∃ c wy f g M, es = lwE c wy f g M ∧ sp as (lwE c wy f g []) (fun v es' => ∃ c' wy' f' g', es' = lwE c' wy' f' g' [] ∧ N L (vpushI v S') (lwE c' wy' f' g' M) (k + cmc) (n + cms)))
  | _ => False
theorem ok_lS (hM : gM X l0 cc own Ts R0) (hC9 : gXc X) {hh : List (Nat × Nat × Nat × Nat)} {y : MethodName} {ws ws' : List Cond} {rm : Room} {bytes : ByteArray} {maxL index np cmc cms : Nat} {ret : Option FieldType} {sp : gS} (hC : CtL l0 y ws rm cmc cms sp) (hG : GoodIn Ts (va_wsS own index y ws)) (hw : ws = Cond.codeWith y bytes maxL ret hh :: ws') (hrc : rm.cells = cmc) (hrs : rm.slots = cms)
    (hdy : y.cls ≠ "java/lang/invoke/MethodHandle" ∧ y.cls ≠ "java/lang/invoke/VarHandle" ∧ (parseMethodDescriptor y.desc).map (fun d => d.parameters.length) = some np) (hRm : rm.frames + 1 ≤ R0.frames ∧ 8 + (maxL + 11) + rm.locals ≤ R0.locals) (hd : decode cc pc = .ok (.invokestatic index, 3)) :
    okO X pc (pc + 3) (oLS R0.cells R0.slots cmc cms np sp) := by
  obtain ⟨p, l, e, R, s, m, args, below, meth, c, D, cA, A, ag, ad0, Q, nL⟩ := X
  obtain ⟨hx, hb, hown, hts, hml, hlk, hY, hA, hR, hL0⟩ := hM
  subst hR
  subst hL0
  intro J N hJ hN L S es k n h ad H locs ls hag hP hD hS hl
  unfold oLS at h
  split at h
  · rename_i as S' htk
    obtain ⟨pre, h1, h2, h3⟩ := gtake_ok htk
    simp only [List.append_nil] at h1
    subst h1
    subst h2
    replace h := bif_t h
    obtain ⟨hc1, h⟩ := h
    obtain ⟨hroom, c9, wy, f, g, M, rfl, h⟩ := h
    rw [lwE_app, blk_0] at hP hD
    have hP0 := blk_P hP
    have hD0 := blk_D hD
    have hF := blk_F hD hS hA
    rw [ad_0] at hP0 hD0 hF
    have hMet := hC D cA ad H.size _ _ _ h
    refine g_call (vx_runSW (As := as.map (gv ad)) (rest := S'.map (gv ad)) ⟨hx, hb, hml, hown, hts⟩ hMet (vx_cwSW np hts hG hw hrc hrs hdy hRm) ⟨gPcL_blind, fun U hU hW => ?_⟩ rfl (by simp [h3]) hl.1 (by simp) (lv_room (by rw [scat_eq]; exact Nat.le_of_ble_eq_true hc1)) hd hroom) hS hF (fun v es' ad' H1 locs1 hKv hag' hP1 hD1 hz hk hS1 => ?_)
    · exact ⟨rfl, ⟨by rw [hU], by rw [hU]; exact hP0, gY.call hY hS hF hW hU, hD0.weaken (fun _ _ _ _ => trivial)⟩, gC9.moved hW.alike hC9⟩
    · have had : ad' = ad := funext fun i => hag' i trivial
      subst had
      obtain ⟨c', wy', f', g', rfl, hKv⟩ := hKv
      have hkk : ∀ q : Nat, q < H.size → ¬ va_A (gw cA (fun k => ad' (([] : List gE).length + k)) (lwE c9 wy f g [])) H.size q → H1[q]? = H[q]? := by
        rw [ad_0]
        exact hk
      have hlen : (lwE c' wy' f' g' []).length = (lwE c9 wy f g []).length := (lwE_len _ _ _ _).trans (lwE_len _ _ _ _).symm
      obtain ⟨hPn, hDn⟩ := blk_join (E' := lwE c' wy' f' g' []) hP hD hlen hkk (by rw [ad_0]; exact hP1)
      rw [← blk_0, ← lwE_app] at hPn hDn
      rw [← vpushI_map]
      exact hN _ _ _ _ _ hKv ad' H1 locs1 ls hag hPn hDn hS1 hl
  · exact h.elim
/-- a call of the cache's own method -/
def oLV (rc rs np : Nat) (sp : gS) : gO := fun _ N L S es k n => match gtake np [] S with
  | some (as, .ref b :: S') => gif (Nat.beq b 0 && Nat.ble (scat S') 8) ((k ≤ rc ∧ n ≤ rs) ∧ ∃ c wy f g M, es = lwE c wy f g M ∧ sp (.ref 0 :: as) (lwA c wy) (fun v es' => ∃ c' wy', es' = lwA c' wy' ∧ N L (vpushI v S') (lwE c' wy' f g M) k n))
  | _ => False
theorem ok_lV (hM : gM X l0 cc own Ts R0) {y : MethodName} {ws ws' : List Cond} {rm : Room} {bytes : ByteArray} {maxL index np : Nat} {ret : Option FieldType} {sp : gS} (hC : Ct l0 y ws rm 0 0 false sp) (hG : GoodIn Ts (wsV own index RX6 y ws)) (hw : ws = Cond.code y bytes maxL ret :: ws') (hrc : rm.cells = 0) (hrs : rm.slots = 0)
    (hdy : y.cls = RX6 ∧ y.cls ≠ "java/lang/invoke/MethodHandle" ∧ y.cls ≠ "java/lang/invoke/VarHandle" ∧ (parseMethodDescriptor y.desc).map (fun d => d.parameters.length) = some np) (hRm : rm.frames + 1 ≤ R0.frames ∧ 8 + (maxL + 11) + rm.locals ≤ R0.locals) (hd : decode cc pc = .ok (.invokevirtual index, 3)) :
    okO X pc (pc + 3) (oLV R0.cells R0.slots np sp) := by
  obtain ⟨p, l, e, R, s, m, args, below, meth, c, D, cA, A, ag, ad0, Q, nL⟩ := X
  obtain ⟨hx, hb, hown, hts, hml, hlk, hY, hA, hR, hL0⟩ := hM
  have hK := hY.1
  subst hR
  subst hL0
  intro J N hJ hN L S es k n h ad H locs ls hag hP hD hS hl
  unfold oLV at h
  split at h
  · rename_i as b S' htk
    obtain ⟨pre, h1, h2, h3⟩ := gtake_ok htk
    simp only [List.append_nil] at h1
    subst h1
    subst h2
    replace h := bif_t h
    obtain ⟨hc1, h⟩ := h
    obtain ⟨hb0, hc2⟩ := and_t hc1
    obtain rfl := Nat.eq_of_beq_eq_true hb0
    obtain ⟨hroom, c9, wy, f, g, M, rfl, h⟩ := h
    unfold lwE at hP hD
    rw [blk_0] at hP hD
    have hP0 := blk_P hP
    have hD0 := blk_D hD
    have hF := blk_F hD hS hA
    rw [ad_0] at hP0 hD0 hF
    have hMet := hC D cA ad H.size _ _ _ h
    refine g_call (va_runV (As := as.map (gv ad)) (rest := S'.map (gv ad)) (b := ad 0) ⟨hx, hb, hml, hown, hts⟩ hMet (cwV np hts hG hw hrc hrs hdy hRm) ⟨gPc_blind, va_recv (ci := 6) hK hP0 rfl (q0 := 0) (gw_get (lwA_0 c9 wy)), fun U hU hW => ?_⟩ rfl (by simp [h3]) hl.1 (by simp [gv]) (lv_room (by rw [scat_eq]; exact Nat.le_of_ble_eq_true hc2)) hd hroom) hS hF (fun v es' ad' H1 locs1 hKv hag' hP1 hD1 hz hk hS1 => ?_)
    · exact ⟨rfl, by rw [hU], by rw [hU]; exact hP0, gY.call hY hS hF hW hU, hD0.weaken (fun _ _ _ _ => trivial)⟩
    · have had : ad' = ad := funext fun i => hag' i trivial
      subst had
      obtain ⟨c', wy', rfl, hKv⟩ := hKv
      have hkk : ∀ q : Nat, q < H.size → ¬ va_A (gw cA (fun k => ad' (([] : List gE).length + k)) (lwA c9 wy)) H.size q → H1[q]? = H[q]? := by
        rw [ad_0]
        exact hk
      have hlen : (lwA c' wy').length = (lwA c9 wy).length := (lwA_len _ _).trans (lwA_len _ _).symm
      obtain ⟨hPn, hDn⟩ := blk_join (E' := lwA c' wy') hP hD hlen hkk (by rw [ad_0]; exact hP1)
      rw [← blk_0] at hPn hDn
      rw [← vpushI_map]
      exact hN _ _ _ _ _ hKv ad' H1 locs1 ls hag hPn hDn hS1 hl
  · exact h.elim
/-- a call of the model's method -/
def oLM (rc rs np : Nat) (sp : gS) : gO := fun _ N L S es k n => match gtake np [] S with
  | some (as, .ref b :: S') => gif (Nat.beq b 101 && (Nat.ble (scat S') 8 && as.all (wfv 0))) ((k ≤ rc ∧ n ≤ rs) ∧ ∃ c wy f g E, es = lwE c wy f g (r101 E) ∧ (∃ c2 th2, mW c2 th2 E) ∧ sp (.ref 0 :: as) E (fun v E' => (∃ c2 th2, mW c2 th2 E') ∧ (v.toList.all (wfv 0) = true) ∧ N L (vpushI v S') (lwE c wy f g (r101 E')) k n))
  | _ => False
theorem ok_lM (hM : gM X l0 cc own Ts R0) {y : MethodName} {ws ws' : List Cond} {rm : Room} {bytes : ByteArray} {maxL index np : Nat} {ret : Option FieldType} {sp : gS} (hC : Ct l0 y ws rm 0 0 false sp) (hG : GoodIn Ts (wsV own index RX7 y ws)) (hw : ws = Cond.code y bytes maxL ret :: ws') (hrc : rm.cells = 0) (hrs : rm.slots = 0)
    (hdy : y.cls = RX7 ∧ y.cls ≠ "java/lang/invoke/MethodHandle" ∧ y.cls ≠ "java/lang/invoke/VarHandle" ∧ (parseMethodDescriptor y.desc).map (fun d => d.parameters.length) = some np) (hRm : rm.frames + 1 ≤ R0.frames ∧ 8 + (maxL + 11) + rm.locals ≤ R0.locals) (hd : decode cc pc = .ok (.invokevirtual index, 3)) :
    okO X pc (pc + 3) (oLM R0.cells R0.slots np sp) := by
  obtain ⟨p, l, e, R, s, m, args, below, meth, c, D, cA, A, ag, ad0, Q, nL⟩ := X
  obtain ⟨hx, hb, hown, hts, hml, hlk, hY, hA, hR, hL0⟩ := hM
  have hK := hY.1
  subst hR
  subst hL0
  intro J N hJ hN L S es k n h ad H locs ls hag hP hD hS hl
  unfold oLM at h
  split at h
  · rename_i as b S' htk
    obtain ⟨pre, h1, h2, h3⟩ := gtake_ok htk
    simp only [List.append_nil] at h1
    subst h1
    subst h2
    replace h := bif_t h
    obtain ⟨hc1, h⟩ := h
    obtain ⟨hb0, hc2⟩ := and_t hc1
    obtain ⟨hc3, has⟩ := and_t hc2
    obtain rfl := Nat.eq_of_beq_eq_true hb0
    obtain ⟨hroom, c9, wy, f, g, E, rfl, ⟨c2, th2, hm⟩, h⟩ := h
    obtain ⟨hE7, fs, hE0⟩ := mW_E hm
    have hsp : ∀ E9, lwE c9 wy f g (r101 E9) = blk (lwE c9 wy f g []) E9 [] := fun E9 => by
      rw [lwE_app]
      unfold blk
      rw [lwE_len, List.append_nil]
    have hade : (fun k => ad ((lwE c9 wy f g []).length + k)) = fun k => ad (101 + k) := by rw [lwE_len]
    rw [hsp] at hP hD
    have hP0 := blk_P hP
    have hD0 := blk_D hD
    have hF := blk_F hD hS hA
    rw [hade] at hP0 hD0 hF
    have hMet := hC D cA (fun k => ad (101 + k)) H.size _ _ _ h
    have hrec : va_P D vwCl (gw cA ad (blk (lwE c9 wy f g []) E [])) H := hP
    have hgo := gw_get (cA := cA) (ad := ad) (blk_get (pre := lwE c9 wy f g []) (post := []) hE0)
    rw [lwE_len, Nat.add_zero] at hgo
    have hargs : (Value.ref (ad 101) :: as.map (gv ad)) = (Value.ref 0 :: as).map (gv (fun k => ad (101 + k))) := by
      rw [List.map_cons, nov has, nov has]
      rfl
    refine g_call (va_runV (As := as.map (gv ad)) (rest := S'.map (gv ad)) (b := ad 101) ⟨hx, hb, hml, hown, hts⟩ hMet (cwV np hts hG hw hrc hrs hdy hRm) ⟨gPc_blind, va_recv (ci := 7) hK hrec rfl (q0 := 101) hgo, fun U hU hW => ?_⟩ rfl (by simp [h3]) hl.1 (by simp [gv]) (lv_room (by rw [scat_eq]; exact Nat.le_of_ble_eq_true hc3)) hd hroom) hS hF (fun v es' ad' H1 locs1 hKv hag' hP1 hD1 hz hk hS1 => ?_)
    · exact ⟨by rw [hargs], by rw [hU], by rw [hU]; exact hP0, gY.call hY hS hF hW hU, hD0.weaken (fun _ _ _ _ => trivial)⟩
    · have had : ad' = fun k => ad (101 + k) := funext fun i => hag' i trivial
      subst had
      obtain ⟨⟨c3, th3, hm3⟩, hwv, hKv⟩ := hKv
      have hkk : ∀ q : Nat, q < H.size → ¬ va_A (gw cA (fun k => ad ((lwE c9 wy f g []).length + k)) E) H.size q → H1[q]? = H[q]? := by
        rw [hade]
        exact hk
      obtain ⟨hPn, hDn⟩ := blk_join hP hD ((mW_E hm3).1.trans hE7.symm) hkk (by rw [hade]; exact hP1)
      rw [← hsp] at hPn hDn
      have hv : (v.map (gv (fun k => ad (101 + k)))).toList = (v.map (gv ad)).toList := by
        cases v with
        | none => rfl
        | some w =>
          have h9 : [w].all (wfv 0) = true := hwv
          have h8 := nov h9 (fun k => ad (101 + k))
          have h7 := nov h9 ad
          show [gv (fun k => ad (101 + k)) w] = [gv ad w]
          exact h8.trans h7.symm
      rw [hv, ← vpushI_map]
      exact hN _ _ _ _ _ hKv ad H1 locs1 ls hag hPn hDn hS1 hl
  · exact h.elim
/-- the answers, read -/
def oGetL : gO := fun _ N L S es k n => match S with
  | .int i :: .ref r :: S' => gif (Nat.beq r 99) (i = nI 0 ∧ ∃ c wy f g M, es = lwE c wy f g M ∧ N L (.long (f 0) :: S') es k n)
  | _ => False
theorem ok_getL {nx : Nat} (h : okO X pc nx oLALd) : okO X pc nx oGetL := by
  intro J N hJ hN L S es k n ho
  unfold oGetL at ho
  split at ho
  · rename_i i r S'
    obtain ⟨hr, ho⟩ := bif_t ho
    obtain rfl := Nat.eq_of_beq_eq_true hr
    obtain ⟨rfl, c, wy, f, g, M, rfl, ho3⟩ := ho
    refine h J N hJ hN L _ _ k n ?_
    have e : gnth (lwE c wy f g M) 99 = some (.inl (3, 1, .inr (.inl f))) := by
      have e9 := app_get (A := lwA c wy) (rest := .inl (4, 1, .inr (.inr (.inl g))) :: M) (e := .inl (3, 1, .inr (.inl f)))
      rw [lwA_len] at e9
      rw [gnth_eq]
      exact e9
    show eLng (lwE c wy f g M) 99 3 (fun sz f9 => ∃ j : Nat, nI 0 = nI j ∧ j < sz ∧ N L (.long (f9 j) :: S') (lwE c wy f g M) k n)
    unfold eLng
    rw [e]
    exact ⟨0, rfl, by decide, ho3⟩
  · exact ho.elim
def oGetD : gO := fun _ N L S es k n => match S with
  | .int i :: .ref r :: S' => gif (Nat.beq r 100) (i = nI 0 ∧ ∃ c wy f g M, es = lwE c wy f g M ∧ N L (.double (g 0) :: S') es k n)
  | _ => False
theorem ok_getD {nx : Nat} (h : okO X pc nx oDALd) : okO X pc nx oGetD := by
  intro J N hJ hN L S es k n ho
  unfold oGetD at ho
  split at ho
  · rename_i i r S'
    obtain ⟨hr, ho⟩ := bif_t ho
    obtain rfl := Nat.eq_of_beq_eq_true hr
    obtain ⟨rfl, c, wy, f, g, M, rfl, ho3⟩ := ho
    refine h J N hJ hN L _ _ k n ?_
    have e : gnth (lwE c wy f g M) 100 = some (.inl (4, 1, .inr (.inr (.inl g)))) := by
      have e9 := app_get (A := lwA c wy ++ [.inl (3, 1, .inr (.inl f))]) (rest := M) (e := .inl (4, 1, .inr (.inr (.inl g))))
      rw [List.length_append, lwA_len, List.append_assoc] at e9
      rw [gnth_eq]
      exact e9
    show eDbl (lwE c wy f g M) 100 4 (fun sz f9 => ∃ j : Nat, nI 0 = nI j ∧ j < sz ∧ N L (.double (f9 j) :: S') (lwE c wy f g M) k n)
    unfold eDbl
    rw [e]
    exact ⟨0, rfl, by decide, ho3⟩
  · exact ho.elim
-- contracts in the law's words
def s7_thrown : gS := fun av E K => ∃ c th, av = [.ref 0] ∧ mW c th E ∧ K (some (.int th)) E
theorem c7_thrown (l : Launch) : Ct l yX7_thrown wsX7_thrown rmX7_thrown 0 0 false s7_thrown := (ctX7_thrown l).mono (fun av E K ⟨c, th, h1, h2, h3⟩ => by
  obtain ⟨v, n, ch, H, o, s, sf, z0, z1⟩ := c
  obtain ⟨R, P, S, tg, at0, nu, rfl, -⟩ := h2
  exact ⟨R, P, S, sf, tg, nF ch, nI s, nI n, at0, nu, th, [], h1, rfl, h3⟩)
end LS1
