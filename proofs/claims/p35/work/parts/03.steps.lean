/-! Steps of single instructions. -/
section GS
def gif : Bool → Prop → Prop
  | true, P => P
  | false, _ => False
theorem bif_t {b : Bool} {P : Prop} (h : gif b P) : b = true ∧ P := by
  cases b
  · exact h.elim
  · exact ⟨rfl, h⟩
theorem and_t {a b : Bool} (h : (a && b) = true) : a = true ∧ b = true := by
  cases a
  · cases h
  · exact ⟨rfl, h⟩
variable {X : gX} {l0 : Launch} {cc : ByteArray} {own : String} {Ts : List Cond} {R0 : Room} {pc : Nat}
def oConst (v : Int32) : gO := fun J N L S es k n => N L (.int v :: S) es k n
theorem ok_iconst (hM : gM X l0 cc own Ts R0) {z : Int} {v : Int32} (hd : decode cc pc = .ok (.iconst z, 1)) (hv : Int32.ofInt z = v) : okO X pc (pc + 1) (oConst v) := by
  obtain ⟨p, l, e, R, s, m, args, below, meth, c, D, cA, A, ag, ad0, Q, nL⟩ := X
  obtain ⟨hx, hb, hown, hts, hml, hlk, hY, hA, hR, hL0⟩ := hM
  have hK := hY.1
  intro J N hJ hN L S es k n h ad H locs ls hag hP hD hS hl
  exact lv_iconst hx hb hd hv (hN _ _ _ _ _ h ad H locs ls hag hP hD hS hl)
theorem ok_bipush (hM : gM X l0 cc own Ts R0) {z : Int} {v : Int32} (hd : decode cc pc = .ok (.bipush z, 2)) (hv : (Int8.ofInt z).toInt32 = v) : okO X pc (pc + 2) (oConst v) := by
  obtain ⟨p, l, e, R, s, m, args, below, meth, c, D, cA, A, ag, ad0, Q, nL⟩ := X
  obtain ⟨hx, hb, hown, hts, hml, hlk, hY, hA, hR, hL0⟩ := hM
  have hK := hY.1
  intro J N hJ hN L S es k n h ad H locs ls hag hP hD hS hl
  exact lv_bipush hx hb hd hv (hN _ _ _ _ _ h ad H locs ls hag hP hD hS hl)
theorem ok_sipush (hM : gM X l0 cc own Ts R0) {z : Int} {v : Int32} (hd : decode cc pc = .ok (.sipush z, 3)) (hv : (Int16.ofInt z).toInt32 = v) : okO X pc (pc + 3) (oConst v) := by
  obtain ⟨p, l, e, R, s, m, args, below, meth, c, D, cA, A, ag, ad0, Q, nL⟩ := X
  obtain ⟨hx, hb, hown, hts, hml, hlk, hY, hA, hR, hL0⟩ := hM
  have hK := hY.1
  intro J N hJ hN L S es k n h ad H locs ls hag hP hD hS hl
  exact lv_sipush hx hb hd hv (hN _ _ _ _ _ h ad H locs ls hag hP hD hS hl)
def oILoad (i : Nat) : gO := fun J N L S es k n => match lget L i with | some (.int x) => N L (.int x :: S) es k n | _ => False
def oALoad (i : Nat) : gO := fun J N L S es k n => match lget L i with | some (.ref x) => N L (.ref x :: S) es k n | _ => False
def oDLoad (i : Nat) : gO := fun J N L S es k n => match lget L i with | some (.double x) => N L (.double x :: S) es k n | _ => False
theorem ok_iload_n (hM : gM X l0 cc own Ts R0) {kk : Fin 4} (i : Nat) (hd : decode cc pc = .ok (.iload_n kk, 1)) (hi : (kk : Nat) = i) : okO X pc (pc + 1) (oILoad i) := by
  obtain ⟨p, l, e, R, s, m, args, below, meth, c, D, cA, A, ag, ad0, Q, nL⟩ := X
  obtain ⟨hx, hb, hown, hts, hml, hlk, hY, hA, hR, hL0⟩ := hM
  have hK := hY.1
  intro J N hJ hN L S es k n h ad H locs ls hag hP hD hS hl
  unfold oILoad at h
  split at h
  · rename_i x hx'
    exact lv_iload_n hx hb hd hi (lget_at hl hx') (hN _ _ _ _ _ h ad H locs ls hag hP hD hS hl)
  · exact h.elim
theorem ok_aload_n (hM : gM X l0 cc own Ts R0) {kk : Fin 4} (i : Nat) (hd : decode cc pc = .ok (.aload_n kk, 1)) (hi : (kk : Nat) = i) : okO X pc (pc + 1) (oALoad i) := by
  obtain ⟨p, l, e, R, s, m, args, below, meth, c, D, cA, A, ag, ad0, Q, nL⟩ := X
  obtain ⟨hx, hb, hown, hts, hml, hlk, hY, hA, hR, hL0⟩ := hM
  have hK := hY.1
  intro J N hJ hN L S es k n h ad H locs ls hag hP hD hS hl
  unfold oALoad at h
  split at h
  · rename_i x hx'
    exact lv_aload_n hx hb hd hi (lget_at hl hx') (hN _ _ _ _ _ h ad H locs ls hag hP hD hS hl)
  · exact h.elim
theorem ok_iload (hM : gM X l0 cc own Ts R0) (i : Nat) (hd : decode cc pc = .ok (.iload i, 2)) : okO X pc (pc + 2) (oILoad i) := by
  obtain ⟨p, l, e, R, s, m, args, below, meth, c, D, cA, A, ag, ad0, Q, nL⟩ := X
  obtain ⟨hx, hb, hown, hts, hml, hlk, hY, hA, hR, hL0⟩ := hM
  have hK := hY.1
  intro J N hJ hN L S es k n h ad H locs ls hag hP hD hS hl
  unfold oILoad at h
  split at h
  · rename_i x hx'
    exact lv_iload hx hb hd (lget_at hl hx') (hN _ _ _ _ _ h ad H locs ls hag hP hD hS hl)
  · exact h.elim
theorem ok_aload (hM : gM X l0 cc own Ts R0) (i : Nat) (hd : decode cc pc = .ok (.aload i, 2)) : okO X pc (pc + 2) (oALoad i) := by
  obtain ⟨p, l, e, R, s, m, args, below, meth, c, D, cA, A, ag, ad0, Q, nL⟩ := X
  obtain ⟨hx, hb, hown, hts, hml, hlk, hY, hA, hR, hL0⟩ := hM
  have hK := hY.1
  intro J N hJ hN L S es k n h ad H locs ls hag hP hD hS hl
  unfold oALoad at h
  split at h
  · rename_i x hx'
    exact lv_aload hx hb hd (lget_at hl hx') (hN _ _ _ _ _ h ad H locs ls hag hP hD hS hl)
  · exact h.elim
theorem ok_dload (hM : gM X l0 cc own Ts R0) (i : Nat) (hd : decode cc pc = .ok (.dload i, 2)) : okO X pc (pc + 2) (oDLoad i) := by
  obtain ⟨p, l, e, R, s, m, args, below, meth, c, D, cA, A, ag, ad0, Q, nL⟩ := X
  obtain ⟨hx, hb, hown, hts, hml, hlk, hY, hA, hR, hL0⟩ := hM
  have hK := hY.1
  intro J N hJ hN L S es k n h ad H locs ls hag hP hD hS hl
  unfold oDLoad at h
  split at h
  · rename_i x hx'
    exact lv_dload hx hb hd (lget_at hl hx') (hN _ _ _ _ _ h ad H locs ls hag hP hD hS hl)
  · exact h.elim
def oIStore (nl i : Nat) : gO := fun J N L S es k n => match S with | .int x :: S' => gif (Nat.ble (i + 1) nl) (N (lset L i (.int x)) S' es k n) | _ => False
def oAStore (nl i : Nat) : gO := fun J N L S es k n => match S with | .ref x :: S' => gif (Nat.ble (i + 1) nl) (N (lset L i (.ref x)) S' es k n) | _ => False
theorem ok_istore_n (hM : gM X l0 cc own Ts R0) {kk : Fin 4} (i : Nat) (hd : decode cc pc = .ok (.istore_n kk, 1)) (hi : (kk : Nat) = i) : okO X pc (pc + 1) (oIStore X.2.2.2.2.2.2.2.2.2.2.2.2.2.2.2.2 i) := by
  obtain ⟨p, l, e, R, s, m, args, below, meth, c, D, cA, A, ag, ad0, Q, nL⟩ := X
  obtain ⟨hx, hb, hown, hts, hml, hlk, hY, hA, hR, hL0⟩ := hM
  have hK := hY.1
  intro J N hJ hN L S es k n h ad H locs ls hag hP hD hS hl
  unfold oIStore at h
  split at h
  · obtain ⟨hn, h⟩ := bif_t h
    exact lv_istore_n hx hb hd hi hl (Nat.le_of_ble_eq_true hn) rfl (fun ls' hl' => hN _ _ _ _ _ h ad H locs ls' hag hP hD hS (lset_ok hl'))
  · exact h.elim
theorem ok_istore (hM : gM X l0 cc own Ts R0) (i : Nat) (hd : decode cc pc = .ok (.istore i, 2))  : okO X pc (pc + 2) (oIStore X.2.2.2.2.2.2.2.2.2.2.2.2.2.2.2.2 i) := by
  obtain ⟨p, l, e, R, s, m, args, below, meth, c, D, cA, A, ag, ad0, Q, nL⟩ := X
  obtain ⟨hx, hb, hown, hts, hml, hlk, hY, hA, hR, hL0⟩ := hM
  have hK := hY.1
  intro J N hJ hN L S es k n h ad H locs ls hag hP hD hS hl
  unfold oIStore at h
  split at h
  · obtain ⟨hn, h⟩ := bif_t h
    exact lv_istore hx hb hd  hl (Nat.le_of_ble_eq_true hn) rfl (fun ls' hl' => hN _ _ _ _ _ h ad H locs ls' hag hP hD hS (lset_ok hl'))
  · exact h.elim
theorem ok_astore_n (hM : gM X l0 cc own Ts R0) {kk : Fin 4} (i : Nat) (hd : decode cc pc = .ok (.astore_n kk, 1)) (hi : (kk : Nat) = i) : okO X pc (pc + 1) (oAStore X.2.2.2.2.2.2.2.2.2.2.2.2.2.2.2.2 i) := by
  obtain ⟨p, l, e, R, s, m, args, below, meth, c, D, cA, A, ag, ad0, Q, nL⟩ := X
  obtain ⟨hx, hb, hown, hts, hml, hlk, hY, hA, hR, hL0⟩ := hM
  have hK := hY.1
  intro J N hJ hN L S es k n h ad H locs ls hag hP hD hS hl
  unfold oAStore at h
  split at h
  · obtain ⟨hn, h⟩ := bif_t h
    exact lv_astore_n hx hb hd hi hl (Nat.le_of_ble_eq_true hn) rfl (fun ls' hl' => hN _ _ _ _ _ h ad H locs ls' hag hP hD hS (lset_ok hl'))
  · exact h.elim
theorem ok_astore (hM : gM X l0 cc own Ts R0) (i : Nat) (hd : decode cc pc = .ok (.astore i, 2))  : okO X pc (pc + 2) (oAStore X.2.2.2.2.2.2.2.2.2.2.2.2.2.2.2.2 i) := by
  obtain ⟨p, l, e, R, s, m, args, below, meth, c, D, cA, A, ag, ad0, Q, nL⟩ := X
  obtain ⟨hx, hb, hown, hts, hml, hlk, hY, hA, hR, hL0⟩ := hM
  have hK := hY.1
  intro J N hJ hN L S es k n h ad H locs ls hag hP hD hS hl
  unfold oAStore at h
  split at h
  · obtain ⟨hn, h⟩ := bif_t h
    exact lv_astore hx hb hd  hl (Nat.le_of_ble_eq_true hn) rfl (fun ls' hl' => hN _ _ _ _ _ h ad H locs ls' hag hP hD hS (lset_ok hl'))
  · exact h.elim
def oIInc (nl i : Nat) (z : Int32) : gO := fun J N L S es k n => match lget L i with | some (.int x) => gif (Nat.ble (i + 1) nl) (N (lset L i (.int (x + z))) S es k n) | _ => False
theorem ok_iinc (hM : gM X l0 cc own Ts R0) (i : Nat) {zi : Int} {z : Int32} (hd : decode cc pc = .ok (.iinc i zi, 3)) (hz : Int32.ofInt zi = z) : okO X pc (pc + 3) (oIInc X.2.2.2.2.2.2.2.2.2.2.2.2.2.2.2.2 i z) := by
  obtain ⟨p, l, e, R, s, m, args, below, meth, c, D, cA, A, ag, ad0, Q, nL⟩ := X
  obtain ⟨hx, hb, hown, hts, hml, hlk, hY, hA, hR, hL0⟩ := hM
  have hK := hY.1
  intro J N hJ hN L S es k n h ad H locs ls hag hP hD hS hl
  unfold oIInc at h
  split at h
  · rename_i x hx'
    obtain ⟨hn, h⟩ := bif_t h
    obtain ⟨q, hq⟩ := lget_ix (ad := ad) hx'
    exact lv_iinc (v := x + z) hx hb hd hl hq (by rw [hz]) (Nat.le_of_ble_eq_true hn) rfl (fun ls' hl' => hN _ _ _ _ _ h ad H locs ls' hag hP hD hS (lset_ok (v := .int (x + z)) hl'))
  · exact h.elim
def oAdd : gO := fun J N L S es k n => match S with | .int y :: .int x :: S' => N L (.int (x + y) :: S') es k n | _ => False
theorem ok_iadd (hM : gM X l0 cc own Ts R0) (hd : decode cc pc = .ok (.iadd, 1)) : okO X pc (pc + 1) oAdd := by
  obtain ⟨p, l, e, R, s, m, args, below, meth, c, D, cA, A, ag, ad0, Q, nL⟩ := X
  obtain ⟨hx, hb, hown, hts, hml, hlk, hY, hA, hR, hL0⟩ := hM
  have hK := hY.1
  intro J N hJ hN L S es k n h ad H locs ls hag hP hD hS hl
  unfold oAdd at h
  split at h
  · exact lv_iadd hx hb hd (hN _ _ _ _ _ h ad H locs ls hag hP hD hS hl)
  · exact h.elim
def oSub : gO := fun J N L S es k n => match S with | .int y :: .int x :: S' => N L (.int (x - y) :: S') es k n | _ => False
theorem ok_isub (hM : gM X l0 cc own Ts R0) (hd : decode cc pc = .ok (.isub, 1)) : okO X pc (pc + 1) oSub := by
  obtain ⟨p, l, e, R, s, m, args, below, meth, c, D, cA, A, ag, ad0, Q, nL⟩ := X
  obtain ⟨hx, hb, hown, hts, hml, hlk, hY, hA, hR, hL0⟩ := hM
  have hK := hY.1
  intro J N hJ hN L S es k n h ad H locs ls hag hP hD hS hl
  unfold oSub at h
  split at h
  · exact lv_isub hx hb hd (hN _ _ _ _ _ h ad H locs ls hag hP hD hS hl)
  · exact h.elim
def oMul : gO := fun J N L S es k n => match S with | .int y :: .int x :: S' => N L (.int (x * y) :: S') es k n | _ => False
theorem ok_imul (hM : gM X l0 cc own Ts R0) (hd : decode cc pc = .ok (.imul, 1)) : okO X pc (pc + 1) oMul := by
  obtain ⟨p, l, e, R, s, m, args, below, meth, c, D, cA, A, ag, ad0, Q, nL⟩ := X
  obtain ⟨hx, hb, hown, hts, hml, hlk, hY, hA, hR, hL0⟩ := hM
  have hK := hY.1
  intro J N hJ hN L S es k n h ad H locs ls hag hP hD hS hl
  unfold oMul at h
  split at h
  · exact lv_imul hx hb hd (hN _ _ _ _ _ h ad H locs ls hag hP hD hS hl)
  · exact h.elim
def oAnd : gO := fun J N L S es k n => match S with | .int y :: .int x :: S' => N L (.int (x &&& y) :: S') es k n | _ => False
theorem ok_iand (hM : gM X l0 cc own Ts R0) (hd : decode cc pc = .ok (.iand, 1)) : okO X pc (pc + 1) oAnd := by
  obtain ⟨p, l, e, R, s, m, args, below, meth, c, D, cA, A, ag, ad0, Q, nL⟩ := X
  obtain ⟨hx, hb, hown, hts, hml, hlk, hY, hA, hR, hL0⟩ := hM
  have hK := hY.1
  intro J N hJ hN L S es k n h ad H locs ls hag hP hD hS hl
  unfold oAnd at h
  split at h
  · exact lv_iand hx hb hd (hN _ _ _ _ _ h ad H locs ls hag hP hD hS hl)
  · exact h.elim
def oDiv : gO := fun J N L S es k n => match S with | .int y :: .int x :: S' => ¬ y = 0 ∧ N L (.int (x / y) :: S') es k n | _ => False
theorem ok_idiv (hM : gM X l0 cc own Ts R0) (hd : decode cc pc = .ok (.idiv, 1)) : okO X pc (pc + 1) oDiv := by
  obtain ⟨p, l, e, R, s, m, args, below, meth, c, D, cA, A, ag, ad0, Q, nL⟩ := X
  obtain ⟨hx, hb, hown, hts, hml, hlk, hY, hA, hR, hL0⟩ := hM
  have hK := hY.1
  intro J N hJ hN L S es k n h ad H locs ls hag hP hD hS hl
  unfold oDiv at h
  split at h
  · obtain ⟨hz, h⟩ := h
    exact lv_idiv hx hb hd hz (hN _ _ _ _ _ h ad H locs ls hag hP hD hS hl)
  · exact h.elim
def oRem : gO := fun J N L S es k n => match S with | .int y :: .int x :: S' => ¬ y = 0 ∧ N L (.int (x - x / y * y) :: S') es k n | _ => False
theorem ok_irem (hM : gM X l0 cc own Ts R0) (hd : decode cc pc = .ok (.irem, 1)) : okO X pc (pc + 1) oRem := by
  obtain ⟨p, l, e, R, s, m, args, below, meth, c, D, cA, A, ag, ad0, Q, nL⟩ := X
  obtain ⟨hx, hb, hown, hts, hml, hlk, hY, hA, hR, hL0⟩ := hM
  have hK := hY.1
  intro J N hJ hN L S es k n h ad H locs ls hag hP hD hS hl
  unfold oRem at h
  split at h
  · obtain ⟨hz, h⟩ := h
    exact lv_irem hx hb hd hz (hN _ _ _ _ _ h ad H locs ls hag hP hD hS hl)
  · exact h.elim
def oI2L : gO := fun J N L S es k n => match S with | .int x :: S' => N L (.long x.toInt64 :: S') es k n | _ => False
theorem ok_i2l (hM : gM X l0 cc own Ts R0) (hd : decode cc pc = .ok (.i2l, 1)) : okO X pc (pc + 1) oI2L := by
  obtain ⟨p, l, e, R, s, m, args, below, meth, c, D, cA, A, ag, ad0, Q, nL⟩ := X
  obtain ⟨hx, hb, hown, hts, hml, hlk, hY, hA, hR, hL0⟩ := hM
  have hK := hY.1
  intro J N hJ hN L S es k n h ad H locs ls hag hP hD hS hl
  unfold oI2L at h
  split at h
  · exact lv_i2l hx hb hd rfl (hN _ _ _ _ _ h ad H locs ls hag hP hD hS hl)
  · exact h.elim
def oI2C : gO := fun J N L S es k n => match S with | .int x :: S' => N L (.int (x.toUInt32 % 65536).toInt32 :: S') es k n | _ => False
theorem ok_i2c (hM : gM X l0 cc own Ts R0) (hd : decode cc pc = .ok (.i2c, 1)) : okO X pc (pc + 1) oI2C := by
  obtain ⟨p, l, e, R, s, m, args, below, meth, c, D, cA, A, ag, ad0, Q, nL⟩ := X
  obtain ⟨hx, hb, hown, hts, hml, hlk, hY, hA, hR, hL0⟩ := hM
  have hK := hY.1
  intro J N hJ hN L S es k n h ad H locs ls hag hP hD hS hl
  unfold oI2C at h
  split at h
  · exact lv_i2c hx hb hd rfl (hN _ _ _ _ _ h ad H locs ls hag hP hD hS hl)
  · exact h.elim
def oI2D : gO := fun J N L S es k n => match S with | .int x :: S' => N L (.double (FP.i2d x) :: S') es k n | _ => False
theorem ok_i2d (hM : gM X l0 cc own Ts R0) (hd : decode cc pc = .ok (.i2d, 1)) : okO X pc (pc + 1) oI2D := by
  obtain ⟨p, l, e, R, s, m, args, below, meth, c, D, cA, A, ag, ad0, Q, nL⟩ := X
  obtain ⟨hx, hb, hown, hts, hml, hlk, hY, hA, hR, hL0⟩ := hM
  have hK := hY.1
  intro J N hJ hN L S es k n h ad H locs ls hag hP hD hS hl
  unfold oI2D at h
  split at h
  · exact lv_i2d hx hb hd (hN _ _ _ _ _ h ad H locs ls hag hP hD hS hl)
  · exact h.elim
def oDConst0 : gO := fun J N L S es k n => N L (.double FP.dconst0 :: S) es k n
theorem ok_dconst0 (hM : gM X l0 cc own Ts R0) (hd : decode cc pc = .ok (.dconst 0, 1)) : okO X pc (pc + 1) oDConst0 := by
  obtain ⟨p, l, e, R, s, m, args, below, meth, c, D, cA, A, ag, ad0, Q, nL⟩ := X
  obtain ⟨hx, hb, hown, hts, hml, hlk, hY, hA, hR, hL0⟩ := hM
  have hK := hY.1
  intro J N hJ hN L S es k n h ad H locs ls hag hP hD hS hl
  exact lv_dconst0 hx hb hd (hN _ _ _ _ _ h ad H locs ls hag hP hD hS hl)
def oLCmp : gO := fun J N L S es k n => match S with | .long y :: .long x :: S' => N L (.int (lg_cmp x y) :: S') es k n | _ => False
theorem ok_lcmp (hM : gM X l0 cc own Ts R0) (hd : decode cc pc = .ok (.lcmp, 1)) : okO X pc (pc + 1) oLCmp := by
  obtain ⟨p, l, e, R, s, m, args, below, meth, c, D, cA, A, ag, ad0, Q, nL⟩ := X
  obtain ⟨hx, hb, hown, hts, hml, hlk, hY, hA, hR, hL0⟩ := hM
  have hK := hY.1
  intro J N hJ hN L S es k n h ad H locs ls hag hP hD hS hl
  unfold oLCmp at h
  split at h
  · exact W.lcmp hx hb hd (hN _ _ _ _ _ h ad H locs ls hag hP hD hS hl)
  · exact h.elim
def oDCmp (op : CmpOp) : gO := fun J N L S es k n => match S with | .double y :: .double x :: S' => N L (.int (Op.cmpValue (FP.dcmp x y) op) :: S') es k n | _ => False
theorem ok_dcmp (hM : gM X l0 cc own Ts R0) {op : CmpOp} (hd : decode cc pc = .ok (.dcmp op, 1)) : okO X pc (pc + 1) (oDCmp op) := by
  obtain ⟨p, l, e, R, s, m, args, below, meth, c, D, cA, A, ag, ad0, Q, nL⟩ := X
  obtain ⟨hx, hb, hown, hts, hml, hlk, hY, hA, hR, hL0⟩ := hM
  have hK := hY.1
  intro J N hJ hN L S es k n h ad H locs ls hag hP hD hS hl
  unfold oDCmp at h
  split at h
  · exact lv_dcmp hx hb hd (hN _ _ _ _ _ h ad H locs ls hag hP hD hS hl)
  · exact h.elim
def oDDiv : gO := fun J N L S es k n => match S with | .double y :: .double x :: S' => vf_n64 (FP.ddiv x y) ∧ N L (.double (FP.ddiv x y) :: S') es k n | _ => False
theorem ok_ddiv (hM : gM X l0 cc own Ts R0) (hd : decode cc pc = .ok (.ddiv, 1)) : okO X pc (pc + 1) oDDiv := by
  obtain ⟨p, l, e, R, s, m, args, below, meth, c, D, cA, A, ag, ad0, Q, nL⟩ := X
  obtain ⟨hx, hb, hown, hts, hml, hlk, hY, hA, hR, hL0⟩ := hM
  have hK := hY.1
  intro J N hJ hN L S es k n h ad H locs ls hag hP hD hS hl
  unfold oDDiv at h
  split at h
  · obtain ⟨hz, h⟩ := h
    exact lv_ddiv hx hb hd hz (hN _ _ _ _ _ h ad H locs ls hag hP hD hS hl)
  · exact h.elim
def oDup : gO := fun J N L S es k n => match S with | v :: S' => gif (!(cat2 v)) (N L (v :: v :: S') es k n) | _ => False
theorem cat1_of {b : Bool} {P : Prop} (h : gif (!b) P) : b = false ∧ P := by
  cases b
  · exact ⟨rfl, h⟩
  · exact h.elim
theorem cat1 {v : Value} {ad : Nat → Nat} (h : cat2 v = false) : (gv ad v).category = 1 := by
  cases v <;> first | rfl | cases h
theorem ok_dup (hM : gM X l0 cc own Ts R0) (hd : decode cc pc = .ok (.dup, 1)) : okO X pc (pc + 1) oDup := by
  obtain ⟨p, l, e, R, s, m, args, below, meth, c, D, cA, A, ag, ad0, Q, nL⟩ := X
  obtain ⟨hx, hb, hown, hts, hml, hlk, hY, hA, hR, hL0⟩ := hM
  have hK := hY.1
  intro J N hJ hN L S es k n h ad H locs ls hag hP hD hS hl
  unfold oDup at h
  split at h
  · obtain ⟨hc, h⟩ := cat1_of h
    exact lv_dup hx hb hd (cat1 hc) (hN _ _ _ _ _ h ad H locs ls hag hP hD hS hl)
  · exact h.elim
def oPop : gO := fun J N L S es k n => match S with | v :: S' => gif (!(cat2 v)) (N L S' es k n) | _ => False
theorem ok_pop (hM : gM X l0 cc own Ts R0) (hd : decode cc pc = .ok (.pop, 1)) : okO X pc (pc + 1) oPop := by
  obtain ⟨p, l, e, R, s, m, args, below, meth, c, D, cA, A, ag, ad0, Q, nL⟩ := X
  obtain ⟨hx, hb, hown, hts, hml, hlk, hY, hA, hR, hL0⟩ := hM
  have hK := hY.1
  intro J N hJ hN L S es k n h ad H locs ls hag hP hD hS hl
  unfold oPop at h
  split at h
  · obtain ⟨hc, h⟩ := cat1_of h
    exact lv_pop hx hb hd (cat1 hc) (hN _ _ _ _ _ h ad H locs ls hag hP hD hS hl)
  · exact h.elim
def oDup2 : gO := fun J N L S es k n => match S with | v :: v' :: S' => gif (!(cat2 v)) (gif (!(cat2 v')) (N L (v :: v' :: v :: v' :: S') es k n)) | _ => False
theorem ok_dup2 (hM : gM X l0 cc own Ts R0) (hd : decode cc pc = .ok (.dup2, 1)) : okO X pc (pc + 1) oDup2 := by
  obtain ⟨p, l, e, R, s, m, args, below, meth, c, D, cA, A, ag, ad0, Q, nL⟩ := X
  obtain ⟨hx, hb, hown, hts, hml, hlk, hY, hA, hR, hL0⟩ := hM
  have hK := hY.1
  intro J N hJ hN L S es k n h ad H locs ls hag hP hD hS hl
  unfold oDup2 at h
  split at h
  · obtain ⟨hc, h⟩ := cat1_of h
    obtain ⟨hc', h⟩ := cat1_of h
    exact lv_dup2_11 hx hb hd (cat1 hc) (cat1 hc') (hN _ _ _ _ _ h ad H locs ls hag hP hD hS hl)
  · exact h.elim
def oICmp_eq (t : Nat) : gO := fun J N L S es k n => match S with | .int y :: .int x :: S' => (x = y → J t L S' es k n) ∧ (¬ x = y → N L S' es k n) | _ => False
theorem ok_icmp_eq (hM : gM X l0 cc own Ts R0) {off : Int} (t : Nat) (hd : decode cc pc = .ok (.if_icmp .eq off, 3)) (ht : (pc : Int) + off = (t : Int)) : okO X pc (pc + 3) (oICmp_eq t) := by
  obtain ⟨p, l, e, R, s, m, args, below, meth, c, D, cA, A, ag, ad0, Q, nL⟩ := X
  obtain ⟨hx, hb, hown, hts, hml, hlk, hY, hA, hR, hL0⟩ := hM
  have hK := hY.1
  intro J N hJ hN L S es k n h ad H locs ls hag hP hD hS hl
  unfold oICmp_eq at h
  split at h
  · exact lv_icmp_eq hx hb hd ht (fun hc => hJ _ _ _ _ _ _ (h.1 hc) ad H locs ls hag hP hD hS hl) (fun hc => hN _ _ _ _ _ (h.2 hc) ad H locs ls hag hP hD hS hl)
  · exact h.elim
def oIf_eq (t : Nat) : gO := fun J N L S es k n => match S with | .int x :: S' => (x = 0 → J t L S' es k n) ∧ (¬ x = 0 → N L S' es k n) | _ => False
theorem ok_if_eq (hM : gM X l0 cc own Ts R0) {off : Int} (t : Nat) (hd : decode cc pc = .ok (.ifCond .eq off, 3)) (ht : (pc : Int) + off = (t : Int)) : okO X pc (pc + 3) (oIf_eq t) := by
  obtain ⟨p, l, e, R, s, m, args, below, meth, c, D, cA, A, ag, ad0, Q, nL⟩ := X
  obtain ⟨hx, hb, hown, hts, hml, hlk, hY, hA, hR, hL0⟩ := hM
  have hK := hY.1
  intro J N hJ hN L S es k n h ad H locs ls hag hP hD hS hl
  unfold oIf_eq at h
  split at h
  · exact lv_if_eq hx hb hd ht (fun hc => hJ _ _ _ _ _ _ (h.1 hc) ad H locs ls hag hP hD hS hl) (fun hc => hN _ _ _ _ _ (h.2 hc) ad H locs ls hag hP hD hS hl)
  · exact h.elim
def oICmp_ne (t : Nat) : gO := fun J N L S es k n => match S with | .int y :: .int x :: S' => (¬ x = y → J t L S' es k n) ∧ (x = y → N L S' es k n) | _ => False
theorem ok_icmp_ne (hM : gM X l0 cc own Ts R0) {off : Int} (t : Nat) (hd : decode cc pc = .ok (.if_icmp .ne off, 3)) (ht : (pc : Int) + off = (t : Int)) : okO X pc (pc + 3) (oICmp_ne t) := by
  obtain ⟨p, l, e, R, s, m, args, below, meth, c, D, cA, A, ag, ad0, Q, nL⟩ := X
  obtain ⟨hx, hb, hown, hts, hml, hlk, hY, hA, hR, hL0⟩ := hM
  have hK := hY.1
  intro J N hJ hN L S es k n h ad H locs ls hag hP hD hS hl
  unfold oICmp_ne at h
  split at h
  · exact lv_icmp_ne hx hb hd ht (fun hc => hJ _ _ _ _ _ _ (h.1 hc) ad H locs ls hag hP hD hS hl) (fun hc => hN _ _ _ _ _ (h.2 hc) ad H locs ls hag hP hD hS hl)
  · exact h.elim
def oIf_ne (t : Nat) : gO := fun J N L S es k n => match S with | .int x :: S' => (¬ x = 0 → J t L S' es k n) ∧ (x = 0 → N L S' es k n) | _ => False
theorem ok_if_ne (hM : gM X l0 cc own Ts R0) {off : Int} (t : Nat) (hd : decode cc pc = .ok (.ifCond .ne off, 3)) (ht : (pc : Int) + off = (t : Int)) : okO X pc (pc + 3) (oIf_ne t) := by
  obtain ⟨p, l, e, R, s, m, args, below, meth, c, D, cA, A, ag, ad0, Q, nL⟩ := X
  obtain ⟨hx, hb, hown, hts, hml, hlk, hY, hA, hR, hL0⟩ := hM
  have hK := hY.1
  intro J N hJ hN L S es k n h ad H locs ls hag hP hD hS hl
  unfold oIf_ne at h
  split at h
  · exact lv_if_ne hx hb hd ht (fun hc => hJ _ _ _ _ _ _ (h.1 hc) ad H locs ls hag hP hD hS hl) (fun hc => hN _ _ _ _ _ (h.2 hc) ad H locs ls hag hP hD hS hl)
  · exact h.elim
def oICmp_lt (t : Nat) : gO := fun J N L S es k n => match S with | .int y :: .int x :: S' => (x < y → J t L S' es k n) ∧ (¬ x < y → N L S' es k n) | _ => False
theorem ok_icmp_lt (hM : gM X l0 cc own Ts R0) {off : Int} (t : Nat) (hd : decode cc pc = .ok (.if_icmp .lt off, 3)) (ht : (pc : Int) + off = (t : Int)) : okO X pc (pc + 3) (oICmp_lt t) := by
  obtain ⟨p, l, e, R, s, m, args, below, meth, c, D, cA, A, ag, ad0, Q, nL⟩ := X
  obtain ⟨hx, hb, hown, hts, hml, hlk, hY, hA, hR, hL0⟩ := hM
  have hK := hY.1
  intro J N hJ hN L S es k n h ad H locs ls hag hP hD hS hl
  unfold oICmp_lt at h
  split at h
  · exact lv_icmp_lt hx hb hd ht (fun hc => hJ _ _ _ _ _ _ (h.1 hc) ad H locs ls hag hP hD hS hl) (fun hc => hN _ _ _ _ _ (h.2 hc) ad H locs ls hag hP hD hS hl)
  · exact h.elim
def oIf_lt (t : Nat) : gO := fun J N L S es k n => match S with | .int x :: S' => (x < 0 → J t L S' es k n) ∧ (¬ x < 0 → N L S' es k n) | _ => False
theorem ok_if_lt (hM : gM X l0 cc own Ts R0) {off : Int} (t : Nat) (hd : decode cc pc = .ok (.ifCond .lt off, 3)) (ht : (pc : Int) + off = (t : Int)) : okO X pc (pc + 3) (oIf_lt t) := by
  obtain ⟨p, l, e, R, s, m, args, below, meth, c, D, cA, A, ag, ad0, Q, nL⟩ := X
  obtain ⟨hx, hb, hown, hts, hml, hlk, hY, hA, hR, hL0⟩ := hM
  have hK := hY.1
  intro J N hJ hN L S es k n h ad H locs ls hag hP hD hS hl
  unfold oIf_lt at h
  split at h
  · exact lv_if_lt hx hb hd ht (fun hc => hJ _ _ _ _ _ _ (h.1 hc) ad H locs ls hag hP hD hS hl) (fun hc => hN _ _ _ _ _ (h.2 hc) ad H locs ls hag hP hD hS hl)
  · exact h.elim
def oICmp_ge (t : Nat) : gO := fun J N L S es k n => match S with | .int y :: .int x :: S' => (y ≤ x → J t L S' es k n) ∧ (¬ y ≤ x → N L S' es k n) | _ => False
theorem ok_icmp_ge (hM : gM X l0 cc own Ts R0) {off : Int} (t : Nat) (hd : decode cc pc = .ok (.if_icmp .ge off, 3)) (ht : (pc : Int) + off = (t : Int)) : okO X pc (pc + 3) (oICmp_ge t) := by
  obtain ⟨p, l, e, R, s, m, args, below, meth, c, D, cA, A, ag, ad0, Q, nL⟩ := X
  obtain ⟨hx, hb, hown, hts, hml, hlk, hY, hA, hR, hL0⟩ := hM
  have hK := hY.1
  intro J N hJ hN L S es k n h ad H locs ls hag hP hD hS hl
  unfold oICmp_ge at h
  split at h
  · exact lv_icmp_ge hx hb hd ht (fun hc => hJ _ _ _ _ _ _ (h.1 hc) ad H locs ls hag hP hD hS hl) (fun hc => hN _ _ _ _ _ (h.2 hc) ad H locs ls hag hP hD hS hl)
  · exact h.elim
def oIf_ge (t : Nat) : gO := fun J N L S es k n => match S with | .int x :: S' => (0 ≤ x → J t L S' es k n) ∧ (¬ 0 ≤ x → N L S' es k n) | _ => False
theorem ok_if_ge (hM : gM X l0 cc own Ts R0) {off : Int} (t : Nat) (hd : decode cc pc = .ok (.ifCond .ge off, 3)) (ht : (pc : Int) + off = (t : Int)) : okO X pc (pc + 3) (oIf_ge t) := by
  obtain ⟨p, l, e, R, s, m, args, below, meth, c, D, cA, A, ag, ad0, Q, nL⟩ := X
  obtain ⟨hx, hb, hown, hts, hml, hlk, hY, hA, hR, hL0⟩ := hM
  have hK := hY.1
  intro J N hJ hN L S es k n h ad H locs ls hag hP hD hS hl
  unfold oIf_ge at h
  split at h
  · exact lv_if_ge hx hb hd ht (fun hc => hJ _ _ _ _ _ _ (h.1 hc) ad H locs ls hag hP hD hS hl) (fun hc => hN _ _ _ _ _ (h.2 hc) ad H locs ls hag hP hD hS hl)
  · exact h.elim
def oICmp_gt (t : Nat) : gO := fun J N L S es k n => match S with | .int y :: .int x :: S' => (y < x → J t L S' es k n) ∧ (¬ y < x → N L S' es k n) | _ => False
theorem ok_icmp_gt (hM : gM X l0 cc own Ts R0) {off : Int} (t : Nat) (hd : decode cc pc = .ok (.if_icmp .gt off, 3)) (ht : (pc : Int) + off = (t : Int)) : okO X pc (pc + 3) (oICmp_gt t) := by
  obtain ⟨p, l, e, R, s, m, args, below, meth, c, D, cA, A, ag, ad0, Q, nL⟩ := X
  obtain ⟨hx, hb, hown, hts, hml, hlk, hY, hA, hR, hL0⟩ := hM
  have hK := hY.1
  intro J N hJ hN L S es k n h ad H locs ls hag hP hD hS hl
  unfold oICmp_gt at h
  split at h
  · exact lv_icmp_gt hx hb hd ht (fun hc => hJ _ _ _ _ _ _ (h.1 hc) ad H locs ls hag hP hD hS hl) (fun hc => hN _ _ _ _ _ (h.2 hc) ad H locs ls hag hP hD hS hl)
  · exact h.elim
def oIf_gt (t : Nat) : gO := fun J N L S es k n => match S with | .int x :: S' => (0 < x → J t L S' es k n) ∧ (¬ 0 < x → N L S' es k n) | _ => False
theorem ok_if_gt (hM : gM X l0 cc own Ts R0) {off : Int} (t : Nat) (hd : decode cc pc = .ok (.ifCond .gt off, 3)) (ht : (pc : Int) + off = (t : Int)) : okO X pc (pc + 3) (oIf_gt t) := by
  obtain ⟨p, l, e, R, s, m, args, below, meth, c, D, cA, A, ag, ad0, Q, nL⟩ := X
  obtain ⟨hx, hb, hown, hts, hml, hlk, hY, hA, hR, hL0⟩ := hM
  have hK := hY.1
  intro J N hJ hN L S es k n h ad H locs ls hag hP hD hS hl
  unfold oIf_gt at h
  split at h
  · exact lv_if_gt hx hb hd ht (fun hc => hJ _ _ _ _ _ _ (h.1 hc) ad H locs ls hag hP hD hS hl) (fun hc => hN _ _ _ _ _ (h.2 hc) ad H locs ls hag hP hD hS hl)
  · exact h.elim
def oICmp_le (t : Nat) : gO := fun J N L S es k n => match S with | .int y :: .int x :: S' => (x ≤ y → J t L S' es k n) ∧ (¬ x ≤ y → N L S' es k n) | _ => False
theorem ok_icmp_le (hM : gM X l0 cc own Ts R0) {off : Int} (t : Nat) (hd : decode cc pc = .ok (.if_icmp .le off, 3)) (ht : (pc : Int) + off = (t : Int)) : okO X pc (pc + 3) (oICmp_le t) := by
  obtain ⟨p, l, e, R, s, m, args, below, meth, c, D, cA, A, ag, ad0, Q, nL⟩ := X
  obtain ⟨hx, hb, hown, hts, hml, hlk, hY, hA, hR, hL0⟩ := hM
  have hK := hY.1
  intro J N hJ hN L S es k n h ad H locs ls hag hP hD hS hl
  unfold oICmp_le at h
  split at h
  · exact lv_icmp_le hx hb hd ht (fun hc => hJ _ _ _ _ _ _ (h.1 hc) ad H locs ls hag hP hD hS hl) (fun hc => hN _ _ _ _ _ (h.2 hc) ad H locs ls hag hP hD hS hl)
  · exact h.elim
def oIf_le (t : Nat) : gO := fun J N L S es k n => match S with | .int x :: S' => (x ≤ 0 → J t L S' es k n) ∧ (¬ x ≤ 0 → N L S' es k n) | _ => False
theorem ok_if_le (hM : gM X l0 cc own Ts R0) {off : Int} (t : Nat) (hd : decode cc pc = .ok (.ifCond .le off, 3)) (ht : (pc : Int) + off = (t : Int)) : okO X pc (pc + 3) (oIf_le t) := by
  obtain ⟨p, l, e, R, s, m, args, below, meth, c, D, cA, A, ag, ad0, Q, nL⟩ := X
  obtain ⟨hx, hb, hown, hts, hml, hlk, hY, hA, hR, hL0⟩ := hM
  have hK := hY.1
  intro J N hJ hN L S es k n h ad H locs ls hag hP hD hS hl
  unfold oIf_le at h
  split at h
  · exact lv_if_le hx hb hd ht (fun hc => hJ _ _ _ _ _ _ (h.1 hc) ad H locs ls hag hP hD hS hl) (fun hc => hN _ _ _ _ _ (h.2 hc) ad H locs ls hag hP hD hS hl)
  · exact h.elim
def oGoto (t : Nat) : gO := fun J N L S es k n => J t L S es k n
theorem ok_goto (hM : gM X l0 cc own Ts R0) {nx : Nat} {off : Int} (t : Nat) (hd : decode cc pc = .ok (.goto off, 3)) (ht : (pc : Int) + off = (t : Int)) : okO X pc nx (oGoto t) := by
  obtain ⟨p, l, e, R, s, m, args, below, meth, c, D, cA, A, ag, ad0, Q, nL⟩ := X
  obtain ⟨hx, hb, hown, hts, hml, hlk, hY, hA, hR, hL0⟩ := hM
  have hK := hY.1
  intro J N hJ hN L S es k n h ad H locs ls hag hP hD hS hl
  exact lv_goto hx hb hd ht (hJ _ _ _ _ _ _ h ad H locs ls hag hP hD hS hl)
def eObj (es : List gE) (a ci : Nat) (F : List Value → Prop) : Prop := match gnth es a with | some (.inr (c, fs)) => gif (Nat.beq c ci) (F fs) | _ => False
def eInt (es : List gE) (a tg : Nat) (F : Nat → (Nat → Int32) → Prop) : Prop := match gnth es a with | some (.inl (t, sz, .inl f)) => gif (Nat.beq t tg && Nat.ble sz 100000) (F sz f) | _ => False
def eLng (es : List gE) (a tg : Nat) (F : Nat → (Nat → Int64) → Prop) : Prop := match gnth es a with | some (.inl (t, sz, .inr (.inl f))) => gif (Nat.beq t tg && Nat.ble sz 100000) (F sz f) | _ => False
def eDbl (es : List gE) (a tg : Nat) (F : Nat → (Nat → UInt64) → Prop) : Prop := match gnth es a with | some (.inl (t, sz, .inr (.inr (.inl f)))) => gif (Nat.beq t tg && Nat.ble sz 100000) (F sz f) | _ => False
def eRef (es : List gE) (a tg : Nat) (F : Nat → List (Option Nat) → Prop) : Prop := match gnth es a with | some (.inl (t, sz, .inr (.inr (.inr f)))) => gif (Nat.beq t tg && Nat.ble sz 100000) (F sz f) | _ => False
theorem sz_lt {sz : Nat} (h : Nat.ble sz 100000 = true) : sz < 2 ^ 31 := by
  have := Nat.le_of_ble_eq_true h
  omega
theorem eObj_ok {es : List gE} {a ci : Nat} {F : List Value → Prop} (h : eObj es a ci F) : ∃ fs, es[a]? = some (.inr (ci, fs)) ∧ F fs := by
  unfold eObj at h
  rw [← gnth_eq]
  cases hg : gnth es a with
  | none => rw [hg] at h; exact h.elim
  | some e =>
    rw [hg] at h
    rcases e with d | ⟨c, fs⟩
    · exact h.elim
    · obtain ⟨h1, h2⟩ := bif_t (b := Nat.beq c ci) (P := F fs) h
      have h1 := Nat.eq_of_beq_eq_true h1
      subst h1
      exact ⟨fs, rfl, h2⟩
theorem eInt_ok {es : List gE} {a tg : Nat} {F : Nat → (Nat → Int32) → Prop} (h : eInt es a tg F) : ∃ sz f, es[a]? = some (.inl (tg, sz, .inl f)) ∧ sz < 2 ^ 31 ∧ F sz f := by
  unfold eInt at h
  rw [← gnth_eq]
  cases hg : gnth es a with
  | none => rw [hg] at h; exact h.elim
  | some e =>
    rw [hg] at h
    rcases e with ⟨t, sz, f | d⟩ | ⟨c, fs⟩
    · obtain ⟨h1, h2⟩ := bif_t (b := Nat.beq t tg && Nat.ble sz 100000) (P := F sz f) h
      obtain ⟨h1, h3⟩ := and_t h1
      have h1 := Nat.eq_of_beq_eq_true h1
      subst h1
      exact ⟨sz, f, rfl, sz_lt h3, h2⟩
    · exact h.elim
    · exact h.elim
theorem eLng_ok {es : List gE} {a tg : Nat} {F : Nat → (Nat → Int64) → Prop} (h : eLng es a tg F) : ∃ sz f, es[a]? = some (.inl (tg, sz, .inr (.inl f))) ∧ sz < 2 ^ 31 ∧ F sz f := by
  unfold eLng at h
  rw [← gnth_eq]
  cases hg : gnth es a with
  | none => rw [hg] at h; exact h.elim
  | some e =>
    rw [hg] at h
    rcases e with ⟨t, sz, d | f | d⟩ | ⟨c, fs⟩
    · exact h.elim
    · obtain ⟨h1, h2⟩ := bif_t (b := Nat.beq t tg && Nat.ble sz 100000) (P := F sz f) h
      obtain ⟨h1, h3⟩ := and_t h1
      have h1 := Nat.eq_of_beq_eq_true h1
      subst h1
      exact ⟨sz, f, rfl, sz_lt h3, h2⟩
    · exact h.elim
    · exact h.elim
theorem eDbl_ok {es : List gE} {a tg : Nat} {F : Nat → (Nat → UInt64) → Prop} (h : eDbl es a tg F) : ∃ sz f, es[a]? = some (.inl (tg, sz, .inr (.inr (.inl f)))) ∧ sz < 2 ^ 31 ∧ F sz f := by
  unfold eDbl at h
  rw [← gnth_eq]
  cases hg : gnth es a with
  | none => rw [hg] at h; exact h.elim
  | some e =>
    rw [hg] at h
    rcases e with ⟨t, sz, d | d | f | d⟩ | ⟨c, fs⟩
    · exact h.elim
    · exact h.elim
    · obtain ⟨h1, h2⟩ := bif_t (b := Nat.beq t tg && Nat.ble sz 100000) (P := F sz f) h
      obtain ⟨h1, h3⟩ := and_t h1
      have h1 := Nat.eq_of_beq_eq_true h1
      subst h1
      exact ⟨sz, f, rfl, sz_lt h3, h2⟩
    · exact h.elim
    · exact h.elim
theorem eRef_ok {es : List gE} {a tg : Nat} {F : Nat → (List (Option Nat)) → Prop} (h : eRef es a tg F) : ∃ sz f, es[a]? = some (.inl (tg, sz, .inr (.inr (.inr f)))) ∧ sz < 2 ^ 31 ∧ F sz f := by
  unfold eRef at h
  rw [← gnth_eq]
  cases hg : gnth es a with
  | none => rw [hg] at h; exact h.elim
  | some e =>
    rw [hg] at h
    rcases e with ⟨t, sz, d | d | d | f⟩ | ⟨c, fs⟩
    · exact h.elim
    · exact h.elim
    · exact h.elim
    · obtain ⟨h1, h2⟩ := bif_t (b := Nat.beq t tg && Nat.ble sz 100000) (P := F sz f) h
      obtain ⟨h1, h3⟩ := and_t h1
      have h1 := Nat.eq_of_beq_eq_true h1
      subst h1
      exact ⟨sz, f, rfl, sz_lt h3, h2⟩
    · exact h.elim
def oGet (ci j : Nat) : gO := fun J N L S es k n => match S with | .ref a :: S' => eObj es a ci (fun fs => match vnth fs j with | some v => N L (v :: S') es k n | none => False) | _ => False
theorem ok_get (hM : gM X l0 cc own Ts R0) {ref C : String} {T : u_T} {Nf ci index : Nat} (hin : ∀ w ∈ u_ws C T Nf, w ∈ Ts) (hc : vwCl[ci]? = some (C, T, Nf)) (j : Nat) (hj : j < Nf) (hlink : (Cond.fieldLink own index ref (T j).2.1 (T j).2.2.1) ∈ Ts) (href : (T j).1 = ref) (hd : decode cc pc = .ok (.getfield index, 3)) : okO X pc (pc + 3) (oGet ci j) := by
  obtain ⟨p, l, e, R, s, m, args, below, meth, c, D, cA, A, ag, ad0, Q, nL⟩ := X
  obtain ⟨hx, hb, hown, hts, hml, hlk, hY, hA, hR, hL0⟩ := hM
  have hK := hY.1
  intro J N hJ hN L S es k n h ad H locs ls hag hP hD hS hl
  unfold oGet at h
  split at h
  · rename_i a S'
    obtain ⟨fs, hes, h⟩ := eObj_ok h
    split at h
    · rename_i v hv
      rw [vnth_eq] at hv
      exact va_get (fs := fs.map (gv ad)) hx hb hts hin hown hK hP a (gw_get hes) hc j hj (hts _ hlink) (fun x h9 => by rw [← href]; exact h9) (by rw [List.getElem?_map, hv]; rfl) hd (hN _ _ _ _ _ h ad H locs ls hag hP hD hS hl)
    · exact h.elim
  · exact h.elim
def oPutI (ci j : Nat) : gO := fun J N L S es k n => match S with | .int v :: .ref a :: S' => eObj es a ci (fun fs => gif (Nat.ble (j + 1) fs.length) (N L S' (es.set a (.inr (ci, fs.set j (.int v)))) k n)) | _ => False
theorem ok_putI (hM : gM X l0 cc own Ts R0) {ref C : String} {T : u_T} {Nf ci index : Nat} (hin : ∀ w ∈ u_ws C T Nf, w ∈ Ts) (ty0 : Nat → FieldType) (hty : ∀ k, k < Nf → parseFieldDescriptor (T k).2.2.1 = some (ty0 k)) (hnm : ∀ a, a < Nf → ∀ b, b < Nf → a ≠ b → (T a).2.1 ≠ (T b).2.1) (hc : vwCl[ci]? = some (C, T, Nf)) (j : Nat) (hj : j < Nf) (hlink : (Cond.fieldLink own index ref (T j).2.1 (T j).2.2.1) ∈ Ts) (href : (T j).1 = ref) (hfin : (T j).2.2.2 = false) (hty0 : parseFieldDescriptor (T j).2.2.1 = some .int) (hd : decode cc pc = .ok (.putfield index, 3)) : okO X pc (pc + 3) (oPutI ci j) := by
  obtain ⟨p, l, e, R, s, m, args, below, meth, c, D, cA, A, ag, ad0, Q, nL⟩ := X
  obtain ⟨hx, hb, hown, hts, hml, hlk, hY, hA, hR, hL0⟩ := hM
  have hK := hY.1
  intro J N hJ hN L S es k n h ad H locs ls hag hP hD hS hl
  unfold oPutI at h
  split at h
  · rename_i v a S'
    obtain ⟨fs, hes, h⟩ := eObj_ok h
    obtain ⟨hlen, h⟩ := bif_t h
    refine va_put (fs := fs.map (gv ad)) (v := gv ad (.int v)) (ty := .int) hx hb hts hin ty0 hty hnm hown hK hP hD hS a (gw_get hes) hc j hj (hts _ hlink) (fun x h9 => by rw [← href]; exact h9) hfin hty0 rfl rfl (by rw [List.length_map]; exact Nat.le_of_ble_eq_true hlen) hd (fun H1 locs1 hP1 hD1 hS1 => hN _ _ _ _ _ h ad H1 locs1 ls hag ?_ ?_ hS1 hl)
    · rw [← gw_set]; simp only [ge, List.map_set]; exact hP1
    · rw [← gw_set]; simp only [ge, List.map_set]; exact hD1
  · exact h.elim
def gInit (X : gX) : Prop := match X with | (_, _, _, _, _, _, _, _, meth, _) => meth.name = "<init>"
theorem ok_putIF (hM : gM X l0 cc own Ts R0) {ref C : String} {T : u_T} {Nf ci index : Nat} (hin : ∀ w ∈ u_ws C T Nf, w ∈ Ts) (ty0 : Nat → FieldType) (hty : ∀ k, k < Nf → parseFieldDescriptor (T k).2.2.1 = some (ty0 k)) (hnm : ∀ a, a < Nf → ∀ b, b < Nf → a ≠ b → (T a).2.1 ≠ (T b).2.1) (hc : vwCl[ci]? = some (C, T, Nf)) (j : Nat) (hj : j < Nf) (hlink : (Cond.fieldLink own index ref (T j).2.1 (T j).2.2.1) ∈ Ts) (href : (T j).1 = ref) (hfin : (T j).2.2.2 = true) (hin2 : gInit X) (hdecl : (T j).1 = own) (hty0 : parseFieldDescriptor (T j).2.2.1 = some .int) (hd : decode cc pc = .ok (.putfield index, 3)) : okO X pc (pc + 3) (oPutI ci j) := by
  obtain ⟨p, l, e, R, s, m, args, below, meth, c, D, cA, A, ag, ad0, Q, nL⟩ := X
  obtain ⟨hx, hb, hown, hts, hml, hlk, hY, hA, hR, hL0⟩ := hM
  have hK := hY.1
  intro J N hJ hN L S es k n h ad H locs ls hag hP hD hS hl
  unfold oPutI at h
  split at h
  · rename_i v a S'
    obtain ⟨fs, hes, h⟩ := eObj_ok h
    obtain ⟨hlen, h⟩ := bif_t h
    refine va_putF (fs := fs.map (gv ad)) (v := gv ad (.int v)) (ty := .int) hx hb hts hin ty0 hty hnm hown hK hP hD hS a (gw_get hes) hc j hj (hts _ hlink) (fun x h9 => by rw [← href]; exact h9) hfin hin2 hdecl hty0 rfl rfl (by rw [List.length_map]; exact Nat.le_of_ble_eq_true hlen) hd (fun H1 locs1 hP1 hD1 hS1 => hN _ _ _ _ _ h ad H1 locs1 ls hag ?_ ?_ hS1 hl)
    · rw [← gw_set]; simp only [ge, List.map_set]; exact hP1
    · rw [← gw_set]; simp only [ge, List.map_set]; exact hD1
  · exact h.elim
def oPutR (ci j : Nat) : gO := fun J N L S es k n => match S with | .ref v :: .ref a :: S' => eObj es a ci (fun fs => gif (Nat.ble (j + 1) fs.length) (N L S' (es.set a (.inr (ci, fs.set j (.ref v)))) k n)) | _ => False
theorem ok_putR (hM : gM X l0 cc own Ts R0) {ref C : String} {T : u_T} {Nf ci index : Nat} (hin : ∀ w ∈ u_ws C T Nf, w ∈ Ts) (ty0 : Nat → FieldType) (hty : ∀ k, k < Nf → parseFieldDescriptor (T k).2.2.1 = some (ty0 k)) (hnm : ∀ a, a < Nf → ∀ b, b < Nf → a ≠ b → (T a).2.1 ≠ (T b).2.1) (hc : vwCl[ci]? = some (C, T, Nf)) (j : Nat) (hj : j < Nf) (hlink : (Cond.fieldLink own index ref (T j).2.1 (T j).2.2.1) ∈ Ts) (href : (T j).1 = ref) (hfin : (T j).2.2.2 = false) {cn : String} (hty0 : parseFieldDescriptor (T j).2.2.1 = some (.object cn)) (hd : decode cc pc = .ok (.putfield index, 3)) : okO X pc (pc + 3) (oPutR ci j) := by
  obtain ⟨p, l, e, R, s, m, args, below, meth, c, D, cA, A, ag, ad0, Q, nL⟩ := X
  obtain ⟨hx, hb, hown, hts, hml, hlk, hY, hA, hR, hL0⟩ := hM
  have hK := hY.1
  intro J N hJ hN L S es k n h ad H locs ls hag hP hD hS hl
  unfold oPutR at h
  split at h
  · rename_i v a S'
    obtain ⟨fs, hes, h⟩ := eObj_ok h
    obtain ⟨hlen, h⟩ := bif_t h
    refine va_put (fs := fs.map (gv ad)) (v := gv ad (.ref v)) (ty := .object cn) hx hb hts hin ty0 hty hnm hown hK hP hD hS a (gw_get hes) hc j hj (hts _ hlink) (fun x h9 => by rw [← href]; exact h9) hfin hty0 rfl rfl (by rw [List.length_map]; exact Nat.le_of_ble_eq_true hlen) hd (fun H1 locs1 hP1 hD1 hS1 => hN _ _ _ _ _ h ad H1 locs1 ls hag ?_ ?_ hS1 hl)
    · rw [← gw_set]; simp only [ge, List.map_set]; exact hP1
    · rw [← gw_set]; simp only [ge, List.map_set]; exact hD1
  · exact h.elim
theorem ok_putRA (hM : gM X l0 cc own Ts R0) {ref C : String} {T : u_T} {Nf ci index : Nat} (hin : ∀ w ∈ u_ws C T Nf, w ∈ Ts) (ty0 : Nat → FieldType) (hty : ∀ k, k < Nf → parseFieldDescriptor (T k).2.2.1 = some (ty0 k)) (hnm : ∀ a, a < Nf → ∀ b, b < Nf → a ≠ b → (T a).2.1 ≠ (T b).2.1) (hc : vwCl[ci]? = some (C, T, Nf)) (j : Nat) (hj : j < Nf) (hlink : (Cond.fieldLink own index ref (T j).2.1 (T j).2.2.1) ∈ Ts) (href : (T j).1 = ref) (hfin : (T j).2.2.2 = false) {ct : FieldType} (hty0 : parseFieldDescriptor (T j).2.2.1 = some (.array ct)) (hd : decode cc pc = .ok (.putfield index, 3)) : okO X pc (pc + 3) (oPutR ci j) := by
  obtain ⟨p, l, e, R, s, m, args, below, meth, c, D, cA, A, ag, ad0, Q, nL⟩ := X
  obtain ⟨hx, hb, hown, hts, hml, hlk, hY, hA, hR, hL0⟩ := hM
  have hK := hY.1
  intro J N hJ hN L S es k n h ad H locs ls hag hP hD hS hl
  unfold oPutR at h
  split at h
  · rename_i v a S'
    obtain ⟨fs, hes, h⟩ := eObj_ok h
    obtain ⟨hlen, h⟩ := bif_t h
    refine va_put (fs := fs.map (gv ad)) (v := gv ad (.ref v)) (ty := .array ct) hx hb hts hin ty0 hty hnm hown hK hP hD hS a (gw_get hes) hc j hj (hts _ hlink) (fun x h9 => by rw [← href]; exact h9) hfin hty0 rfl rfl (by rw [List.length_map]; exact Nat.le_of_ble_eq_true hlen) hd (fun H1 locs1 hP1 hD1 hS1 => hN _ _ _ _ _ h ad H1 locs1 ls hag ?_ ?_ hS1 hl)
    · rw [← gw_set]; simp only [ge, List.map_set]; exact hP1
    · rw [← gw_set]; simp only [ge, List.map_set]; exact hD1
  · exact h.elim
theorem ok_putRF (hM : gM X l0 cc own Ts R0) {ref C : String} {T : u_T} {Nf ci index : Nat} (hin : ∀ w ∈ u_ws C T Nf, w ∈ Ts) (ty0 : Nat → FieldType) (hty : ∀ k, k < Nf → parseFieldDescriptor (T k).2.2.1 = some (ty0 k)) (hnm : ∀ a, a < Nf → ∀ b, b < Nf → a ≠ b → (T a).2.1 ≠ (T b).2.1) (hc : vwCl[ci]? = some (C, T, Nf)) (j : Nat) (hj : j < Nf) (hlink : (Cond.fieldLink own index ref (T j).2.1 (T j).2.2.1) ∈ Ts) (href : (T j).1 = ref) (hfin : (T j).2.2.2 = true) (hin2 : gInit X) (hdecl : (T j).1 = own) {cn : String} (hty0 : parseFieldDescriptor (T j).2.2.1 = some (.object cn)) (hd : decode cc pc = .ok (.putfield index, 3)) : okO X pc (pc + 3) (oPutR ci j) := by
  obtain ⟨p, l, e, R, s, m, args, below, meth, c, D, cA, A, ag, ad0, Q, nL⟩ := X
  obtain ⟨hx, hb, hown, hts, hml, hlk, hY, hA, hR, hL0⟩ := hM
  have hK := hY.1
  intro J N hJ hN L S es k n h ad H locs ls hag hP hD hS hl
  unfold oPutR at h
  split at h
  · rename_i v a S'
    obtain ⟨fs, hes, h⟩ := eObj_ok h
    obtain ⟨hlen, h⟩ := bif_t h
    refine va_putF (fs := fs.map (gv ad)) (v := gv ad (.ref v)) (ty := .object cn) hx hb hts hin ty0 hty hnm hown hK hP hD hS a (gw_get hes) hc j hj (hts _ hlink) (fun x h9 => by rw [← href]; exact h9) hfin hin2 hdecl hty0 rfl rfl (by rw [List.length_map]; exact Nat.le_of_ble_eq_true hlen) hd (fun H1 locs1 hP1 hD1 hS1 => hN _ _ _ _ _ h ad H1 locs1 ls hag ?_ ?_ hS1 hl)
    · rw [← gw_set]; simp only [ge, List.map_set]; exact hP1
    · rw [← gw_set]; simp only [ge, List.map_set]; exact hD1
  · exact h.elim
theorem ok_putRAF (hM : gM X l0 cc own Ts R0) {ref C : String} {T : u_T} {Nf ci index : Nat} (hin : ∀ w ∈ u_ws C T Nf, w ∈ Ts) (ty0 : Nat → FieldType) (hty : ∀ k, k < Nf → parseFieldDescriptor (T k).2.2.1 = some (ty0 k)) (hnm : ∀ a, a < Nf → ∀ b, b < Nf → a ≠ b → (T a).2.1 ≠ (T b).2.1) (hc : vwCl[ci]? = some (C, T, Nf)) (j : Nat) (hj : j < Nf) (hlink : (Cond.fieldLink own index ref (T j).2.1 (T j).2.2.1) ∈ Ts) (href : (T j).1 = ref) (hfin : (T j).2.2.2 = true) (hin2 : gInit X) (hdecl : (T j).1 = own) {ct : FieldType} (hty0 : parseFieldDescriptor (T j).2.2.1 = some (.array ct)) (hd : decode cc pc = .ok (.putfield index, 3)) : okO X pc (pc + 3) (oPutR ci j) := by
  obtain ⟨p, l, e, R, s, m, args, below, meth, c, D, cA, A, ag, ad0, Q, nL⟩ := X
  obtain ⟨hx, hb, hown, hts, hml, hlk, hY, hA, hR, hL0⟩ := hM
  have hK := hY.1
  intro J N hJ hN L S es k n h ad H locs ls hag hP hD hS hl
  unfold oPutR at h
  split at h
  · rename_i v a S'
    obtain ⟨fs, hes, h⟩ := eObj_ok h
    obtain ⟨hlen, h⟩ := bif_t h
    refine va_putF (fs := fs.map (gv ad)) (v := gv ad (.ref v)) (ty := .array ct) hx hb hts hin ty0 hty hnm hown hK hP hD hS a (gw_get hes) hc j hj (hts _ hlink) (fun x h9 => by rw [← href]; exact h9) hfin hin2 hdecl hty0 rfl rfl (by rw [List.length_map]; exact Nat.le_of_ble_eq_true hlen) hd (fun H1 locs1 hP1 hD1 hS1 => hN _ _ _ _ _ h ad H1 locs1 ls hag ?_ ?_ hS1 hl)
    · rw [← gw_set]; simp only [ge, List.map_set]; exact hP1
    · rw [← gw_set]; simp only [ge, List.map_set]; exact hD1
  · exact h.elim
def oIALd (tg : Nat) : gO := fun J N L S es k n => match S with | .int i :: .ref a :: S' => eInt es a tg (fun sz f => ∃ j : Nat, i = nI j ∧ j < sz ∧ N L (.int (f j) :: S') es k n) | _ => False
theorem ok_iald (hM : gM X l0 cc own Ts R0) (hd : decode cc pc = .ok (.iaload, 1)) : okO X pc (pc + 1) (oIALd 0) := by
  obtain ⟨p, l, e, R, s, m, args, below, meth, c, D, cA, A, ag, ad0, Q, nL⟩ := X
  obtain ⟨hx, hb, hown, hts, hml, hlk, hY, hA, hR, hL0⟩ := hM
  have hK := hY.1
  intro J N hJ hN L S es k n h ad H locs ls hag hP hD hS hl
  unfold oIALd at h
  split at h
  · rename_i i a S'
    obtain ⟨sz, f, hes, hsz, j, rfl, hj, h⟩ := eInt_ok h
    have hc9 : (nI j).toNatClampNeg = j := nI_clamp (Nat.lt_trans hj hsz)
    exact va_iald hx hb hK hP a 0 (gw_get hes) rfl (vp_in_nI hj hsz) hd (by rw [hc9]; exact hN _ _ _ _ _ h ad H locs ls hag hP hD hS hl)
  · exact h.elim
theorem ok_cald (hM : gM X l0 cc own Ts R0) (hd : decode cc pc = .ok (.caload, 1)) : okO X pc (pc + 1) (oIALd 1) := by
  obtain ⟨p, l, e, R, s, m, args, below, meth, c, D, cA, A, ag, ad0, Q, nL⟩ := X
  obtain ⟨hx, hb, hown, hts, hml, hlk, hY, hA, hR, hL0⟩ := hM
  have hK := hY.1
  intro J N hJ hN L S es k n h ad H locs ls hag hP hD hS hl
  unfold oIALd at h
  split at h
  · rename_i i a S'
    obtain ⟨sz, f, hes, hsz, j, rfl, hj, h⟩ := eInt_ok h
    have hc9 : (nI j).toNatClampNeg = j := nI_clamp (Nat.lt_trans hj hsz)
    exact va_cald hx hb hK hP a 1 (gw_get hes) rfl (vp_in_nI hj hsz) hd (by rw [hc9]; exact hN _ _ _ _ _ h ad H locs ls hag hP hD hS hl)
  · exact h.elim
theorem ok_zald (hM : gM X l0 cc own Ts R0) (hd : decode cc pc = .ok (.baload, 1)) : okO X pc (pc + 1) (oIALd 2) := by
  obtain ⟨p, l, e, R, s, m, args, below, meth, c, D, cA, A, ag, ad0, Q, nL⟩ := X
  obtain ⟨hx, hb, hown, hts, hml, hlk, hY, hA, hR, hL0⟩ := hM
  have hK := hY.1
  intro J N hJ hN L S es k n h ad H locs ls hag hP hD hS hl
  unfold oIALd at h
  split at h
  · rename_i i a S'
    obtain ⟨sz, f, hes, hsz, j, rfl, hj, h⟩ := eInt_ok h
    have hc9 : (nI j).toNatClampNeg = j := nI_clamp (Nat.lt_trans hj hsz)
    exact va_zald hx hb hK hP a 2 (gw_get hes) rfl (vp_in_nI hj hsz) hd (by rw [hc9]; exact hN _ _ _ _ _ h ad H locs ls hag hP hD hS hl)
  · exact h.elim
def oIASt : gO := fun J N L S es k n => match S with | .int x :: .int i :: .ref a :: S' => eInt es a 0 (fun sz f => ∃ j : Nat, i = nI j ∧ j < sz ∧ N L S' (es.set a (.inl (0, sz, .inl (upd f j x)))) k n) | _ => False
theorem ok_iast (hM : gM X l0 cc own Ts R0) (hd : decode cc pc = .ok (.iastore, 1)) : okO X pc (pc + 1) oIASt := by
  obtain ⟨p, l, e, R, s, m, args, below, meth, c, D, cA, A, ag, ad0, Q, nL⟩ := X
  obtain ⟨hx, hb, hown, hts, hml, hlk, hY, hA, hR, hL0⟩ := hM
  have hK := hY.1
  intro J N hJ hN L S es k n h ad H locs ls hag hP hD hS hl
  unfold oIASt at h
  split at h
  · rename_i x i a S'
    obtain ⟨sz, f, hes, hsz, j, rfl, hj, h⟩ := eInt_ok h
    have hc9 : (nI j).toNatClampNeg = j := nI_clamp (Nat.lt_trans hj hsz)
    refine va_iast hx hb hK hP hD hS a 0 (gw_get hes) rfl (vp_in_nI hj hsz) hd (fun H1 locs1 hP1 hD1 hS1 => hN _ _ _ _ _ h ad H1 locs1 ls hag ?_ ?_ hS1 hl)
    · rw [hc9] at hP1
      rw [← gw_set]
      exact hP1
    · rw [hc9] at hD1
      rw [← gw_set]
      exact hD1
  · exact h.elim
def oCASt : gO := fun J N L S es k n => match S with | .int x :: .int i :: .ref a :: S' => eInt es a 1 (fun sz f => ∃ j : Nat, i = nI j ∧ j < sz ∧ vp_nar .char x = x ∧ N L S' (es.set a (.inl (1, sz, .inl (upd f j x)))) k n) | _ => False
theorem ok_cast (hM : gM X l0 cc own Ts R0) (hd : decode cc pc = .ok (.castore, 1)) : okO X pc (pc + 1) oCASt := by
  obtain ⟨p, l, e, R, s, m, args, below, meth, c, D, cA, A, ag, ad0, Q, nL⟩ := X
  obtain ⟨hx, hb, hown, hts, hml, hlk, hY, hA, hR, hL0⟩ := hM
  have hK := hY.1
  intro J N hJ hN L S es k n h ad H locs ls hag hP hD hS hl
  unfold oCASt at h
  split at h
  · rename_i x i a S'
    obtain ⟨sz, f, hes, hsz, j, rfl, hj, hnr, h⟩ := eInt_ok h
    have hc9 : (nI j).toNatClampNeg = j := nI_clamp (Nat.lt_trans hj hsz)
    refine va_cast hx hb hK hP hD hS a 1 (gw_get hes) rfl (vp_in_nI hj hsz) hd (fun H1 locs1 hP1 hD1 hS1 => hN _ _ _ _ _ h ad H1 locs1 ls hag ?_ ?_ hS1 hl)
    · rw [hc9, hnr] at hP1
      rw [← gw_set]
      exact hP1
    · rw [hc9, hnr] at hD1
      rw [← gw_set]
      exact hD1
  · exact h.elim
def oZASt : gO := fun J N L S es k n => match S with | .int x :: .int i :: .ref a :: S' => eInt es a 2 (fun sz f => ∃ j : Nat, i = nI j ∧ j < sz ∧ vp_nar .boolean x = x ∧ N L S' (es.set a (.inl (2, sz, .inl (upd f j x)))) k n) | _ => False
theorem ok_zast (hM : gM X l0 cc own Ts R0) (hd : decode cc pc = .ok (.bastore, 1)) : okO X pc (pc + 1) oZASt := by
  obtain ⟨p, l, e, R, s, m, args, below, meth, c, D, cA, A, ag, ad0, Q, nL⟩ := X
  obtain ⟨hx, hb, hown, hts, hml, hlk, hY, hA, hR, hL0⟩ := hM
  have hK := hY.1
  intro J N hJ hN L S es k n h ad H locs ls hag hP hD hS hl
  unfold oZASt at h
  split at h
  · rename_i x i a S'
    obtain ⟨sz, f, hes, hsz, j, rfl, hj, hnr, h⟩ := eInt_ok h
    have hc9 : (nI j).toNatClampNeg = j := nI_clamp (Nat.lt_trans hj hsz)
    refine va_zast hx hb hK hP hD hS a 2 (gw_get hes) rfl (vp_in_nI hj hsz) hd (fun H1 locs1 hP1 hD1 hS1 => hN _ _ _ _ _ h ad H1 locs1 ls hag ?_ ?_ hS1 hl)
    · rw [hc9, hnr] at hP1
      rw [← gw_set]
      exact hP1
    · rw [hc9, hnr] at hD1
      rw [← gw_set]
      exact hD1
  · exact h.elim
def oAALd : gO := fun J N L S es k n => match S with | .int i :: .ref a :: S' => eRef es a 5 (fun sz r => ∃ j : Nat, i = nI j ∧ j < sz ∧ (match rnth r j with | some (some q) => N L (.ref q :: S') es k n | _ => False)) | _ => False
theorem ok_aald (hM : gM X l0 cc own Ts R0) (hd : decode cc pc = .ok (.aaload, 1)) : okO X pc (pc + 1) oAALd := by
  obtain ⟨p, l, e, R, s, m, args, below, meth, c, D, cA, A, ag, ad0, Q, nL⟩ := X
  obtain ⟨hx, hb, hown, hts, hml, hlk, hY, hA, hR, hL0⟩ := hM
  have hK := hY.1
  intro J N hJ hN L S es k n h ad H locs ls hag hP hD hS hl
  unfold oAALd at h
  split at h
  · rename_i i a S'
    obtain ⟨sz, r, hes, hsz, j, rfl, hj, h⟩ := eRef_ok h
    split at h
    · rename_i q hq
      rw [rnth_eq] at hq
      have hc9 : (nI j).toNatClampNeg = j := nI_clamp (Nat.lt_trans hj hsz)
      have hq9 : r.getD j none = some q := by rw [List.getD_eq_getElem?_getD, hq]; rfl
      exact va_aldq (C := RX4) hx hb hK hP a 5 (gw_get hes) rfl (vp_in_nI hj hsz) hd (by rw [hc9]; simp only [hq9]; exact hN _ _ _ _ _ h ad H locs ls hag hP hD hS hl)
    · exact h.elim
  · exact h.elim
def oALen : gO := fun J N L S es k n => match S with | .ref a :: S' => eInt es a 0 (fun sz _ => N L (.int (nI sz) :: S') es k n) | _ => False
theorem ok_alen (hM : gM X l0 cc own Ts R0) (hd : decode cc pc = .ok (.arraylength, 1)) : okO X pc (pc + 1) oALen := by
  obtain ⟨p, l, e, R, s, m, args, below, meth, c, D, cA, A, ag, ad0, Q, nL⟩ := X
  obtain ⟨hx, hb, hown, hts, hml, hlk, hY, hA, hR, hL0⟩ := hM
  have hK := hY.1
  intro J N hJ hN L S es k n h ad H locs ls hag hP hD hS hl
  unfold oALen at h
  split at h
  · rename_i a S'
    obtain ⟨sz, f, hes, hsz, h⟩ := eInt_ok h
    exact va_alen (x := (sz, .inl f)) hx hb hK hP a 0 (gw_get hes) rfl rfl hd (hN _ _ _ _ _ h ad H locs ls hag hP hD hS hl)
  · exact h.elim
def scat : List Value → Nat
  | [] => 0
  | v :: S => (bif cat2 v then 2 else 1) + scat S
theorem scat_eq (ad : Nat → Nat) : ∀ S : List Value, ((S.map (gv ad)).map fun v => v.category).sum = scat S
  | [] => rfl
  | v :: S => by
    have := scat_eq ad S
    simp only [List.map_cons, List.sum_cons, scat, this]
    cases v <;> rfl
def oCopy (rl : Nat) : gO := fun J N L S es k n => match S with | .int z :: .int dp :: .ref b :: .int sp :: .ref a :: S' => eInt es a 0 (fun sz f => eInt es b 0 (fun sz' g => gif (Nat.ble (scat S' + 40) rl) (∃ zz : Nat, z = nI zz ∧ sp = nI 0 ∧ dp = nI 0 ∧ zz ≤ sz ∧ zz ≤ sz' ∧ N L S' (es.set b (.inl (0, sz', .inl (va_cpy f g 0 0 zz)))) k n))) | _ => False
theorem ok_copy (hM : gM X l0 cc own Ts R0) {index : Nat} (hlink : (Cond.methodLink own index arraycopyName) ∈ Ts) (hnat : (Cond.native arraycopyName) ∈ Ts) (hstat : (Cond.static arraycopyName) ∈ Ts) (hini : (Cond.initialized "java/lang/System") ∈ Ts) (hfr : 1 ≤ R0.frames) (hw40 : nativeFrameWords "java/lang/System" "arraycopy" 5 + 11 ≤ 40) (hd : decode cc pc = .ok (.invokestatic index, 3)) : okO X pc (pc + 3) (oCopy R0.locals) := by
  obtain ⟨p, l, e, R, s, m, args, below, meth, c, D, cA, A, ag, ad0, Q, nL⟩ := X
  obtain ⟨hx, hb, hown, hts, hml, hlk, hY, hA, hR, hL0⟩ := hM
  have hK := hY.1
  intro J N hJ hN L S es k n h ad H locs ls hag hP hD hS hl
  subst hR
  unfold oCopy at h
  split at h
  · rename_i z dp b sp a S'
    obtain ⟨sz, f, hes, hsz, h⟩ := eInt_ok h
    obtain ⟨sz', g, hes', hsz', h⟩ := eInt_ok h
    obtain ⟨h5, h⟩ := bif_t h
    obtain ⟨zz, rfl, rfl, rfl, hz1, hz2, h⟩ := h
    have hzz : zz < 2 ^ 31 := Nat.lt_of_le_of_lt hz1 hsz
    have c0 : (nI 0).toNatClampNeg = 0 := nI_clamp (by decide)
    have cz : (nI zz).toNatClampNeg = zz := nI_clamp hzz
    have h5 := Nat.le_of_ble_eq_true h5
    refine va_copyi (ty := .int) (c0 := cA 0) (c1 := cA 0) hx hb (hml.trans hl.1.symm) hown (hts _ hlink) (hts _ hnat) (hts _ hstat) (hts _ hini) hK hP hD hS a b 0 0 (gw_get hes) (gw_get hes') rfl rfl rfl (nI_pos (by decide)) (nI_pos (by decide)) (nI_pos hzz) (by rw [c0, cz]; omega) (by rw [c0, cz]; omega) (fun _ _ => rfl) hfr (by rw [scat_eq]; omega) hd (fun H1 locs1 hP1 hD1 hS1 => hN _ _ _ _ _ h ad H1 locs1 ls hag ?_ ?_ hS1 hl)
    · rw [c0, cz] at hP1
      rw [← gw_set]
      exact hP1
    · rw [c0, cz] at hD1
      rw [← gw_set]
      exact hD1
  · exact h.elim
def oMax (rl rc rs : Nat) : gO := fun J N L S es k n => match S with | .int y :: .int x :: S' => gif (Nat.ble (scat S' + 13) rl && (Nat.ble k rc && Nat.ble n rs)) (N L (.int (if x < y then y else x) :: S') es k n) | _ => False
theorem ok_max (hM : gM X l0 cc own Ts R0) {index : Nat} (hlink : (Cond.methodLink own index Lib.Math.max.name) ∈ Ts) (hstat : (Cond.static Lib.Math.max.name) ∈ Ts) (hini : (Cond.initialized "java/lang/Math") ∈ Ts) (hcode : (Cond.code Lib.Math.max.name Lib.Math.max.code 2 (some .int)) ∈ Ts) (hfr : 1 ≤ R0.frames) (hd : decode cc pc = .ok (.invokestatic index, 3)) : okO X pc (pc + 3) (oMax R0.locals R0.cells R0.slots) := by
  obtain ⟨p, l, e, R, s, m, args, below, meth, c, D, cA, A, ag, ad0, Q, nL⟩ := X
  obtain ⟨hx, hb, hown, hts, hml, hlk, hY, hA, hR, hL0⟩ := hM
  have hK := hY.1
  intro J N hJ hN L S es k n h ad H locs ls hag hP hD hS hl
  subst hR
  unfold oMax at h
  split at h
  · obtain ⟨hcc, h⟩ := bif_t h
    obtain ⟨h1, hcc⟩ := and_t hcc
    obtain ⟨h2, h3⟩ := and_t hcc
    exact va_mmax hx hb (hml.trans hl.1.symm) hown (hts _ hlink) (hts _ hstat) (hts _ hini) (hts _ hcode) hfr (by rw [scat_eq]; exact Nat.le_of_ble_eq_true h1) (Nat.le_of_ble_eq_true h2) (Nat.le_of_ble_eq_true h3) hd (hN _ _ _ _ _ h ad H locs ls hag hP hD hS hl)
  · exact h.elim
def oRet (K : gK) (mc ms : Nat) : gO := fun J N L S es k n => match S with | [.int r] => gif (Nat.ble k mc && Nat.ble n ms) (K (some (.int r)) es) | _ => False
def oRetZ (K : gK) (mc ms : Nat) : gO := fun J N L S es k n => match S with | [.int r] => gif (Nat.ble k mc && Nat.ble n ms) ((r = 0 ∨ r = 1) ∧ K (some (.int r)) es) | _ => False
def oRetD (K : gK) (mc ms : Nat) : gO := fun J N L S es k n => match S with | [.double r] => gif (Nat.ble k mc && Nat.ble n ms) (K (some (.double r)) es) | _ => False
def oRetV (K : gK) (mc ms : Nat) : gO := fun J N L S es k n => match S with | [] => gif (Nat.ble k mc && Nat.ble n ms) (K none es) | _ => False
theorem ok_ret (hM : gM X l0 cc own Ts R0) {nx : Nat} {K : gK} {mc ms : Nat} (hE : gR X K mc ms (some .int)) (hd : decode cc pc = .ok (.ireturn, 1)) : okO X pc nx (oRet K mc ms) := by
  obtain ⟨p, l, e, R, s, m, args, below, meth, c, D, cA, A, ag, ad0, Q, nL⟩ := X
  obtain ⟨hx, hb, hown, hts, hml, hlk, hY, hA, hR, hL0⟩ := hM
  have hK := hY.1
  intro J N hJ hN L S es k n h ad H locs ls hag hP hD hS hl
  obtain ⟨hret, hE⟩ := hE
  unfold oRet at h
  split at h
  · obtain ⟨hcc, h⟩ := bif_t h
    obtain ⟨h1, h2⟩ := and_t hcc
    skip
    refine W.widen (Nat.le_of_ble_eq_true h1) (Nat.le_of_ble_eq_true h2) (hE _ _ _ ?_)
    exact W.iret hx hb hret (fun t ht hW => ⟨⟨some (.int _), es, ad, rfl, h, hag, by rw [ht]; exact hP, hD⟩, hS.F ht⟩) hS.2.2 hd hlk
  · exact h.elim
theorem ok_retZ (hM : gM X l0 cc own Ts R0) {nx : Nat} {K : gK} {mc ms : Nat} (hE : gR X K mc ms (some .boolean)) (hd : decode cc pc = .ok (.ireturn, 1)) : okO X pc nx (oRetZ K mc ms) := by
  obtain ⟨p, l, e, R, s, m, args, below, meth, c, D, cA, A, ag, ad0, Q, nL⟩ := X
  obtain ⟨hx, hb, hown, hts, hml, hlk, hY, hA, hR, hL0⟩ := hM
  have hK := hY.1
  intro J N hJ hN L S es k n h ad H locs ls hag hP hD hS hl
  obtain ⟨hret, hE⟩ := hE
  unfold oRetZ at h
  split at h
  · obtain ⟨hcc, h⟩ := bif_t h
    obtain ⟨h1, h2⟩ := and_t hcc
    obtain ⟨hz, h⟩ := h
    refine W.widen (Nat.le_of_ble_eq_true h1) (Nat.le_of_ble_eq_true h2) (hE _ _ _ ?_)
    exact W.zret hx hb hret (by rcases hz with rfl | rfl <;> rfl) (fun t ht hW => ⟨⟨some (.int _), es, ad, rfl, h, hag, by rw [ht]; exact hP, hD⟩, hS.F ht⟩) hS.2.2 hd hlk
  · exact h.elim
theorem ok_retD (hM : gM X l0 cc own Ts R0) {nx : Nat} {K : gK} {mc ms : Nat} (hE : gR X K mc ms (some .double)) (hd : decode cc pc = .ok (.dreturn, 1)) : okO X pc nx (oRetD K mc ms) := by
  obtain ⟨p, l, e, R, s, m, args, below, meth, c, D, cA, A, ag, ad0, Q, nL⟩ := X
  obtain ⟨hx, hb, hown, hts, hml, hlk, hY, hA, hR, hL0⟩ := hM
  have hK := hY.1
  intro J N hJ hN L S es k n h ad H locs ls hag hP hD hS hl
  obtain ⟨hret, hE⟩ := hE
  unfold oRetD at h
  split at h
  · obtain ⟨hcc, h⟩ := bif_t h
    obtain ⟨h1, h2⟩ := and_t hcc
    skip
    refine W.widen (Nat.le_of_ble_eq_true h1) (Nat.le_of_ble_eq_true h2) (hE _ _ _ ?_)
    exact W.dret hx hb hret (fun t ht hW => ⟨⟨some (.double _), es, ad, rfl, h, hag, by rw [ht]; exact hP, hD⟩, hS.F ht⟩) hS.2.2 hd hlk
  · exact h.elim
theorem ok_retV (hM : gM X l0 cc own Ts R0) {nx : Nat} {K : gK} {mc ms : Nat} (hE : gR X K mc ms none) (hd : decode cc pc = .ok (.return_, 1)) : okO X pc nx (oRetV K mc ms) := by
  obtain ⟨p, l, e, R, s, m, args, below, meth, c, D, cA, A, ag, ad0, Q, nL⟩ := X
  obtain ⟨hx, hb, hown, hts, hml, hlk, hY, hA, hR, hL0⟩ := hM
  have hK := hY.1
  intro J N hJ hN L S es k n h ad H locs ls hag hP hD hS hl
  obtain ⟨hret, hE⟩ := hE
  unfold oRetV at h
  split at h
  · obtain ⟨hcc, h⟩ := bif_t h
    obtain ⟨h1, h2⟩ := and_t hcc
    skip
    refine W.widen (Nat.le_of_ble_eq_true h1) (Nat.le_of_ble_eq_true h2) (hE _ _ _ ?_)
    exact W.vret hx hb hret (fun t ht hW => ⟨⟨none, es, ad, rfl, h, hag, by rw [ht]; exact hP, hD⟩, hS.F ht⟩) hS.2.2 hd hlk
  · exact h.elim
end GS
