abbrev zheard (L n : Int32) : Prop := (L >>> (n &&& 31)) &&& 1 = 1
def zsum (f : Nat → Int32) (fi : Int32) : Nat → Int32
  | 0 => fi
  | k + 1 => if zsum f fi k + f k ≤ 255 then zsum f fi k + f k else zsum f fi k + f k - 255
theorem zsum_le {f : Nat → Int32} {fi : Int32} {k : Nat} (h : zsum f fi k + f k ≤ 255) : zsum f fi (k + 1) = zsum f fi k + f k := if_pos h
theorem zsum_gs {f : Nat → Int32} {fi : Int32} {k : Nat} (h : ¬ zsum f fi k + f k ≤ 255) : zsum f fi (k + 1) = zsum f fi k + f k - 255 := if_neg h
theorem zsum_gt {f : Nat → Int32} {fi : Int32} {k : Nat} (h : ¬ zsum f fi k + f k ≤ 255) : zsum f fi (k + 1) = zsum f fi k + f k + (-255) := (if_neg h).trans (Int32.sub_eq_add_neg _ _)
theorem zsum_congr {f g : Nat → Int32} {fi : Int32} : ∀ {n : Nat}, (∀ k, k < n → f k = g k) → zsum f fi n = zsum g fi n := by
  intro n
  induction n with
  | zero => intro _; rfl
  | succ n ih =>
    intro h
    have e := ih (fun k hk => h k (by omega))
    show (if zsum f fi n + f n ≤ 255 then _ else _) = (if zsum g fi n + g n ≤ 255 then _ else _)
    rw [e, h n (by omega)]
def zshr (b : Int64) : Nat → Int64
  | 0 => b
  | k + 1 => ((zshr b k).toUInt64 >>> ((8 : Int32).toInt64.toUInt64 &&& Int64.toUInt64 63)).toInt64
def zbl (b : Int64) (k : Nat) : Int32 := ((zshr b k) &&& 255).toInt32
def zenh (e : Int32) (j : Nat) : Int32 := if e = 0 ∨ 60 ≤ nI j then 0 else 1
theorem zenh_1 {e : Int32} {j : Nat} (h : ¬ e = 0) (c : ¬ 60 ≤ nI j) : 1 = zenh e j := (if_neg (fun z => z.elim h c)).symm
theorem zenh_0 {e : Int32} {j : Nat} (h : e = 0) : 0 = zenh e j := (if_pos (Or.inl h)).symm
theorem zenh_60 {e : Int32} {j : Nat} (c : 60 ≤ nI j) : 0 = zenh e j := (if_pos (Or.inr c)).symm
def zpid (n : Int32) : Int32 := ((((n + ((64 * ((((((((n ^^^ ((n >>> ((1 : Int32) &&& 31))))) ^^^ ((n >>> ((2 : Int32) &&& 31))))) ^^^ ((n >>> ((4 : Int32) &&& 31))))) &&& 1)))))) + ((128 * ((((((((((((n >>> ((1 : Int32) &&& 31))) ^^^ ((n >>> ((3 : Int32) &&& 31))))) ^^^ ((n >>> ((4 : Int32) &&& 31))))) ^^^ ((n >>> ((5 : Int32) &&& 31))))) ^^^ 1)) &&& 1))))))
def zbyte (b : Int64) (k : Int32) : Int32 := (((((((b.toUInt64 >>> (((8 * k)).toInt64.toUInt64 &&& Int64.toUInt64 63)).toInt64)).toInt32)) &&& 255))
set_option maxHeartbeats 4000000 in
set_option maxRecDepth 100000 in
theorem c_X6_pidOf_x (l : Launch) (n : Int32)  : Met l yX6_pidOf wsX6_pidOf ({ frames := 0, cells := 0, slots := 0, locals := 0 }) (va_Pc [.int n] (fun _ => True)) (vp_Si (fun r => r = zpid n)) 0 0 (fun _ => False) := by
  refine Met.ofW (cc := cX6_pidOf) (maxL := 3) (ret := (some .int)) (by decide) rfl ?_
  intro p e s m args below meth c s₁ B hml hv
  obtain ⟨rfl, -⟩ := hv
  have hx := B.exec
  have hb := B.bytes
  have hr := B.returns
  have hts := atoms_spec (ws := wsX6_pidOf) B.pre
  have hown : s.vm.findClass RX6 = some m.cls := findClass_of_methodNamed B.named
  have hlocks := B.notSynchronized
  have hl := lv_entry ([.int n]) (n := 3) (Nat.le_of_ble_eq_true rfl)
  rw [lg_entry_eq]
  generalize (lg_sl ([.int n]) ++ List.replicate (3 - (lg_sl ([.int n])).length) Slot.unset).toArray = ls at hl ⊢
  have hl : lv_has ls 3 [(0, .int n)] := hl
  refine lv_iload_n hx hb dX6_pidOf_0 rfl (lv_at hl 0 rfl) ?_
  refine lv_iload_n hx hb dX6_pidOf_1 rfl (lv_at hl 0 rfl) ?_
  refine lv_iconst (v := 1) hx hb dX6_pidOf_2 (by decide) ?_
  refine lv_ishr hx hb dX6_pidOf_3 ?_
  refine lv_topi (fun v1 ev1 => ?_)
  refine lv_ixor hx hb dX6_pidOf_4 ?_
  refine lv_topi (fun v2 ev2 => ?_)
  refine lv_iload_n hx hb dX6_pidOf_5 rfl (lv_at hl 0 rfl) ?_
  refine lv_iconst (v := 2) hx hb dX6_pidOf_6 (by decide) ?_
  refine lv_ishr hx hb dX6_pidOf_7 ?_
  refine lv_topi (fun v3 ev3 => ?_)
  refine lv_ixor hx hb dX6_pidOf_8 ?_
  refine lv_topi (fun v4 ev4 => ?_)
  refine lv_iload_n hx hb dX6_pidOf_9 rfl (lv_at hl 0 rfl) ?_
  refine lv_iconst (v := 4) hx hb dX6_pidOf_10 (by decide) ?_
  refine lv_ishr hx hb dX6_pidOf_11 ?_
  refine lv_topi (fun v5 ev5 => ?_)
  refine lv_ixor hx hb dX6_pidOf_12 ?_
  refine lv_topi (fun v6 ev6 => ?_)
  refine lv_iconst (v := 1) hx hb dX6_pidOf_13 (by decide) ?_
  refine lv_iand hx hb dX6_pidOf_14 ?_
  refine lv_topi (fun v7 ev7 => ?_)
  refine lv_istore_n (lv' := [(1, .int v7), (0, .int n)]) hx hb dX6_pidOf_15 rfl hl (by decide) rfl (fun ls hl => ?_)
  refine lv_iload_n hx hb dX6_pidOf_16 rfl (lv_at hl 1 rfl) ?_
  refine lv_iconst (v := 1) hx hb dX6_pidOf_17 (by decide) ?_
  refine lv_ishr hx hb dX6_pidOf_18 ?_
  refine lv_topi (fun v8 ev8 => ?_)
  refine lv_iload_n hx hb dX6_pidOf_19 rfl (lv_at hl 1 rfl) ?_
  refine lv_iconst (v := 3) hx hb dX6_pidOf_20 (by decide) ?_
  refine lv_ishr hx hb dX6_pidOf_21 ?_
  refine lv_topi (fun v9 ev9 => ?_)
  refine lv_ixor hx hb dX6_pidOf_22 ?_
  refine lv_topi (fun v10 ev10 => ?_)
  refine lv_iload_n hx hb dX6_pidOf_23 rfl (lv_at hl 1 rfl) ?_
  refine lv_iconst (v := 4) hx hb dX6_pidOf_24 (by decide) ?_
  refine lv_ishr hx hb dX6_pidOf_25 ?_
  refine lv_topi (fun v11 ev11 => ?_)
  refine lv_ixor hx hb dX6_pidOf_26 ?_
  refine lv_topi (fun v12 ev12 => ?_)
  refine lv_iload_n hx hb dX6_pidOf_27 rfl (lv_at hl 1 rfl) ?_
  refine lv_iconst (v := 5) hx hb dX6_pidOf_28 (by decide) ?_
  refine lv_ishr hx hb dX6_pidOf_29 ?_
  refine lv_topi (fun v13 ev13 => ?_)
  refine lv_ixor hx hb dX6_pidOf_30 ?_
  refine lv_topi (fun v14 ev14 => ?_)
  refine lv_iconst (v := 1) hx hb dX6_pidOf_31 (by decide) ?_
  refine lv_ixor hx hb dX6_pidOf_32 ?_
  refine lv_topi (fun v15 ev15 => ?_)
  refine lv_iconst (v := 1) hx hb dX6_pidOf_33 (by decide) ?_
  refine lv_iand hx hb dX6_pidOf_34 ?_
  refine lv_topi (fun v16 ev16 => ?_)
  refine lv_istore_n (lv' := [(2, .int v16), (1, .int v7), (0, .int n)]) hx hb dX6_pidOf_35 rfl hl (by decide) rfl (fun ls hl => ?_)
  refine lv_iload_n hx hb dX6_pidOf_36 rfl (lv_at hl 2 rfl) ?_
  refine lv_bipush (v := 64) hx hb dX6_pidOf_37 (by decide) ?_
  refine lv_iload_n hx hb dX6_pidOf_39 rfl (lv_at hl 1 rfl) ?_
  refine lv_imul hx hb dX6_pidOf_40 ?_
  refine lv_topi (fun v17 ev17 => ?_)
  refine lv_iadd hx hb dX6_pidOf_41 ?_
  refine lv_topi (fun v18 ev18 => ?_)
  refine lv_sipush (v := 128) hx hb dX6_pidOf_42 (by decide) ?_
  refine lv_iload_n hx hb dX6_pidOf_45 rfl (lv_at hl 0 rfl) ?_
  refine lv_imul hx hb dX6_pidOf_46 ?_
  refine lv_topi (fun v19 ev19 => ?_)
  refine lv_iadd hx hb dX6_pidOf_47 ?_
  refine lv_topi (fun v20 ev20 => ?_)
  exact W.iret (v := v20) hx hb hr (fun t ht hW => ⟨v20, rfl, (by subst_vars; rfl), ht⟩) (fun _ h => absurd h List.not_mem_nil) dX6_pidOf_48
set_option maxHeartbeats 4000000 in
set_option maxRecDepth 100000 in
theorem c_X6_byteOf_x (l : Launch) (b : Int64) (k : Int32)  : Met l yX6_byteOf wsX6_byteOf ({ frames := 0, cells := 0, slots := 0, locals := 0 }) (va_Pc [.long b, .int k] (fun _ => True)) (vp_Si (fun r => r = zbyte b k)) 0 0 (fun _ => False) := by
  refine Met.ofW (cc := cX6_byteOf) (maxL := 3) (ret := (some .int)) (by decide) rfl ?_
  intro p e s m args below meth c s₁ B hml hv
  obtain ⟨rfl, -⟩ := hv
  have hx := B.exec
  have hb := B.bytes
  have hr := B.returns
  have hts := atoms_spec (ws := wsX6_byteOf) B.pre
  have hown : s.vm.findClass RX6 = some m.cls := findClass_of_methodNamed B.named
  have hlocks := B.notSynchronized
  have hl := lv_entry ([.long b, .int k]) (n := 3) (Nat.le_of_ble_eq_true rfl)
  rw [lg_entry_eq]
  generalize (lg_sl ([.long b, .int k]) ++ List.replicate (3 - (lg_sl ([.long b, .int k])).length) Slot.unset).toArray = ls at hl ⊢
  have hl : lv_has ls 3 [(0, .long b), (2, .int k)] := hl
  refine lv_lload_n hx hb dX6_byteOf_0 rfl (lv_at hl 0 rfl) ?_
  refine lv_bipush (v := 8) hx hb dX6_byteOf_1 (by decide) ?_
  refine lv_iload_n hx hb dX6_byteOf_3 rfl (lv_at hl 1 rfl) ?_
  refine lv_imul hx hb dX6_byteOf_4 ?_
  refine lv_topi (fun v1 ev1 => ?_)
  refine lv_lushr hx hb dX6_byteOf_5 rfl ?_
  refine lv_topl (fun v2 ev2 => ?_)
  refine lv_l2i hx hb dX6_byteOf_6 rfl ?_
  refine lv_topi (fun v3 ev3 => ?_)
  refine lv_sipush (v := 255) hx hb dX6_byteOf_7 (by decide) ?_
  refine lv_iand hx hb dX6_byteOf_10 ?_
  refine lv_topi (fun v4 ev4 => ?_)
  exact W.iret (v := v4) hx hb hr (fun t ht hW => ⟨v4, rfl, (by subst_vars; rfl), ht⟩) (fun _ h => absurd h List.not_mem_nil) dX6_byteOf_11
theorem zb_255 (t : Nat) : (255#32).getLsbD t = decide (t < 8) := by
  rcases Nat.lt_or_ge t 32 with h | h
  · have : ∀ t : Fin 32, (255#32).getLsbD t.1 = decide (t.1 < 8) := by decide
    exact this ⟨t, h⟩
  · rw [BitVec.getLsbD_of_ge _ _ h]; simp; omega
theorem zb_bit (B : Int64) {i : Nat} (hi : i < 8) (t : Nat) : (zbyte B (nI i)).toBitVec.getLsbD t = (decide (t < 8) && B.toBitVec.getLsbD (8 * i + t)) := by
  unfold zbyte
  have h : ((8 * nI i).toInt64.toUInt64 &&& Int64.toUInt64 63).toBitVec = BitVec.ofNat 64 (8 * i) := by
    match i, hi with
    | 0, _ => decide
    | 1, _ => decide
    | 2, _ => decide
    | 3, _ => decide
    | 4, _ => decide
    | 5, _ => decide
    | 6, _ => decide
    | 7, _ => decide
  have e : ((B.toUInt64 >>> ((8 * nI i).toInt64.toUInt64 &&& Int64.toUInt64 63)).toInt64).toBitVec = B.toBitVec >>> (8 * i) := by
    show (B.toUInt64 >>> ((8 * nI i).toInt64.toUInt64 &&& Int64.toUInt64 63)).toBitVec = _
    rw [UInt64.toBitVec_shiftRight, h]
    show B.toBitVec >>> (BitVec.ofNat 64 (8 * i) % 64).toNat = _
    have : (BitVec.ofNat 64 (8 * i) % 64).toNat = 8 * i := by
      rw [BitVec.toNat_umod]; simp; omega
    rw [this]
  rw [Int32.toBitVec_and, Int64.toBitVec_toInt32, e, BitVec.getLsbD_and, BitVec.getLsbD_signExtend, show (Int32.toBitVec 255) = 255#32 from rfl, zb_255]
  by_cases c : t < 8
  · simp [c, show t < 32 by omega, show t < 64 by omega]
  · simp [c]
theorem zb_lt {v : Int32} (h0 : ¬ v < 0) (h1 : v ≤ 255) {t : Nat} (ht : 8 ≤ t) : v.toBitVec.getLsbD t = false := by
  rw [Int32.lt_iff_toInt_lt] at h0
  rw [Int32.le_iff_toInt_le] at h1
  have e0 : (0 : Int32).toInt = 0 := by decide
  have e1 : (255 : Int32).toInt = 255 := by decide
  have h : v.toBitVec.toNat < 256 := by
    have a : v.toBitVec.toInt = v.toInt := rfl
    have b := BitVec.toInt_eq_toNat_cond (x := v.toBitVec)
    split at b <;> omega
  rw [BitVec.getLsbD, Nat.testBit_lt_two_pow]
  exact Nat.lt_of_lt_of_le h (Nat.pow_le_pow_right (n := 2) (by decide) ht)
theorem zb_sx {x : Int32} (h : ∀ t, 8 ≤ t → x.toBitVec.getLsbD t = false) (t : Nat) : x.toInt64.toBitVec.getLsbD t = (decide (t < 8) && x.toBitVec.getLsbD t) := by
  rw [Int32.toBitVec_toInt64, BitVec.getLsbD_signExtend, BitVec.msb_eq_getLsbD_last, h (32 - 1) (by decide)]
  by_cases c : t < 8
  · rw [decide_eq_true c, decide_eq_true (show t < 64 by omega), if_pos (show t < 32 by omega)]
  · rw [decide_eq_false c, h t (by omega)]
    simp
theorem zb_put (B : Int64) {i k : Nat} (hi : i < 8) (hk : k < 8) {v : Int32} (h0 : ¬ v < 0) (h1 : v ≤ 255) : zbyte (B ^^^ ((zbyte B (nI i) ^^^ v).toInt64 <<< ((8 * nI i).toInt64 &&& 63))) (nI k) = if k = i then v else zbyte B (nI k) := by
  have h : (((8 * nI i).toInt64 &&& 63).toBitVec.smod 64).toNat = 8 * i := by
    match i, hi with
    | 0, _ => decide
    | 1, _ => decide
    | 2, _ => decide
    | 3, _ => decide
    | 4, _ => decide
    | 5, _ => decide
    | 6, _ => decide
    | 7, _ => decide
  have hz : ∀ t, 8 ≤ t → (zbyte B (nI i) ^^^ v).toBitVec.getLsbD t = false := fun t ht => by
    rw [Int32.toBitVec_xor, BitVec.getLsbD_xor, zb_bit _ hi, zb_lt h0 h1 ht, decide_eq_false (by omega)]; rfl
  apply Int32.toBitVec_inj.mp
  apply BitVec.eq_of_getLsbD_eq
  intro t ht
  rw [zb_bit _ hk, Int64.toBitVec_xor, Int64.toBitVec_shiftLeft, BitVec.shiftLeft_eq', h, BitVec.getLsbD_xor, BitVec.getLsbD_shiftLeft, zb_sx hz, Int32.toBitVec_xor, BitVec.getLsbD_xor, zb_bit _ hi]
  by_cases c : k = i
  · subst c
    rw [if_pos rfl]
    by_cases d : t < 8
    · rw [show 8 * k + t - 8 * k = t by omega, decide_eq_true d, decide_eq_true (show 8 * k + t < 64 by omega), decide_eq_false (show ¬ 8 * k + t < 8 * k by omega)]
      cases B.toBitVec.getLsbD (8 * k + t) <;> cases v.toBitVec.getLsbD t <;> rfl
    · rw [zb_lt h0 h1 (show 8 ≤ t by omega), decide_eq_false d]; rfl
  · rw [if_neg c, zb_bit _ hk]
    by_cases d : t < 8
    · rcases Nat.lt_or_ge k i with q | q
      · rw [decide_eq_true (show 8 * k + t < 8 * i by omega)]; simp
      · rw [decide_eq_false (show ¬ 8 * k + t - 8 * i < 8 by omega)]; simp
    · rw [decide_eq_false d]; rfl
theorem zh_bit (L : Int32) {k : Nat} (hk : k < 8) : zheard L (nI k) ↔ L.toBitVec.getLsbD k = true := by
  have h : ((nI k &&& 31).toBitVec.smod 32).toNat = k := by
    match k, hk with
    | 0, _ => decide
    | 1, _ => decide
    | 2, _ => decide
    | 3, _ => decide
    | 4, _ => decide
    | 5, _ => decide
    | 6, _ => decide
    | 7, _ => decide
  unfold zheard
  have e : ((L >>> (nI k &&& 31)) &&& 1).toBitVec = if L.toBitVec.getLsbD k then 1#32 else 0#32 := by
    rw [Int32.toBitVec_and, Int32.toBitVec_shiftRight, BitVec.sshiftRight_eq', h]
    apply BitVec.eq_of_getLsbD_eq
    intro t ht
    rw [BitVec.getLsbD_and, BitVec.getLsbD_sshiftRight, show Int32.toBitVec 1 = 1#32 from rfl, BitVec.getLsbD_one]
    by_cases c : t = 0
    · subst c
      rw [if_pos (show k + 0 < 32 by omega)]
      cases hq : L.toBitVec.getLsbD k <;> simp [hq]
    · cases hq : L.toBitVec.getLsbD k <;> simp [BitVec.getLsbD_one, c]
  constructor
  · intro z
    rw [z] at e
    cases hq : L.toBitVec.getLsbD k
    · rw [hq] at e; exact absurd e (by decide)
    · rfl
  · intro z
    apply Int32.toBitVec_inj.mp
    rw [e, if_pos z]; rfl
theorem zh_sh {j : Nat} (hj : j < 8) (t : Nat) : ((1 : Int32) <<< (nI j &&& 31)).toBitVec.getLsbD t = decide (t = j) := by
  have : ((1 : Int32) <<< (nI j &&& 31)).toBitVec = BitVec.twoPow 32 j := by
    match j, hj with
    | 0, _ => decide
    | 1, _ => decide
    | 2, _ => decide
    | 3, _ => decide
    | 4, _ => decide
    | 5, _ => decide
    | 6, _ => decide
    | 7, _ => decide
  rw [this, BitVec.getLsbD_twoPow, decide_eq_true (show j < 32 by omega)]
  simp [eq_comm]
theorem zh_set (L : Int32) {j k : Nat} (hj : j < 8) (hk : k < 8) : zheard (L ||| (1 <<< (nI j &&& 31))) (nI k) ↔ (k = j ∨ zheard L (nI k)) := by
  rw [zh_bit _ hk, zh_bit _ hk, Int32.toBitVec_or, BitVec.getLsbD_or, zh_sh hj]
  by_cases c : k = j <;> simp [c]
theorem zh_clr (L : Int32) {j k : Nat} (hj : j < 8) (hk : k < 8) : zheard (L &&& ((1 <<< (nI j &&& 31)) ^^^ (-1))) (nI k) ↔ (k ≠ j ∧ zheard L (nI k)) := by
  rw [zh_bit _ hk, zh_bit _ hk, Int32.toBitVec_and, BitVec.getLsbD_and, Int32.toBitVec_xor, BitVec.getLsbD_xor, zh_sh hj, show Int32.toBitVec (-1) = BitVec.allOnes 32 from rfl, BitVec.getLsbD_allOnes, decide_eq_true (show k < 32 by omega)]
  by_cases c : k = j <;> simp [c]
theorem zb_0 {i : Nat} (hi : i < 8) : zbyte 0 (nI i) = 0 := by
  match i, hi with
  | 0, _ => decide
  | 1, _ => decide
  | 2, _ => decide
  | 3, _ => decide
  | 4, _ => decide
  | 5, _ => decide
  | 6, _ => decide
  | 7, _ => decide
theorem zh_0 {i : Nat} (hi : i < 8) : ¬ zheard 0 (nI i) := by
  match i, hi with
  | 0, _ => decide
  | 1, _ => decide
  | 2, _ => decide
  | 3, _ => decide
  | 4, _ => decide
  | 5, _ => decide
  | 6, _ => decide
  | 7, _ => decide
theorem zshr_bv (B : Int64) : ∀ k, k < 8 → (zshr B k).toBitVec = B.toBitVec >>> (8 * k) := by
  intro k
  induction k with
  | zero => intro _; rfl
  | succ k ih =>
    intro h
    show ((zshr B k).toUInt64 >>> ((8 : Int32).toInt64.toUInt64 &&& Int64.toUInt64 63)).toBitVec = _
    rw [UInt64.toBitVec_shiftRight]
    show (zshr B k).toBitVec >>> (((8 : Int32).toInt64.toUInt64 &&& Int64.toUInt64 63).toBitVec % 64).toNat = _
    rw [ih (by omega), show (((8 : Int32).toInt64.toUInt64 &&& Int64.toUInt64 63).toBitVec % 64).toNat = 8 by decide, ← BitVec.shiftRight_add]
    rfl
theorem zb_255L (t : Nat) : (255#64).getLsbD t = decide (t < 8) := by
  rcases Nat.lt_or_ge t 64 with h | h
  · have : ∀ t : Fin 64, (255#64).getLsbD t.1 = decide (t.1 < 8) := by decide
    exact this ⟨t, h⟩
  · rw [BitVec.getLsbD_of_ge _ _ h]; simp; omega
theorem zbl_eq (B : Int64) {k : Nat} (hk : k < 8) : zbl B k = zbyte B (nI k) := by
  apply Int32.toBitVec_inj.mp
  apply BitVec.eq_of_getLsbD_eq
  intro t ht
  unfold zbl
  rw [zb_bit _ hk, Int64.toBitVec_toInt32, BitVec.getLsbD_signExtend, Int64.toBitVec_and, BitVec.getLsbD_and, show (Int64.toBitVec 255) = 255#64 from rfl, zb_255L, zshr_bv B k hk, BitVec.getLsbD_ushiftRight, decide_eq_true ht, if_pos (show t < 64 by omega)]
  cases B.toBitVec.getLsbD (8 * k + t) <;> cases decide (t < 8) <;> rfl
set_option maxHeartbeats 4000000 in
set_option maxRecDepth 100000 in
theorem c_X1_isHeardBy_x (l : Launch) (dC : Nat → ClassId) (dI : Nat → Nat → Nat) (cy : Nat → ClassId) (G : zG) (S : zS) (sz : Nat) (a : Nat) (n : Int32) (hO : zO G a 1) : Met l yX1_isHeardBy wsX1_isHeardBy ({ frames := 0, cells := 0, slots := 0, locals := 0 }) (zP dC dI cy [.ref a, .int n] G S sz) (vp_Si (fun r => (r = 1 ∧ zheard (S.1 a 6) n) ∨ (r = 0 ∧ ¬ zheard (S.1 a 6) n))) 0 0 (fun _ => False) := by
  refine Met.ofW (cc := cX1_isHeardBy) (maxL := 2) (ret := (some .boolean)) (by decide) rfl ?_
  intro p e s m args below meth c s₁ B hml hv
  obtain ⟨rfl, hsz, hP, hK, hD0, hN⟩ := hv
  have hx := B.exec
  have hb := B.bytes
  have hr := B.returns
  have hts := atoms_spec (ws := wsX1_isHeardBy) B.pre
  have hown : s.vm.findClass RX1 = some m.cls := findClass_of_methodNamed B.named
  have hlocks := B.notSynchronized
  subst hsz
  have hD := hD0
  have hst := zSt.refl G S
  have hl := lv_entry ([.ref a, .int n]) (n := 2) (Nat.le_of_ble_eq_true rfl)
  rw [lg_entry_eq]
  generalize (lg_sl ([.ref a, .int n]) ++ List.replicate (2 - (lg_sl ([.ref a, .int n])).length) Slot.unset).toArray = ls at hl ⊢
  have hl : lv_has ls 2 [(0, .ref a), (1, .int n)] := hl
  have hi1 : ∀ w ∈ wsX10, w ∈ wsX1_isHeardBy := by decide +kernel
  refine lv_aload_n hx hb dX1_isHeardBy_0 rfl (lv_at hl 0 rfl) ?_
  refine zget (ci := 1) (C := RX1) (T := TX1) (N := 9) hx hb hts hi1 hown hK hP hO rfl rfl 6 (by decide) (hts (.fieldLink RX1 15 "LinCluster$Frame" "listeners" "I") (by decide +kernel)) (fun _ h9 => h9) rfl dX1_isHeardBy_1 ?_
  refine lv_topi (fun v1 ev1 => ?_)
  refine lv_iload_n hx hb dX1_isHeardBy_4 rfl (lv_at hl 1 rfl) ?_
  refine lv_ishr hx hb dX1_isHeardBy_5 ?_
  refine lv_topi (fun v2 ev2 => ?_)
  refine lv_iconst (v := 1) hx hb dX1_isHeardBy_6 (by decide) ?_
  refine lv_iand hx hb dX1_isHeardBy_7 ?_
  refine lv_topi (fun v3 ev3 => ?_)
  refine lv_iconst (v := 1) hx hb dX1_isHeardBy_8 (by decide) ?_
  refine lv_icmp_ne (tgt := 16) hx hb dX1_isHeardBy_9 (by decide) (fun c4 => ?_) (fun c4 => ?_)
  · skip
    refine lv_iconst (v := 0) hx hb dX1_isHeardBy_16 (by decide) ?_
    exact W.zret (v := 0) (ty := .boolean) hx hb hr rfl (fun t ht hW => ⟨0, rfl, (Or.inr ⟨rfl, fun z9 => c4 (by rw [ev3, ev2, ev1]; exact z9)⟩), ht⟩) (fun _ h => absurd h List.not_mem_nil) dX1_isHeardBy_17
  · skip
    refine lv_iconst (v := 1) hx hb dX1_isHeardBy_12 (by decide) ?_
    refine lv_goto (tgt := 17) hx hb dX1_isHeardBy_13 (by decide) ?_
    exact W.zret (v := 1) (ty := .boolean) hx hb hr rfl (fun t ht hW => ⟨1, rfl, (Or.inl ⟨rfl, (by have z9 := c4; rw [ev3, ev2, ev1] at z9; exact z9)⟩), ht⟩) (fun _ h => absurd h List.not_mem_nil) dX1_isHeardBy_17
set_option maxHeartbeats 4000000 in
set_option maxRecDepth 100000 in
theorem c_X1_checksumOf_x (l : Launch) (dC : Nat → ClassId) (dI : Nat → Nat → Nat) (cy : Nat → ClassId) (G : zG) (S : zS) (sz : Nat) (a ka ta : Nat) (b : Int64) (hF : zFr G S a ka ta) : Met l yX1_checksumOf wsX1_checksumOf ({ frames := 0, cells := 0, slots := 0, locals := 0 }) (zP dC dI cy [.ref a, .long b] G S sz) (vp_Si (fun r => ∃ n : Nat, n ≤ 8 ∧ S.1 a 1 = nI n ∧ r = 255 - zsum (zbl b) (if S.1 a 4 = 0 then 0 else S.1 a 3) n)) 0 0 (fun _ => False) := by
  refine Met.ofW (cc := cX1_checksumOf) (maxL := 7) (ret := (some .int)) (by decide) rfl ?_
  intro p e s m args below meth c s₁ B hml hv
  obtain ⟨rfl, hsz, hP, hK, hD0, hN⟩ := hv
  have hx := B.exec
  have hb := B.bytes
  have hr := B.returns
  have hts := atoms_spec (ws := wsX1_checksumOf) B.pre
  have hown : s.vm.findClass RX1 = some m.cls := findClass_of_methodNamed B.named
  have hlocks := B.notSynchronized
  subst hsz
  have hD := hD0
  have hst := zSt.refl G S
  have hl := lv_entry ([.ref a, .long b]) (n := 7) (Nat.le_of_ble_eq_true rfl)
  rw [lg_entry_eq]
  generalize (lg_sl ([.ref a, .long b]) ++ List.replicate (7 - (lg_sl ([.ref a, .long b])).length) Slot.unset).toArray = ls at hl ⊢
  have hl : lv_has ls 7 [(0, .ref a), (1, .long b)] := hl
  have hi1 : ∀ w ∈ wsX10, w ∈ wsX1_checksumOf := by decide +kernel
  refine lv_aload_n hx hb dX1_checksumOf_0 rfl (lv_at hl 0 rfl) ?_
  refine zget (ci := 1) (C := RX1) (T := TX1) (N := 9) hx hb hts hi1 hown hK hP hF.1 rfl rfl 4 (by decide) (hts (.fieldLink RX1 36 "LinCluster$Frame" "enhanced" "Z") (by decide +kernel)) (fun _ h9 => h9) rfl dX1_checksumOf_1 ?_
  refine lv_topi (fun v1 ev1 => ?_)
  refine lv_if_eq (tgt := 14) hx hb dX1_checksumOf_4 (by decide) (fun c2 => ?_) (fun c2 => ?_)
  · skip
    refine lv_iconst (v := 0) hx hb dX1_checksumOf_14 (by decide) ?_
    refine lv_istore_n (lv' := [(3, .int 0), (0, .ref a), (1, .long b)]) hx hb dX1_checksumOf_15 rfl hl (by decide) rfl (fun ls hl => ?_)
    refine lv_lload_n hx hb dX1_checksumOf_16 rfl (lv_at hl 2 rfl) ?_
    refine lv_lstore (lv' := [(4, .long b), (3, .int 0), (0, .ref a), (1, .long b)]) hx hb dX1_checksumOf_17 hl (by decide) rfl (fun ls hl => ?_)
    refine lv_iconst (v := 0) hx hb dX1_checksumOf_19 (by decide) ?_
    refine lv_istore (lv' := [(6, .int 0), (4, .long b), (3, .int 0), (0, .ref a), (1, .long b)]) hx hb dX1_checksumOf_20 hl (by decide) rfl (fun ls hl => ?_)
    obtain ⟨n9, hn9, en9⟩ := hF.2.2.2.1
    refine zloopR n9 (fun k9 (_ : Unit) => [(0, .ref a), (1, .long b), (3, .int (zsum (zbl b) 0 k9)), (4, .long (zshr b k9)), (6, .int (nI k9))]) ?_ ?_ n9 0 () ls (Nat.zero_add _) (lv_sub hl [3, 4, 2, 1, 0] rfl)
    · intro _ ls hl
      obtain ⟨x3, ex3⟩ : ∃ y, y = zsum (zbl b) 0 n9 := ⟨_, rfl⟩
      obtain ⟨x4, ex4⟩ : ∃ y, y = zshr b n9 := ⟨_, rfl⟩
      have hl : lv_has ls 7 [(0, .ref a), (1, .long b), (3, .int x3), (4, .long x4), (6, .int (nI n9))] := by rw [ex3, ex4]; exact hl
      refine lv_iload hx hb dX1_checksumOf_22 (lv_at hl 4 rfl) ?_
      refine lv_aload_n hx hb dX1_checksumOf_24 rfl (lv_at hl 0 rfl) ?_
      refine zget (ci := 1) (C := RX1) (T := TX1) (N := 9) hx hb hts hi1 hown hK hP hF.1 rfl rfl 1 (by decide) (hts (.fieldLink RX1 30 "LinCluster$Frame" "length" "I") (by decide +kernel)) (fun _ h9 => h9) rfl dX1_checksumOf_25 ?_
      refine lv_topi (fun v3 ev3 => ?_)
      refine lv_icmp_ge (tgt := 67) hx hb dX1_checksumOf_28 (by decide) (fun c4 => ?_) (fun c4 => ?_)
      · skip
        refine lv_sipush (v := 255) hx hb dX1_checksumOf_67 (by decide) ?_
        refine lv_iload_n hx hb dX1_checksumOf_70 rfl (lv_at hl 2 rfl) ?_
        refine lv_isub hx hb dX1_checksumOf_71 ?_
        refine lv_topi (fun v5 ev5 => ?_)
        exact W.iret (v := v5) hx hb hr (fun t ht hW => ⟨v5, rfl, ⟨n9, hn9, en9, by rw [if_pos (ev1.symm.trans c2)]; subst_vars; rfl⟩, ht⟩) (fun _ h => absurd h List.not_mem_nil) dX1_checksumOf_72
      · exact absurd (by rw [ev3, en9]; exact nI_le (Nat.le_refl _) (by omega)) c4
    · intro n8 k9 _ ls hk9 ih hl
      obtain ⟨x3, ex3⟩ : ∃ y, y = zsum (zbl b) 0 k9 := ⟨_, rfl⟩
      obtain ⟨x4, ex4⟩ : ∃ y, y = zshr b k9 := ⟨_, rfl⟩
      have hl : lv_has ls 7 [(0, .ref a), (1, .long b), (3, .int x3), (4, .long x4), (6, .int (nI k9))] := by rw [ex3, ex4]; exact hl
      refine lv_iload hx hb dX1_checksumOf_22 (lv_at hl 4 rfl) ?_
      refine lv_aload_n hx hb dX1_checksumOf_24 rfl (lv_at hl 0 rfl) ?_
      refine zget (ci := 1) (C := RX1) (T := TX1) (N := 9) hx hb hts hi1 hown hK hP hF.1 rfl rfl 1 (by decide) (hts (.fieldLink RX1 30 "LinCluster$Frame" "length" "I") (by decide +kernel)) (fun _ h9 => h9) rfl dX1_checksumOf_25 ?_
      refine lv_topi (fun v6 ev6 => ?_)
      refine lv_icmp_ge (tgt := 67) hx hb dX1_checksumOf_28 (by decide) (fun c7 => ?_) (fun c7 => ?_)
      · exact absurd c7 (by rw [ev6, en9]; exact nI_ge (by omega) (by omega))
      · skip
        refine lv_iload_n hx hb dX1_checksumOf_31 rfl (lv_at hl 2 rfl) ?_
        refine lv_lload hx hb dX1_checksumOf_32 (lv_at hl 3 rfl) ?_
        refine lv_ldc2 (v := 255) hx hb hown (hts (.constantLong RX1 51 255) (by decide +kernel)) dX1_checksumOf_34 ?_
        refine lv_land hx hb dX1_checksumOf_37 ?_
        refine lv_topl (fun v8 ev8 => ?_)
        refine lv_l2i hx hb dX1_checksumOf_38 rfl ?_
        refine lv_topi (fun v9 ev9 => ?_)
        refine lv_iadd hx hb dX1_checksumOf_39 ?_
        refine lv_topi (fun v10 ev10 => ?_)
        refine lv_istore_n (lv' := [(3, .int v10), (0, .ref a), (1, .long b), (4, .long x4), (6, .int (nI k9))]) hx hb dX1_checksumOf_40 rfl hl (by decide) rfl (fun ls hl => ?_)
        refine lv_iload_n hx hb dX1_checksumOf_41 rfl (lv_at hl 0 rfl) ?_
        refine lv_sipush (v := 255) hx hb dX1_checksumOf_42 (by decide) ?_
        refine lv_icmp_le (tgt := 54) hx hb dX1_checksumOf_45 (by decide) (fun c11 => ?_) (fun c11 => ?_)
        · skip
          refine lv_lload hx hb dX1_checksumOf_54 (lv_at hl 3 rfl) ?_
          refine lv_bipush (v := 8) hx hb dX1_checksumOf_56 (by decide) ?_
          refine lv_lushr hx hb dX1_checksumOf_58 rfl ?_
          refine lv_topl (fun v12 ev12 => ?_)
          refine lv_lstore (lv' := [(4, .long v12), (3, .int v10), (0, .ref a), (1, .long b), (6, .int (nI k9))]) hx hb dX1_checksumOf_59 hl (by decide) rfl (fun ls hl => ?_)
          obtain ⟨v13, ev13⟩ : ∃ y : Int32, y = (nI k9) + 1 := ⟨_, rfl⟩
          refine lv_iinc (v := v13) (lv' := [(6, .int v13), (4, .long v12), (3, .int v10), (0, .ref a), (1, .long b)]) hx hb dX1_checksumOf_61 hl (k := 4) rfl (by rw [ev13]; rfl) (by decide) rfl (fun ls hl => ?_)
          refine lv_goto (tgt := 22) hx hb dX1_checksumOf_64 (by decide) ?_
          have e9 : v13 = nI (k9 + 1) := by rw [ev13]; exact nI_1 k9
          have e3 : v10 = zsum (zbl b) 0 (k9 + 1) := by subst_vars; exact (zsum_le (f := zbl b) c11).symm
          have e4 : v12 = zshr b (k9 + 1) := by subst_vars; rfl
          rw [e9, e3, e4] at hl
          exact ih () ls (lv_sub hl [3, 4, 2, 1, 0] rfl)
        · skip
          obtain ⟨v14, ev14⟩ : ∃ y : Int32, y = v10 + (-255) := ⟨_, rfl⟩
          refine lv_iincW (v := v14) (lv' := [(3, .int v14), (0, .ref a), (1, .long b), (4, .long x4), (6, .int (nI k9))]) hx hb dX1_checksumOf_48 hl (k := 0) rfl (by rw [ev14]; rfl) (by decide) rfl (fun ls hl => ?_)
          refine lv_lload hx hb dX1_checksumOf_54 (lv_at hl 3 rfl) ?_
          refine lv_bipush (v := 8) hx hb dX1_checksumOf_56 (by decide) ?_
          refine lv_lushr hx hb dX1_checksumOf_58 rfl ?_
          refine lv_topl (fun v15 ev15 => ?_)
          refine lv_lstore (lv' := [(4, .long v15), (3, .int v14), (0, .ref a), (1, .long b), (6, .int (nI k9))]) hx hb dX1_checksumOf_59 hl (by decide) rfl (fun ls hl => ?_)
          obtain ⟨v16, ev16⟩ : ∃ y : Int32, y = (nI k9) + 1 := ⟨_, rfl⟩
          refine lv_iinc (v := v16) (lv' := [(6, .int v16), (4, .long v15), (3, .int v14), (0, .ref a), (1, .long b)]) hx hb dX1_checksumOf_61 hl (k := 4) rfl (by rw [ev16]; rfl) (by decide) rfl (fun ls hl => ?_)
          refine lv_goto (tgt := 22) hx hb dX1_checksumOf_64 (by decide) ?_
          have e9 : v16 = nI (k9 + 1) := by rw [ev16]; exact nI_1 k9
          have e3 : v14 = zsum (zbl b) 0 (k9 + 1) := by subst_vars; exact (zsum_gt (f := zbl b) c11).symm
          have e4 : v15 = zshr b (k9 + 1) := by subst_vars; rfl
          rw [e9, e3, e4] at hl
          exact ih () ls (lv_sub hl [3, 4, 2, 1, 0] rfl)
  · skip
    refine lv_aload_n hx hb dX1_checksumOf_7 rfl (lv_at hl 0 rfl) ?_
    refine zget (ci := 1) (C := RX1) (T := TX1) (N := 9) hx hb hts hi1 hown hK hP hF.1 rfl rfl 3 (by decide) (hts (.fieldLink RX1 44 "LinCluster$Frame" "pid" "I") (by decide +kernel)) (fun _ h9 => h9) rfl dX1_checksumOf_8 ?_
    refine lv_topi (fun v17 ev17 => ?_)
    refine lv_goto (tgt := 15) hx hb dX1_checksumOf_11 (by decide) ?_
    refine lv_istore_n (lv' := [(3, .int v17), (0, .ref a), (1, .long b)]) hx hb dX1_checksumOf_15 rfl hl (by decide) rfl (fun ls hl => ?_)
    refine lv_lload_n hx hb dX1_checksumOf_16 rfl (lv_at hl 2 rfl) ?_
    refine lv_lstore (lv' := [(4, .long b), (3, .int v17), (0, .ref a), (1, .long b)]) hx hb dX1_checksumOf_17 hl (by decide) rfl (fun ls hl => ?_)
    refine lv_iconst (v := 0) hx hb dX1_checksumOf_19 (by decide) ?_
    refine lv_istore (lv' := [(6, .int 0), (4, .long b), (3, .int v17), (0, .ref a), (1, .long b)]) hx hb dX1_checksumOf_20 hl (by decide) rfl (fun ls hl => ?_)
    obtain ⟨n9, hn9, en9⟩ := hF.2.2.2.1
    refine zloopR n9 (fun k9 (_ : Unit) => [(0, .ref a), (1, .long b), (3, .int (zsum (zbl b) v17 k9)), (4, .long (zshr b k9)), (6, .int (nI k9))]) ?_ ?_ n9 0 () ls (Nat.zero_add _) (lv_sub hl [3, 4, 2, 1, 0] rfl)
    · intro _ ls hl
      obtain ⟨x3, ex3⟩ : ∃ y, y = zsum (zbl b) v17 n9 := ⟨_, rfl⟩
      obtain ⟨x4, ex4⟩ : ∃ y, y = zshr b n9 := ⟨_, rfl⟩
      have hl : lv_has ls 7 [(0, .ref a), (1, .long b), (3, .int x3), (4, .long x4), (6, .int (nI n9))] := by rw [ex3, ex4]; exact hl
      refine lv_iload hx hb dX1_checksumOf_22 (lv_at hl 4 rfl) ?_
      refine lv_aload_n hx hb dX1_checksumOf_24 rfl (lv_at hl 0 rfl) ?_
      refine zget (ci := 1) (C := RX1) (T := TX1) (N := 9) hx hb hts hi1 hown hK hP hF.1 rfl rfl 1 (by decide) (hts (.fieldLink RX1 30 "LinCluster$Frame" "length" "I") (by decide +kernel)) (fun _ h9 => h9) rfl dX1_checksumOf_25 ?_
      refine lv_topi (fun v18 ev18 => ?_)
      refine lv_icmp_ge (tgt := 67) hx hb dX1_checksumOf_28 (by decide) (fun c19 => ?_) (fun c19 => ?_)
      · skip
        refine lv_sipush (v := 255) hx hb dX1_checksumOf_67 (by decide) ?_
        refine lv_iload_n hx hb dX1_checksumOf_70 rfl (lv_at hl 2 rfl) ?_
        refine lv_isub hx hb dX1_checksumOf_71 ?_
        refine lv_topi (fun v20 ev20 => ?_)
        exact W.iret (v := v20) hx hb hr (fun t ht hW => ⟨v20, rfl, ⟨n9, hn9, en9, by rw [if_neg (fun z9 => c2 (ev1.trans z9))]; subst_vars; rfl⟩, ht⟩) (fun _ h => absurd h List.not_mem_nil) dX1_checksumOf_72
      · exact absurd (by rw [ev18, en9]; exact nI_le (Nat.le_refl _) (by omega)) c19
    · intro n8 k9 _ ls hk9 ih hl
      obtain ⟨x3, ex3⟩ : ∃ y, y = zsum (zbl b) v17 k9 := ⟨_, rfl⟩
      obtain ⟨x4, ex4⟩ : ∃ y, y = zshr b k9 := ⟨_, rfl⟩
      have hl : lv_has ls 7 [(0, .ref a), (1, .long b), (3, .int x3), (4, .long x4), (6, .int (nI k9))] := by rw [ex3, ex4]; exact hl
      refine lv_iload hx hb dX1_checksumOf_22 (lv_at hl 4 rfl) ?_
      refine lv_aload_n hx hb dX1_checksumOf_24 rfl (lv_at hl 0 rfl) ?_
      refine zget (ci := 1) (C := RX1) (T := TX1) (N := 9) hx hb hts hi1 hown hK hP hF.1 rfl rfl 1 (by decide) (hts (.fieldLink RX1 30 "LinCluster$Frame" "length" "I") (by decide +kernel)) (fun _ h9 => h9) rfl dX1_checksumOf_25 ?_
      refine lv_topi (fun v21 ev21 => ?_)
      refine lv_icmp_ge (tgt := 67) hx hb dX1_checksumOf_28 (by decide) (fun c22 => ?_) (fun c22 => ?_)
      · exact absurd c22 (by rw [ev21, en9]; exact nI_ge (by omega) (by omega))
      · skip
        refine lv_iload_n hx hb dX1_checksumOf_31 rfl (lv_at hl 2 rfl) ?_
        refine lv_lload hx hb dX1_checksumOf_32 (lv_at hl 3 rfl) ?_
        refine lv_ldc2 (v := 255) hx hb hown (hts (.constantLong RX1 51 255) (by decide +kernel)) dX1_checksumOf_34 ?_
        refine lv_land hx hb dX1_checksumOf_37 ?_
        refine lv_topl (fun v23 ev23 => ?_)
        refine lv_l2i hx hb dX1_checksumOf_38 rfl ?_
        refine lv_topi (fun v24 ev24 => ?_)
        refine lv_iadd hx hb dX1_checksumOf_39 ?_
        refine lv_topi (fun v25 ev25 => ?_)
        refine lv_istore_n (lv' := [(3, .int v25), (0, .ref a), (1, .long b), (4, .long x4), (6, .int (nI k9))]) hx hb dX1_checksumOf_40 rfl hl (by decide) rfl (fun ls hl => ?_)
        refine lv_iload_n hx hb dX1_checksumOf_41 rfl (lv_at hl 0 rfl) ?_
        refine lv_sipush (v := 255) hx hb dX1_checksumOf_42 (by decide) ?_
        refine lv_icmp_le (tgt := 54) hx hb dX1_checksumOf_45 (by decide) (fun c26 => ?_) (fun c26 => ?_)
        · skip
          refine lv_lload hx hb dX1_checksumOf_54 (lv_at hl 3 rfl) ?_
          refine lv_bipush (v := 8) hx hb dX1_checksumOf_56 (by decide) ?_
          refine lv_lushr hx hb dX1_checksumOf_58 rfl ?_
          refine lv_topl (fun v27 ev27 => ?_)
          refine lv_lstore (lv' := [(4, .long v27), (3, .int v25), (0, .ref a), (1, .long b), (6, .int (nI k9))]) hx hb dX1_checksumOf_59 hl (by decide) rfl (fun ls hl => ?_)
          obtain ⟨v28, ev28⟩ : ∃ y : Int32, y = (nI k9) + 1 := ⟨_, rfl⟩
          refine lv_iinc (v := v28) (lv' := [(6, .int v28), (4, .long v27), (3, .int v25), (0, .ref a), (1, .long b)]) hx hb dX1_checksumOf_61 hl (k := 4) rfl (by rw [ev28]; rfl) (by decide) rfl (fun ls hl => ?_)
          refine lv_goto (tgt := 22) hx hb dX1_checksumOf_64 (by decide) ?_
          have e9 : v28 = nI (k9 + 1) := by rw [ev28]; exact nI_1 k9
          have e3 : v25 = zsum (zbl b) v17 (k9 + 1) := by subst_vars; exact (zsum_le (f := zbl b) c26).symm
          have e4 : v27 = zshr b (k9 + 1) := by subst_vars; rfl
          rw [e9, e3, e4] at hl
          exact ih () ls (lv_sub hl [3, 4, 2, 1, 0] rfl)
        · skip
          obtain ⟨v29, ev29⟩ : ∃ y : Int32, y = v25 + (-255) := ⟨_, rfl⟩
          refine lv_iincW (v := v29) (lv' := [(3, .int v29), (0, .ref a), (1, .long b), (4, .long x4), (6, .int (nI k9))]) hx hb dX1_checksumOf_48 hl (k := 0) rfl (by rw [ev29]; rfl) (by decide) rfl (fun ls hl => ?_)
          refine lv_lload hx hb dX1_checksumOf_54 (lv_at hl 3 rfl) ?_
          refine lv_bipush (v := 8) hx hb dX1_checksumOf_56 (by decide) ?_
          refine lv_lushr hx hb dX1_checksumOf_58 rfl ?_
          refine lv_topl (fun v30 ev30 => ?_)
          refine lv_lstore (lv' := [(4, .long v30), (3, .int v29), (0, .ref a), (1, .long b), (6, .int (nI k9))]) hx hb dX1_checksumOf_59 hl (by decide) rfl (fun ls hl => ?_)
          obtain ⟨v31, ev31⟩ : ∃ y : Int32, y = (nI k9) + 1 := ⟨_, rfl⟩
          refine lv_iinc (v := v31) (lv' := [(6, .int v31), (4, .long v30), (3, .int v29), (0, .ref a), (1, .long b)]) hx hb dX1_checksumOf_61 hl (k := 4) rfl (by rw [ev31]; rfl) (by decide) rfl (fun ls hl => ?_)
          refine lv_goto (tgt := 22) hx hb dX1_checksumOf_64 (by decide) ?_
          have e9 : v31 = nI (k9 + 1) := by rw [ev31]; exact nI_1 k9
          have e3 : v29 = zsum (zbl b) v17 (k9 + 1) := by subst_vars; exact (zsum_gt (f := zbl b) c26).symm
          have e4 : v30 = zshr b (k9 + 1) := by subst_vars; rfl
          rw [e9, e3, e4] at hl
          exact ih () ls (lv_sub hl [3, 4, 2, 1, 0] rfl)
theorem zhb1 {r L n : Int32} (h : (r = 1 ∧ zheard L n) ∨ (r = 0 ∧ ¬ zheard L n)) (c : ¬ r = 0) : zheard L n := h.elim (fun q => q.2) (fun q => absurd q.1 c)
theorem zhb0 {r L n : Int32} (h : (r = 1 ∧ zheard L n) ∨ (r = 0 ∧ ¬ zheard L n)) (c : r = 0) : ¬ zheard L n := h.elim (fun q => absurd (q.1.symm.trans c) (by decide)) (fun q => q.2)
set_option maxHeartbeats 4000000 in
set_option maxRecDepth 100000 in
theorem c_X1_beginHearing (l : Launch) (dC : Nat → ClassId) (dI : Nat → Nat → Nat) (cy : Nat → ClassId) (G : zG) (S : zS) (sz : Nat) (a ka ta j8 : Nat) (hF : zFr G S a ka ta) (hj8 : j8 < 8) : Met l yX1_beginHearing wsX1_beginHearing ({ frames := 1, cells := 0, slots := 0, locals := 21 }) (zP dC dI cy [.ref a, .int (nI j8)] G S sz) (va_Qv (fun S' => (zheard (S.1 a 6) (nI j8) ∧ S' = S) ∨ (¬ zheard (S.1 a 6) (nI j8) ∧ S' = zpi (zpj (zpi S a 6 (S.1 a 6 ||| (1 <<< (nI j8 &&& 31)))) ka j8 0) ta j8 0)) (zB dC dI cy (zA cy G S sz) G) (zA cy G S sz)) 0 0 (zA cy G S sz) := by
  refine Met.ofW (cc := cX1_beginHearing) (maxL := 2) (ret := none) (by decide) rfl ?_
  intro p e s m args below meth c s₁ B hml hv
  obtain ⟨rfl, hsz, hP, hK, hD0, hN⟩ := hv
  have hx := B.exec
  have hb := B.bytes
  have hr := B.returns
  have hts := atoms_spec (ws := wsX1_beginHearing) B.pre
  have hown : s.vm.findClass RX1 = some m.cls := findClass_of_methodNamed B.named
  have hlocks := B.notSynchronized
  subst hsz
  have hD : va_D (zA cy G S s.heap.size) (zW cy G S) := hD0.self
  generalize hAe : zA cy G S s.heap.size = A at hD ⊢
  have hA : ∀ q : Nat, s.heap.size ≤ q → A q := fun q h => by rw [← hAe]; exact Or.inr h
  have hS : va_S A s.heap s.heap [] := va_S.rf
  have hst := zSt.refl G S
  have hl := lv_entry ([.ref a, .int (nI j8)]) (n := 2) (Nat.le_of_ble_eq_true rfl)
  rw [lg_entry_eq]
  generalize (lg_sl ([.ref a, .int (nI j8)]) ++ List.replicate (2 - (lg_sl ([.ref a, .int (nI j8)])).length) Slot.unset).toArray = ls at hl ⊢
  have hl : lv_has ls 2 [(0, .ref a), (1, .int (nI j8))] := hl
  have hi1 : ∀ w ∈ wsX10, w ∈ wsX1_beginHearing := by decide +kernel
  refine lv_iload_n hx hb dX1_beginHearing_0 rfl (lv_at hl 1 rfl) ?_
  refine vp_callSi (va_Run.run (va_runSN (As := [.int (nI j8)]) (rest := []) ⟨hx, hb, hml, hown, hts⟩ (c_X6_isNode l (nI j8)) ⟨va_cnB 1 hts gX1_beginHearing_X6_isNode_n57 rfl rfl rfl (zN_X1_57 hN) (hts (.initialized RX6) (by decide +kernel)) (by decide +kernel) ⟨Nat.le_of_ble_eq_true rfl, Nat.le_of_ble_eq_true rfl⟩, hts (.static yX6_isNode) (by decide +kernel), trivial⟩ zpreS0 rfl rfl hl.1 rfl (lv_room (Nat.le_of_ble_eq_true rfl)) dX1_beginHearing_1 ⟨Nat.le_of_ble_eq_true rfl, Nat.le_of_ble_eq_true rfl⟩)) (fun r1 hr1 => ?_)
  refine lv_if_eq (tgt := 41) hx hb dX1_beginHearing_4 (by decide) (fun c2 => ?_) (fun c2 => ?_)
  · skip
    exact absurd c2 (fun z9 => (zn8 hj8) (zin8b hr1 z9))
  · skip
    refine lv_aload_n hx hb dX1_beginHearing_7 rfl (lv_at hl 0 rfl) ?_
    refine lv_iload_n hx hb dX1_beginHearing_8 rfl (lv_at hl 1 rfl) ?_
    refine vp_callSi (va_Run.run (va_runV (As := [.int (nI j8)]) (rest := []) ⟨hx, hb, hml, hown, hts⟩ (c_X1_isHeardBy_x l dC dI cy G S s.heap.size a (nI j8) hF.1) (cwV 1 hts gX1_beginHearing_X1_isHeardBy rfl rfl rfl (by decide +kernel) ⟨Nat.le_of_ble_eq_true rfl, Nat.le_of_ble_eq_true rfl⟩) (zpreV hK hP hD hN (zrecv1 hK hP hF.1)) rfl rfl hl.1 rfl (lv_room (Nat.le_of_ble_eq_true rfl)) dX1_beginHearing_9 ⟨Nat.le_of_ble_eq_true rfl, Nat.le_of_ble_eq_true rfl⟩)) (fun r3 hr3 => ?_)
    refine lv_if_ne (tgt := 41) hx hb dX1_beginHearing_12 (by decide) (fun c4 => ?_) (fun c4 => ?_)
    · skip
      exact W.vret hx hb hr (fun t ht hW => ⟨⟨S, rfl, (Or.inl ⟨zhb1 hr3 c4, rfl⟩), by rw [ht]; exact hP, va_K.moved hW.alike hK, hD⟩, hS.F ht⟩) hS.2.2 dX1_beginHearing_41
    · skip
      refine lv_aload_n hx hb dX1_beginHearing_15 rfl (lv_at hl 0 rfl) ?_
      refine lv_dup hx hb dX1_beginHearing_16 rfl ?_
      refine zget (ci := 1) (C := RX1) (T := TX1) (N := 9) hx hb hts hi1 hown hK hP hF.1 rfl rfl 6 (by decide) (hts (.fieldLink RX1 15 "LinCluster$Frame" "listeners" "I") (by decide +kernel)) (fun _ h9 => h9) rfl dX1_beginHearing_17 ?_
      refine lv_topi (fun v5 ev5 => ?_)
      refine lv_iconst (v := 1) hx hb dX1_beginHearing_20 (by decide) ?_
      refine lv_iload_n hx hb dX1_beginHearing_21 rfl (lv_at hl 1 rfl) ?_
      refine lv_ishl hx hb dX1_beginHearing_22 ?_
      refine lv_topi (fun v6 ev6 => ?_)
      refine lv_ior hx hb dX1_beginHearing_23 ?_
      refine lv_topi (fun v7 ev7 => ?_)
      refine zputi (ci := 1) (v := v7) (ty := .int) (C := RX1) (T := TX1) (N := 9) hx hb hts hi1 tyX1 tyX1_ok nmX1 hown hK hP hD hS hF.1 rfl rfl 6 (by decide) (hts (.fieldLink RX1 15 "LinCluster$Frame" "listeners" "I") (by decide +kernel)) (fun _ h9 => h9) rfl (by decide +kernel) rfl rfl (Nat.le_of_ble_eq_true rfl) rfl dX1_beginHearing_24 (fun H locs hP hD hS => ?_)
      refine lv_aload_n hx hb dX1_beginHearing_27 rfl (lv_at hl 0 rfl) ?_
      refine zget (ci := 1) (C := RX1) (T := TX1) (N := 9) hx hb hts hi1 hown hK hP hF.1 rfl rfl 7 (by decide) (hts (.fieldLink RX1 19 "LinCluster$Frame" "kept" "[J") (by decide +kernel)) (fun _ h9 => h9) (v := .ref ka) (congrArg (fun z => some (va_rf z)) (hF.2.1)) dX1_beginHearing_28 ?_
      refine lv_iload_n hx hb dX1_beginHearing_31 rfl (lv_at hl 1 rfl) ?_
      refine lv_lconst (v := 0) hx hb dX1_beginHearing_32 (by decide) ?_
      refine zlast (x := 0) hx hb hK hP hD hS hF.2.2.2.2.1 hF.2.2.2.2.2.1 (vp_in_nI (n := j8) (by omega) (by omega)) dX1_beginHearing_33 (fun H locs hP hD hS => ?_)
      rw [nI_clamp (n := j8) (by omega)] at hP hD
      refine lv_aload_n hx hb dX1_beginHearing_34 rfl (lv_at hl 0 rfl) ?_
      refine zget (ci := 1) (C := RX1) (T := TX1) (N := 9) hx hb hts hi1 hown hK hP hF.1 rfl rfl 8 (by decide) (hts (.fieldLink RX1 23 "LinCluster$Frame" "takings" "[I") (by decide +kernel)) (fun _ h9 => h9) (v := .ref ta) (congrArg (fun z => some (va_rf z)) (hF.2.2.1)) dX1_beginHearing_35 ?_
      refine lv_iload_n hx hb dX1_beginHearing_38 rfl (lv_at hl 1 rfl) ?_
      refine lv_iconst (v := 0) hx hb dX1_beginHearing_39 (by decide) ?_
      refine ziast (x := 0) hx hb hK hP hD hS hF.2.2.2.2.2.2.1 hF.2.2.2.2.2.2.2 (vp_in_nI (n := j8) (by omega) (by omega)) dX1_beginHearing_40 (fun H locs hP hD hS => ?_)
      rw [nI_clamp (n := j8) (by omega)] at hP hD
      exact W.vret hx hb hr (fun t ht hW => ⟨⟨(zpi (zpj (zpi S a 6 v7) ka j8 0) ta j8 0), rfl, (Or.inr ⟨zhb0 hr3 c4, by subst_vars; rfl⟩), by rw [ht]; exact hP, va_K.moved hW.alike hK, hD⟩, hS.F ht⟩) hS.2.2 dX1_beginHearing_41
set_option maxHeartbeats 4000000 in
set_option maxRecDepth 100000 in
theorem c_X1_endHearing (l : Launch) (dC : Nat → ClassId) (dI : Nat → Nat → Nat) (cy : Nat → ClassId) (G : zG) (S : zS) (sz : Nat) (a : Nat) (n : Int32) (hO : zO G a 1) : Met l yX1_endHearing wsX1_endHearing ({ frames := 0, cells := 0, slots := 0, locals := 0 }) (zP dC dI cy [.ref a, .int n] G S sz) (va_Qv (fun S' => S' = zpi S a 6 (S.1 a 6 &&& ((1 <<< (n &&& 31)) ^^^ (-1)))) (zB dC dI cy (zA cy G S sz) G) (zA cy G S sz)) 0 0 (zA cy G S sz) := by
  refine Met.ofW (cc := cX1_endHearing) (maxL := 2) (ret := none) (by decide) rfl ?_
  intro p e s m args below meth c s₁ B hml hv
  obtain ⟨rfl, hsz, hP, hK, hD0, hN⟩ := hv
  have hx := B.exec
  have hb := B.bytes
  have hr := B.returns
  have hts := atoms_spec (ws := wsX1_endHearing) B.pre
  have hown : s.vm.findClass RX1 = some m.cls := findClass_of_methodNamed B.named
  have hlocks := B.notSynchronized
  subst hsz
  have hD : va_D (zA cy G S s.heap.size) (zW cy G S) := hD0.self
  generalize hAe : zA cy G S s.heap.size = A at hD ⊢
  have hA : ∀ q : Nat, s.heap.size ≤ q → A q := fun q h => by rw [← hAe]; exact Or.inr h
  have hS : va_S A s.heap s.heap [] := va_S.rf
  have hst := zSt.refl G S
  have hl := lv_entry ([.ref a, .int n]) (n := 2) (Nat.le_of_ble_eq_true rfl)
  rw [lg_entry_eq]
  generalize (lg_sl ([.ref a, .int n]) ++ List.replicate (2 - (lg_sl ([.ref a, .int n])).length) Slot.unset).toArray = ls at hl ⊢
  have hl : lv_has ls 2 [(0, .ref a), (1, .int n)] := hl
  have hi1 : ∀ w ∈ wsX10, w ∈ wsX1_endHearing := by decide +kernel
  refine lv_aload_n hx hb dX1_endHearing_0 rfl (lv_at hl 0 rfl) ?_
  refine lv_dup hx hb dX1_endHearing_1 rfl ?_
  refine zget (ci := 1) (C := RX1) (T := TX1) (N := 9) hx hb hts hi1 hown hK hP hO rfl rfl 6 (by decide) (hts (.fieldLink RX1 15 "LinCluster$Frame" "listeners" "I") (by decide +kernel)) (fun _ h9 => h9) rfl dX1_endHearing_2 ?_
  refine lv_topi (fun v1 ev1 => ?_)
  refine lv_iconst (v := 1) hx hb dX1_endHearing_5 (by decide) ?_
  refine lv_iload_n hx hb dX1_endHearing_6 rfl (lv_at hl 1 rfl) ?_
  refine lv_ishl hx hb dX1_endHearing_7 ?_
  refine lv_topi (fun v2 ev2 => ?_)
  refine lv_iconst (v := (-1)) hx hb dX1_endHearing_8 (by decide) ?_
  refine lv_ixor hx hb dX1_endHearing_9 ?_
  refine lv_topi (fun v3 ev3 => ?_)
  refine lv_iand hx hb dX1_endHearing_10 ?_
  refine lv_topi (fun v4 ev4 => ?_)
  refine zputi (ci := 1) (v := v4) (ty := .int) (C := RX1) (T := TX1) (N := 9) hx hb hts hi1 tyX1 tyX1_ok nmX1 hown hK hP hD hS hO rfl rfl 6 (by decide) (hts (.fieldLink RX1 15 "LinCluster$Frame" "listeners" "I") (by decide +kernel)) (fun _ h9 => h9) rfl (by decide +kernel) rfl rfl (Nat.le_of_ble_eq_true rfl) rfl dX1_endHearing_11 (fun H locs hP hD hS => ?_)
  exact W.vret hx hb hr (fun t ht hW => ⟨⟨(zpi S a 6 v4), rfl, (by subst_vars; rfl), by rw [ht]; exact hP, va_K.moved hW.alike hK, hD⟩, hS.F ht⟩) hS.2.2 dX1_endHearing_14
set_option maxHeartbeats 4000000 in
set_option maxRecDepth 100000 in
theorem c_X1_changeByte (l : Launch) (dC : Nat → ClassId) (dI : Nat → Nat → Nat) (cy : Nat → ClassId) (G : zG) (S : zS) (sz : Nat) (a : Nat) (n v : Int32) (hO : zO G a 1) : Met l yX1_changeByte wsX1_changeByte ({ frames := 1, cells := 0, slots := 0, locals := 22 }) (zP dC dI cy [.ref a, .int n, .int v] G S sz) (va_Qi (fun (r : Int32) S' => r = zbyte (S.2.1 a 5) n ∧ S' = zpj S a 5 (S.2.1 a 5 ^^^ ((zbyte (S.2.1 a 5) n ^^^ v).toInt64 <<< ((8 * n).toInt64 &&& 63)))) (zB dC dI cy (zA cy G S sz) G) (zA cy G S sz)) 0 0 (zA cy G S sz) := by
  refine Met.ofW (cc := cX1_changeByte) (maxL := 4) (ret := (some .int)) (by decide) rfl ?_
  intro p e s m args below meth c s₁ B hml hv
  obtain ⟨rfl, hsz, hP, hK, hD0, hN⟩ := hv
  have hx := B.exec
  have hb := B.bytes
  have hr := B.returns
  have hts := atoms_spec (ws := wsX1_changeByte) B.pre
  have hown : s.vm.findClass RX1 = some m.cls := findClass_of_methodNamed B.named
  have hlocks := B.notSynchronized
  subst hsz
  have hD : va_D (zA cy G S s.heap.size) (zW cy G S) := hD0.self
  generalize hAe : zA cy G S s.heap.size = A at hD ⊢
  have hA : ∀ q : Nat, s.heap.size ≤ q → A q := fun q h => by rw [← hAe]; exact Or.inr h
  have hS : va_S A s.heap s.heap [] := va_S.rf
  have hst := zSt.refl G S
  have hl := lv_entry ([.ref a, .int n, .int v]) (n := 4) (Nat.le_of_ble_eq_true rfl)
  rw [lg_entry_eq]
  generalize (lg_sl ([.ref a, .int n, .int v]) ++ List.replicate (4 - (lg_sl ([.ref a, .int n, .int v])).length) Slot.unset).toArray = ls at hl ⊢
  have hl : lv_has ls 4 [(0, .ref a), (1, .int n), (2, .int v)] := hl
  have hi1 : ∀ w ∈ wsX10, w ∈ wsX1_changeByte := by decide +kernel
  refine lv_aload_n hx hb dX1_changeByte_0 rfl (lv_at hl 0 rfl) ?_
  refine zget (ci := 1) (C := RX1) (T := TX1) (N := 9) hx hb hts hi1 hown hK hP hO rfl rfl 5 (by decide) (hts (.fieldLink RX1 9 "LinCluster$Frame" "bytes" "J") (by decide +kernel)) (fun _ h9 => h9) rfl dX1_changeByte_1 ?_
  refine lv_topl (fun v1 ev1 => ?_)
  refine lv_iload_n hx hb dX1_changeByte_4 rfl (lv_at hl 1 rfl) ?_
  refine vp_callSi (va_Run.run (va_runSN (As := [.long v1, .int n]) (rest := []) ⟨hx, hb, hml, hown, hts⟩ (c_X6_byteOf_x l v1 n) ⟨va_cnB 2 hts gX1_changeByte_X6_byteOf_n47 rfl rfl rfl (zN_X1_47 hN) (hts (.initialized RX6) (by decide +kernel)) (by decide +kernel) ⟨Nat.le_of_ble_eq_true rfl, Nat.le_of_ble_eq_true rfl⟩, hts (.static yX6_byteOf) (by decide +kernel), trivial⟩ zpreS0 rfl rfl hl.1 rfl (lv_room (Nat.le_of_ble_eq_true rfl)) dX1_changeByte_5 ⟨Nat.le_of_ble_eq_true rfl, Nat.le_of_ble_eq_true rfl⟩)) (fun r2 hr2 => ?_)
  refine lv_istore_n (lv' := [(3, .int r2), (0, .ref a), (1, .int n), (2, .int v)]) hx hb dX1_changeByte_8 rfl hl (by decide) rfl (fun ls hl => ?_)
  refine lv_aload_n hx hb dX1_changeByte_9 rfl (lv_at hl 1 rfl) ?_
  refine lv_dup hx hb dX1_changeByte_10 rfl ?_
  refine zget (ci := 1) (C := RX1) (T := TX1) (N := 9) hx hb hts hi1 hown hK hP hO rfl rfl 5 (by decide) (hts (.fieldLink RX1 9 "LinCluster$Frame" "bytes" "J") (by decide +kernel)) (fun _ h9 => h9) rfl dX1_changeByte_11 ?_
  refine lv_topl (fun v3 ev3 => ?_)
  refine lv_iload_n hx hb dX1_changeByte_14 rfl (lv_at hl 0 rfl) ?_
  refine lv_iload_n hx hb dX1_changeByte_15 rfl (lv_at hl 3 rfl) ?_
  refine lv_ixor hx hb dX1_changeByte_16 ?_
  refine lv_topi (fun v4 ev4 => ?_)
  refine lv_i2l hx hb dX1_changeByte_17 rfl ?_
  refine lv_topl (fun v5 ev5 => ?_)
  refine lv_bipush (v := 8) hx hb dX1_changeByte_18 (by decide) ?_
  refine lv_iload_n hx hb dX1_changeByte_20 rfl (lv_at hl 2 rfl) ?_
  refine lv_imul hx hb dX1_changeByte_21 ?_
  refine lv_topi (fun v6 ev6 => ?_)
  refine lv_lshl hx hb dX1_changeByte_22 rfl ?_
  refine lv_topl (fun v7 ev7 => ?_)
  refine lv_lxor hx hb dX1_changeByte_23 ?_
  refine lv_topl (fun v8 ev8 => ?_)
  refine zputj (ci := 1) (v := v8) (ty := .long) (C := RX1) (T := TX1) (N := 9) hx hb hts hi1 tyX1 tyX1_ok nmX1 hown hK hP hD hS hO rfl rfl 5 (by decide) (hts (.fieldLink RX1 9 "LinCluster$Frame" "bytes" "J") (by decide +kernel)) (fun _ h9 => h9) rfl (by decide +kernel) rfl rfl (Nat.le_of_ble_eq_true rfl) rfl dX1_changeByte_24 (fun H locs hP hD hS => ?_)
  refine lv_iload_n hx hb dX1_changeByte_27 rfl (lv_at hl 0 rfl) ?_
  exact W.iret (v := r2) hx hb hr (fun t ht hW => ⟨⟨r2, (zpj S a 5 v8), rfl, ⟨by subst_vars; rfl, by subst_vars; rfl⟩, by rw [ht]; exact hP, va_K.moved hW.alike hK, hD⟩, hS.F ht⟩) hS.2.2 dX1_changeByte_28
set_option maxHeartbeats 4000000 in
set_option maxRecDepth 100000 in
theorem c_X1_init (l : Launch) (dC : Nat → ClassId) (dI : Nat → Nat → Nat) (cy : Nat → ClassId) (G : zG) (S : zS) (sz : Nat) (a : Nat) (n k b v : Int32) (hO_a : zO G a 1) (hv : v = 0 ∨ v = 1) : Met l yX1_init wsX1_init ({ frames := 1, cells := 2, slots := 16, locals := 22 }) (zP dC dI cy [.ref a, .int n, .int k, .int b, .int v] G S sz) (va_Qv (fun u : zG × zS => ∃ q1 q2 : Nat, q1 ∉ G.1 ∧ q2 ∉ (zGn G q1 9 8).1 ∧ u = ((zGn (zGn G q1 9 8) q2 8 8), (zpi (zpi (zpi (zpi (zpi (zpq (zSn (zpq (zSn (zpi (zpj S a 5 0) a 6 0) q1) a 7 (some q1)) q2) a 8 (some q2)) a 0 n) a 1 k) a 2 b) a 4 v) a 3 (zpid n)))) (fun u => zB dC dI cy (zA cy G S sz) u.1 u.2) (zA cy G S sz)) 2 16 (zA cy G S sz) := by
  refine Met.ofW (cc := cX1_init) (maxL := 5) (ret := none) (by decide) rfl ?_
  intro p e s m args below meth c s₁ B hml hv
  obtain ⟨rfl, hsz, hP, hK, hD0, hN⟩ := hv
  have hx := B.exec
  have hb := B.bytes
  have hr := B.returns
  have hts := atoms_spec (ws := wsX1_init) B.pre
  have hown : s.vm.findClass RX1 = some m.cls := findClass_of_methodNamed B.named
  have hlocks := B.notSynchronized
  have hin : meth.name = "<init>" := (name_of_methodNamed B.named B.method).1
  subst hsz
  have hD : va_D (zA cy G S s.heap.size) (zW cy G S) := hD0.self
  generalize hAe : zA cy G S s.heap.size = A at hD ⊢
  have hA : ∀ q : Nat, s.heap.size ≤ q → A q := fun q h => by rw [← hAe]; exact Or.inr h
  have hS : va_S A s.heap s.heap [] := va_S.rf
  have hl := lv_entry ([.ref a, .int n, .int k, .int b, .int v]) (n := 5) (Nat.le_of_ble_eq_true rfl)
  rw [lg_entry_eq]
  generalize (lg_sl ([.ref a, .int n, .int k, .int b, .int v]) ++ List.replicate (5 - (lg_sl ([.ref a, .int n, .int k, .int b, .int v])).length) Slot.unset).toArray = ls at hl ⊢
  have hl : lv_has ls 5 [(0, .ref a), (1, .int n), (2, .int k), (3, .int b), (4, .int v)] := hl
  have hi1 : ∀ w ∈ wsX10, w ∈ wsX1_init := by decide +kernel
  refine lv_aload_n hx hb dX1_init_0 rfl (lv_at hl 0 rfl) ?_
  refine W.objInit hx hb hown (hts (.methodLink RX1 3 objectInit) (by decide +kernel)) (hts (.instanceMethod objectInit) (by decide +kernel)) (hts (.code objectInit ⟨#[0xb1]⟩ 1 none) (by decide +kernel)) rfl (by rw [hml]; exact hl.1) rfl dX1_init_1 (Nat.le_of_ble_eq_true rfl) (Nat.le_of_ble_eq_true rfl) ?_
  refine W.eq (g2 := F0 m 4 ls []) rfl ?_
  refine lv_aload_n hx hb dX1_init_4 rfl (lv_at hl 0 rfl) ?_
  refine lv_lconst (v := 0) hx hb dX1_init_5 (by decide) ?_
  refine zputj (ci := 1) (v := 0) (ty := .long) (C := RX1) (T := TX1) (N := 9) hx hb hts hi1 tyX1 tyX1_ok nmX1 hown hK hP hD hS hO_a rfl rfl 5 (by decide) (hts (.fieldLink RX1 9 "LinCluster$Frame" "bytes" "J") (by decide +kernel)) (fun _ h9 => h9) rfl (by decide +kernel) rfl rfl (Nat.le_of_ble_eq_true rfl) rfl dX1_init_6 (fun H locs hP hD hS => ?_)
  refine lv_aload_n hx hb dX1_init_9 rfl (lv_at hl 0 rfl) ?_
  refine lv_iconst (v := 0) hx hb dX1_init_10 (by decide) ?_
  refine zputi (ci := 1) (v := 0) (ty := .int) (C := RX1) (T := TX1) (N := 9) hx hb hts hi1 tyX1 tyX1_ok nmX1 hown hK hP hD hS hO_a rfl rfl 6 (by decide) (hts (.fieldLink RX1 15 "LinCluster$Frame" "listeners" "I") (by decide +kernel)) (fun _ h9 => h9) rfl (by decide +kernel) rfl rfl (Nat.le_of_ble_eq_true rfl) rfl dX1_init_11 (fun H locs hP hD hS => ?_)
  refine lv_aload_n hx hb dX1_init_14 rfl (lv_at hl 0 rfl) ?_
  refine lv_bipush (v := 8) hx hb dX1_init_15 (by decide) ?_
  refine znewal (n := 8) (N' := 8) hx hb (hts (.arrayClass .long) (by decide +kernel)) hK hP hD hS hA (by decide) (by decide) (by decide) (Nat.le_of_ble_eq_true rfl) (Nat.le_of_ble_eq_true rfl) dX1_init_17 (fun q1 H hq_q1 hP hD hS => ?_)
  have hO_a := hO_a.gn (kd' := 9) (n := 8) hq_q1
  have hO_q1 := zO.nw G q1 9 8
  have hL_q1 := zGn_len G q1 9 8
  refine zputqF (ci := 1) (v := (some q1)) (ty := .array .long) (C := RX1) (T := TX1) (N := 9) hx hb hts hi1 tyX1 tyX1_ok nmX1 hown hK hP hD hS hO_a rfl rfl 7 (by decide) (hts (.fieldLink RX1 19 "LinCluster$Frame" "kept" "[J") (by decide +kernel)) (fun _ h9 => h9) rfl hin rfl (by decide +kernel) rfl rfl (Nat.le_of_ble_eq_true rfl) rfl dX1_init_19 (fun H locs hP hD hS => ?_)
  refine lv_aload_n hx hb dX1_init_22 rfl (lv_at hl 0 rfl) ?_
  refine lv_bipush (v := 8) hx hb dX1_init_23 (by decide) ?_
  refine znewai (n := 8) (N' := 8) hx hb (hts (.arrayClass .int) (by decide +kernel)) hK hP hD hS hA (by decide) (by decide) (by decide) (Nat.le_of_ble_eq_true rfl) (Nat.le_of_ble_eq_true rfl) dX1_init_25 (fun q2 H hq_q2 hP hD hS => ?_)
  have hO_a := hO_a.gn (kd' := 8) (n := 8) hq_q2
  have hL_q1 := (zGn_len' (hO_q1.ne hq_q2) 8 8).trans hL_q1
  have hO_q1 := hO_q1.gn (kd' := 8) (n := 8) hq_q2
  have hO_q2 := zO.nw (zGn G q1 9 8) q2 8 8
  have hL_q2 := zGn_len (zGn G q1 9 8) q2 8 8
  refine zputqF (ci := 1) (v := (some q2)) (ty := .array .int) (C := RX1) (T := TX1) (N := 9) hx hb hts hi1 tyX1 tyX1_ok nmX1 hown hK hP hD hS hO_a rfl rfl 8 (by decide) (hts (.fieldLink RX1 23 "LinCluster$Frame" "takings" "[I") (by decide +kernel)) (fun _ h9 => h9) rfl hin rfl (by decide +kernel) rfl rfl (Nat.le_of_ble_eq_true rfl) rfl dX1_init_27 (fun H locs hP hD hS => ?_)
  refine lv_aload_n hx hb dX1_init_30 rfl (lv_at hl 0 rfl) ?_
  refine lv_iload_n hx hb dX1_init_31 rfl (lv_at hl 1 rfl) ?_
  refine zputiF (ci := 1) (v := n) (ty := .int) (C := RX1) (T := TX1) (N := 9) hx hb hts hi1 tyX1 tyX1_ok nmX1 hown hK hP hD hS hO_a rfl rfl 0 (by decide) (hts (.fieldLink RX1 27 "LinCluster$Frame" "id" "I") (by decide +kernel)) (fun _ h9 => h9) rfl hin rfl (by decide +kernel) rfl rfl (Nat.le_of_ble_eq_true rfl) rfl dX1_init_32 (fun H locs hP hD hS => ?_)
  refine lv_aload_n hx hb dX1_init_35 rfl (lv_at hl 0 rfl) ?_
  refine lv_iload_n hx hb dX1_init_36 rfl (lv_at hl 2 rfl) ?_
  refine zputiF (ci := 1) (v := k) (ty := .int) (C := RX1) (T := TX1) (N := 9) hx hb hts hi1 tyX1 tyX1_ok nmX1 hown hK hP hD hS hO_a rfl rfl 1 (by decide) (hts (.fieldLink RX1 30 "LinCluster$Frame" "length" "I") (by decide +kernel)) (fun _ h9 => h9) rfl hin rfl (by decide +kernel) rfl rfl (Nat.le_of_ble_eq_true rfl) rfl dX1_init_37 (fun H locs hP hD hS => ?_)
  refine lv_aload_n hx hb dX1_init_40 rfl (lv_at hl 0 rfl) ?_
  refine lv_iload_n hx hb dX1_init_41 rfl (lv_at hl 3 rfl) ?_
  refine zputiF (ci := 1) (v := b) (ty := .int) (C := RX1) (T := TX1) (N := 9) hx hb hts hi1 tyX1 tyX1_ok nmX1 hown hK hP hD hS hO_a rfl rfl 2 (by decide) (hts (.fieldLink RX1 33 "LinCluster$Frame" "publisher" "I") (by decide +kernel)) (fun _ h9 => h9) rfl hin rfl (by decide +kernel) rfl rfl (Nat.le_of_ble_eq_true rfl) rfl dX1_init_42 (fun H locs hP hD hS => ?_)
  refine lv_aload_n hx hb dX1_init_45 rfl (lv_at hl 0 rfl) ?_
  refine lv_iload hx hb dX1_init_46 (lv_at hl 4 rfl) ?_
  refine zputiF (ci := 1) (v := v) (ty := .boolean) (C := RX1) (T := TX1) (N := 9) hx hb hts hi1 tyX1 tyX1_ok nmX1 hown hK hP hD hS hO_a rfl rfl 4 (by decide) (hts (.fieldLink RX1 36 "LinCluster$Frame" "enhanced" "Z") (by decide +kernel)) (fun _ h9 => h9) rfl hin rfl (by decide +kernel) (by rcases hv with h | h <;> rw [h] <;> rfl) (by rcases hv with h | h <;> rw [h] <;> rfl) (Nat.le_of_ble_eq_true rfl) rfl dX1_init_48 (fun H locs hP hD hS => ?_)
  refine lv_aload_n hx hb dX1_init_51 rfl (lv_at hl 0 rfl) ?_
  refine lv_iload_n hx hb dX1_init_52 rfl (lv_at hl 1 rfl) ?_
  refine vp_callSi (va_Run.run (va_runSN (As := [.int n]) (rest := [.ref a]) ⟨hx, hb, hml, hown, hts⟩ (c_X6_pidOf_x l n) ⟨va_cnB 1 hts gX1_init_X6_pidOf_n40 rfl rfl rfl (zN_X1_40 hN) (hts (.initialized RX6) (by decide +kernel)) (by decide +kernel) ⟨Nat.le_of_ble_eq_true rfl, Nat.le_of_ble_eq_true rfl⟩, hts (.static yX6_pidOf) (by decide +kernel), trivial⟩ zpreS0 rfl rfl hl.1 rfl (lv_room (Nat.le_of_ble_eq_true rfl)) dX1_init_53 ⟨Nat.le_of_ble_eq_true rfl, Nat.le_of_ble_eq_true rfl⟩)) (fun r3 hr3 => ?_)
  subst hr3
  refine zputiF (ci := 1) (v := (zpid n)) (ty := .int) (C := RX1) (T := TX1) (N := 9) hx hb hts hi1 tyX1 tyX1_ok nmX1 hown hK hP hD hS hO_a rfl rfl 3 (by decide) (hts (.fieldLink RX1 44 "LinCluster$Frame" "pid" "I") (by decide +kernel)) (fun _ h9 => h9) rfl hin rfl (by decide +kernel) rfl rfl (Nat.le_of_ble_eq_true rfl) rfl dX1_init_56 (fun H locs hP hD hS => ?_)
  refine W.widen (k := 2) (n := 16) (Nat.le_of_ble_eq_true rfl) (Nat.le_of_ble_eq_true rfl) ?_
  exact W.vret hx hb hr (fun t ht hW => ⟨⟨((zGn (zGn G q1 9 8) q2 8 8), (zpi (zpi (zpi (zpi (zpi (zpq (zSn (zpq (zSn (zpi (zpj S a 5 0) a 6 0) q1) a 7 (some q1)) q2) a 8 (some q2)) a 0 n) a 1 k) a 2 b) a 4 v) a 3 (zpid n))), rfl, ⟨q1, q2, hq_q1, hq_q2, rfl⟩, by rw [ht]; exact hP, va_K.moved hW.alike hK, hD⟩, hS.F ht⟩) hS.2.2 dX1_init_59
