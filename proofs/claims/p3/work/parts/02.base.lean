/-! The world as ONE pool: G = (addresses, the kind of each, the length of each array), S = (ints, longs, references), each by address and place. Kinds 0 .. 7 are the classes X0 .. X7, 8 int[], 9 long[], 10 boolean[], 11 Frame[], 12 Node[]. -/
abbrev zG : Type := List Nat × (Nat → Nat) × (Nat → Nat)
abbrev zS : Type := (Nat → Nat → Int32) × (Nat → Nat → Int64) × (Nat → Nat → Option Nat)
def zcell (cy : Nat → ClassId) (kd n : Nat) (i : Nat → Int32) (j : Nat → Int64) (q : Nat → Option Nat) : va_E := match kd with
  | 0 => .inr (0, [va_rf (q 0), va_rf (q 1), .int (i 2)])
  | 1 => .inr (1, [.int (i 0), .int (i 1), .int (i 2), .int (i 3), .int (i 4), .long (j 5), .int (i 6), va_rf (q 7), va_rf (q 8)])
  | 2 => .inr (2, [.int (i 0), .int (i 1)])
  | 3 => .inr (3, [.int (i 0), va_rf (q 1), va_rf (q 2), .int (i 3), va_rf (q 4), .int (i 5), .int (i 6), .int (i 7), .int (i 8), .int (i 9), .int (i 10), .int (i 11), .int (i 12), .int (i 13), .int (i 14)])
  | 4 => .inr (4, [va_rf (q 0), .long (j 1), .int (i 2), .int (i 3), .int (i 4), .int (i 5), .int (i 6)])
  | 5 => .inr (5, [va_rf (q 0), va_rf (q 1), .int (i 2), .int (i 3), .int (i 4), .int (i 5), .int (i 6), .int (i 7), .int (i 8), .int (i 9)])
  | 6 => .inr (6, [va_rf (q 0), va_rf (q 1), va_rf (q 2), va_rf (q 3), .int (i 4), .int (i 5), .long (j 6)])
  | 7 => .inr (7, [.int (i 0), va_rf (q 1), va_rf (q 2), va_rf (q 3), va_rf (q 4), va_rf (q 5), va_rf (q 6), va_rf (q 7), va_rf (q 8), .int (i 9), va_rf (q 10), va_rf (q 11), va_rf (q 12), va_rf (q 13), va_rf (q 14), va_rf (q 15), va_rf (q 16), va_rf (q 17), va_rf (q 18), va_rf (q 19), va_rf (q 20), va_rf (q 21), va_rf (q 22), va_rf (q 23), va_rf (q 24), va_rf (q 25), va_rf (q 26), va_rf (q 27), va_rf (q 28), va_rf (q 29), va_rf (q 30), va_rf (q 31), va_rf (q 32), .int (i 33), .int (i 34), .int (i 35), .int (i 36), .int (i 37), va_rf (q 38), va_rf (q 39), va_rf (q 40), .int (i 41)])
  | 8 => .inl (cy 0, n, .inl i)
  | 9 => .inl (cy 1, n, .inr (.inl j))
  | 10 => .inl (cy 2, n, .inl i)
  | 11 => .inl (cy 3, n, .inr (.inr (.inr (.inr q))))
  | _ => .inl (cy 4, n, .inr (.inr (.inr (.inr q))))
def zF (cy : Nat → ClassId) (G : zG) (S : zS) : Nat → va_E := fun a => zcell cy (G.2.1 a) (G.2.2 a) (S.1 a) (S.2.1 a) (S.2.2 a)
abbrev zW (cy : Nat → ClassId) (G : zG) (S : zS) : va_W := [] ++ va_pl G.1 (zF cy G S)
abbrev zT (cy : Nat → ClassId) : List (ClassId × FieldType) := [(cy 0, .int), (cy 1, .long), (cy 2, .boolean), (cy 3, .object RX1), (cy 4, .object RX3)]
/-- an address of a kind -/
abbrev zO (G : zG) (a kd : Nat) : Prop := a ∈ G.1 ∧ G.2.1 a = kd
def zpi (S : zS) (a k : Nat) (v : Int32) : zS := (va_up S.1 a (upd (S.1 a) k v), S.2.1, S.2.2)
def zpj (S : zS) (a k : Nat) (v : Int64) : zS := (S.1, va_up S.2.1 a (vp_updL (S.2.1 a) k v), S.2.2)
def zpq (S : zS) (a k : Nat) (v : Option Nat) : zS := (S.1, S.2.1, va_up S.2.2 a (va_up (S.2.2 a) k v))
theorem zpi_at (S : zS) (a k : Nat) (v : Int32) (b j : Nat) : (zpi S a k v).1 b j = if b = a ∧ j = k then v else S.1 b j := by
  by_cases h : b = a
  · subst h; by_cases h2 : j = k <;> simp [zpi, va_up, upd, h2]
  · simp [zpi, va_up, h]
theorem zpj_at (S : zS) (a k : Nat) (v : Int64) (b j : Nat) : (zpj S a k v).2.1 b j = if b = a ∧ j = k then v else S.2.1 b j := by
  by_cases h : b = a
  · subst h; by_cases h2 : j = k <;> simp [zpj, va_up, vp_updL, h2]
  · simp [zpj, va_up, h]
theorem zpq_at (S : zS) (a k : Nat) (v : Option Nat) (b j : Nat) : (zpq S a k v).2.2 b j = if b = a ∧ j = k then v else S.2.2 b j := by
  by_cases h : b = a
  · subst h; by_cases h2 : j = k <;> simp [zpq, va_up, h2]
  · simp [zpq, va_up, h]
theorem zg {cy : Nat → ClassId} {G : zG} (S : zS) {a kd : Nat} (h : zO G a kd) : ∃ k : Nat, (zW cy G S)[k]? = some (a, zcell cy kd (G.2.2 a) (S.1 a) (S.2.1 a) (S.2.2 a)) := by
  obtain ⟨k, hk⟩ := va_pl_get (X := []) (f := zF cy G S) h.1
  refine ⟨k, hk.trans ?_⟩
  rw [← h.2]; rfl
theorem zset {cy : Nat → ClassId} {G : zG} {S : zS} {A : Nat → Prop} {a kd k : Nat} (hD : va_D A (zW cy G S)) (h : zO G a kd) (hk : (zW cy G S)[k]? = some (a, zcell cy kd (G.2.2 a) (S.1 a) (S.2.1 a) (S.2.2 a)))
    {S' : zS} {e : va_E} (he : e = zcell cy kd (G.2.2 a) (S'.1 a) (S'.2.1 a) (S'.2.2 a)) (hi : ∀ b, b ≠ a → S'.1 b = S.1 b) (hj : ∀ b, b ≠ a → S'.2.1 b = S.2.1 b) (hq : ∀ b, b ≠ a → S'.2.2 b = S.2.2 b) : (zW cy G S).set k (a, e) = zW cy G S' := by
  have hk' : (([] : va_W) ++ va_pl G.1 (zF cy G S))[k]? = some (a, zF cy G S a) := hk.trans (by rw [← h.2]; rfl)
  have h1 := va_pl_set (e := e) hD h.1 hk'
  refine h1.trans (congrArg (fun l => ([] : va_W) ++ l) (va_pl_congr ?_))
  intro b
  by_cases hb : b = a
  · subst hb; rw [va_up_self, he, ← h.2]; rfl
  · rw [va_up_ne _ _ hb]; unfold zF; rw [hi b hb, hj b hb, hq b hb]
theorem zseti {cy : Nat → ClassId} {G : zG} {S : zS} {A : Nat → Prop} {a kd k : Nat} (hD : va_D A (zW cy G S)) (h : zO G a kd) (hk : (zW cy G S)[k]? = some (a, zcell cy kd (G.2.2 a) (S.1 a) (S.2.1 a) (S.2.2 a))) {j : Nat} {v : Int32} {e : va_E} (he : e = zcell cy kd (G.2.2 a) (upd (S.1 a) j v) (S.2.1 a) (S.2.2 a)) : (zW cy G S).set k (a, e) = zW cy G (zpi S a j v) :=
  zset hD h hk (S' := zpi S a j v) (he.trans (by show _ = zcell cy kd (G.2.2 a) (va_up S.1 a (upd (S.1 a) j v) a) _ _; rw [va_up_self]; rfl)) (fun b hb => va_up_ne _ _ hb) (fun _ _ => rfl) (fun _ _ => rfl)
theorem zsetj {cy : Nat → ClassId} {G : zG} {S : zS} {A : Nat → Prop} {a kd k : Nat} (hD : va_D A (zW cy G S)) (h : zO G a kd) (hk : (zW cy G S)[k]? = some (a, zcell cy kd (G.2.2 a) (S.1 a) (S.2.1 a) (S.2.2 a))) {j : Nat} {v : Int64} {e : va_E} (he : e = zcell cy kd (G.2.2 a) (S.1 a) (vp_updL (S.2.1 a) j v) (S.2.2 a)) : (zW cy G S).set k (a, e) = zW cy G (zpj S a j v) :=
  zset hD h hk (S' := zpj S a j v) (he.trans (by show _ = zcell cy kd (G.2.2 a) _ (va_up S.2.1 a (vp_updL (S.2.1 a) j v) a) _; rw [va_up_self]; rfl)) (fun _ _ => rfl) (fun b hb => va_up_ne _ _ hb) (fun _ _ => rfl)
theorem zsetq {cy : Nat → ClassId} {G : zG} {S : zS} {A : Nat → Prop} {a kd k : Nat} (hD : va_D A (zW cy G S)) (h : zO G a kd) (hk : (zW cy G S)[k]? = some (a, zcell cy kd (G.2.2 a) (S.1 a) (S.2.1 a) (S.2.2 a))) {j : Nat} {v : Option Nat} {e : va_E} (he : e = zcell cy kd (G.2.2 a) (S.1 a) (S.2.1 a) (va_up (S.2.2 a) j v)) : (zW cy G S).set k (a, e) = zW cy G (zpq S a j v) :=
  zset hD h hk (S' := zpq S a j v) (he.trans (by show _ = zcell cy kd (G.2.2 a) _ _ (va_up S.2.2 a (va_up (S.2.2 a) j v) a); rw [va_up_self]; rfl)) (fun _ _ => rfl) (fun _ _ => rfl) (fun b hb => va_up_ne _ _ hb)
/-- the links of nest mates, which no word list carries -/
def zN (U : State) : Prop := va_Nw (.methodLinkNest RX6 23 yX5_init RX6) U ∧ va_Nw (.methodLinkNest RX6 30 yX0_init RX6) U ∧ va_Nw (.methodLinkNest RX3 11 yX2_init RX6) U ∧ va_Nw (.methodLinkNest RX3 20 yX4_init RX6) U ∧ va_Nw (.methodLinkNest RX1 40 yX6_pidOf RX6) U ∧ va_Nw (.methodLinkNest RX1 57 yX6_isNode RX6) U ∧ va_Nw (.methodLinkNest RX1 47 yX6_byteOf RX6) U ∧ va_Nw (.methodLinkNest RX5 52 yX6_pidOf RX6) U ∧ va_Nw (.methodLinkNest RX5 55 yX6_characterBit RX6) U ∧ va_Nw (.methodLinkNest RX4 48 yX6_byteOf RX6) U ∧ va_Nw (.methodLinkNest RX4 52 yX6_characterBit RX6) U ∧ va_Nw (.methodLinkNest RX3 106 yX6_idOf RX6) U
theorem zN.warm {s U : State} (hW : s.WarmedH U.vm) (h : zN s) : zN U := by
  obtain ⟨h0, h1, h2, h3, h4, h5, h6, h7, h8, h9, h10, h11⟩ := h
  exact ⟨va_Nw.warmM hW h0, va_Nw.warmM hW h1, va_Nw.warmM hW h2, va_Nw.warmM hW h3, va_Nw.warmM hW h4, va_Nw.warmM hW h5, va_Nw.warmM hW h6, va_Nw.warmM hW h7, va_Nw.warmM hW h8, va_Nw.warmM hW h9, va_Nw.warmM hW h10, va_Nw.warmM hW h11⟩
theorem zN.vm {s U : State} (hv : s.vm = U.vm) (h : zN s) : zN U := by
  obtain ⟨h0, h1, h2, h3, h4, h5, h6, h7, h8, h9, h10, h11⟩ := h
  exact ⟨va_tabs rfl hv h0, va_tabs rfl hv h1, va_tabs rfl hv h2, va_tabs rfl hv h3, va_tabs rfl hv h4, va_tabs rfl hv h5, va_tabs rfl hv h6, va_tabs rfl hv h7, va_tabs rfl hv h8, va_tabs rfl hv h9, va_tabs rfl hv h10, va_tabs rfl hv h11⟩
theorem zN_X6_23 {s : State} (h : zN s) : va_Nw (.methodLinkNest RX6 23 yX5_init RX6) s := h.1
theorem zN_X6_30 {s : State} (h : zN s) : va_Nw (.methodLinkNest RX6 30 yX0_init RX6) s := h.2.1
theorem zN_X3_11 {s : State} (h : zN s) : va_Nw (.methodLinkNest RX3 11 yX2_init RX6) s := h.2.2.1
theorem zN_X3_20 {s : State} (h : zN s) : va_Nw (.methodLinkNest RX3 20 yX4_init RX6) s := h.2.2.2.1
theorem zN_X1_40 {s : State} (h : zN s) : va_Nw (.methodLinkNest RX1 40 yX6_pidOf RX6) s := h.2.2.2.2.1
theorem zN_X1_57 {s : State} (h : zN s) : va_Nw (.methodLinkNest RX1 57 yX6_isNode RX6) s := h.2.2.2.2.2.1
theorem zN_X1_47 {s : State} (h : zN s) : va_Nw (.methodLinkNest RX1 47 yX6_byteOf RX6) s := h.2.2.2.2.2.2.1
theorem zN_X5_52 {s : State} (h : zN s) : va_Nw (.methodLinkNest RX5 52 yX6_pidOf RX6) s := h.2.2.2.2.2.2.2.1
theorem zN_X5_55 {s : State} (h : zN s) : va_Nw (.methodLinkNest RX5 55 yX6_characterBit RX6) s := h.2.2.2.2.2.2.2.2.1
theorem zN_X4_48 {s : State} (h : zN s) : va_Nw (.methodLinkNest RX4 48 yX6_byteOf RX6) s := h.2.2.2.2.2.2.2.2.2.1
theorem zN_X4_52 {s : State} (h : zN s) : va_Nw (.methodLinkNest RX4 52 yX6_characterBit RX6) s := h.2.2.2.2.2.2.2.2.2.2.1
theorem zN_X3_106 {s : State} (h : zN s) : va_Nw (.methodLinkNest RX3 106 yX6_idOf RX6) s := h.2.2.2.2.2.2.2.2.2.2.2
/-! what a contract takes and gives back -/
abbrev zU (dC : Nat → ClassId) (dI : Nat → Nat → Nat) (cy : Nat → ClassId) (G : zG) (S : zS) (sz : Nat) (U : State) : Prop := U.heap.size = sz ∧ va_P (dC, dI) vwCl (zW cy G S) U.heap ∧ va_K (dC, dI) vwCl (zT cy) U ∧ va_D (fun _ => True) (zW cy G S) ∧ zN U
abbrev zP (dC : Nat → ClassId) (dI : Nat → Nat → Nat) (cy : Nat → ClassId) (av : List Value) (G : zG) (S : zS) (sz : Nat) : Array Value → State → Prop := va_Pc av (zU dC dI cy G S sz)
abbrev zB (dC : Nat → ClassId) (dI : Nat → Nat → Nat) (cy : Nat → ClassId) (A : Nat → Prop) (G : zG) (S : zS) (t : State) : Prop := va_P (dC, dI) vwCl (zW cy G S) t.heap ∧ va_K (dC, dI) vwCl (zT cy) t ∧ va_D A (zW cy G S)
abbrev zA (cy : Nat → ClassId) (G : zG) (S : zS) (sz : Nat) : Nat → Prop := va_A (zW cy G S) sz
theorem zblind {dC : Nat → ClassId} {dI : Nat → Nat → Nat} {cy : Nat → ClassId} {av : List Value} {G : zG} {S : zS} {sz : Nat} : FrameBlind (zP dC dI cy av G S sz) := fun a U g mk q => by
  obtain ⟨q0, q1, qP, qK, qD, qN⟩ := q
  exact ⟨q0, q1, qP, va_K.moved (u := U) (U := U.calling g mk a) (Vm.Alike.refl U.vm) qK, qD, zN.vm (s := U) (U := U.calling g mk a) rfl qN⟩
theorem zpreS {dC : Nat → ClassId} {dI : Nat → Nat → Nat} {cy : Nat → ClassId} {G : zG} {S : zS} {s : State} {H : Heap} {A : Nat → Prop} {As : List Value} (hK : va_K (dC, dI) vwCl (zT cy) s) (hP : va_P (dC, dI) vwCl (zW cy G S) H) (hD : va_D A (zW cy G S)) (hN : zN s) : PreS s H (zP dC dI cy As G S H.size) As :=
  ⟨zblind, fun U hU hW => ⟨rfl, by rw [hU], by rw [hU]; exact hP, va_K.moved hW.alike hK, hD.weaken (fun _ _ _ _ => trivial), zN.warm hW hN⟩⟩
theorem zpreV {dC : Nat → ClassId} {dI : Nat → Nat → Nat} {cy : Nat → ClassId} {G : zG} {S : zS} {s : State} {H : Heap} {A : Nat → Prop} {C : String} {b : Nat} {As : List Value} (hK : va_K (dC, dI) vwCl (zT cy) s) (hP : va_P (dC, dI) vwCl (zW cy G S) H) (hD : va_D A (zW cy G S)) (hN : zN s) (hr : ∃ cell : Cell, H[b]? = some cell ∧ cell.vm.isStatics = false ∧ s.vm.findClass C = some cell.cls) : PreV s H C b (zP dC dI cy (.ref b :: As) G S H.size) As :=
  ⟨zblind, hr, fun U hU hW => ⟨rfl, by rw [hU], by rw [hU]; exact hP, va_K.moved hW.alike hK, hD.weaken (fun _ _ _ _ => trivial), zN.warm hW hN⟩⟩
theorem zfree {A : Nat → Prop} {H0 H : Heap} {locs : List Loc} {cy : Nat → ClassId} {G : zG} {S : zS} (hD : va_D A (zW cy G S)) (hS : va_S A H0 H locs) (hA : ∀ q, H0.size ≤ q → A q) : ∀ q, zA cy G S H.size q → A q := by
  intro q h
  rcases h with ⟨k, e, h⟩ | h
  · exact hD.2 k (q, e) h
  · exact hA q (Nat.le_trans hS.1 h)

theorem zrecv0 {dC : Nat → ClassId} {dI : Nat → Nat → Nat} {cy : Nat → ClassId} {G : zG} {S : zS} {s : State} {H : Heap} {a : Nat} (hK : va_K (dC, dI) vwCl (zT cy) s) (hP : va_P (dC, dI) vwCl (zW cy G S) H) (h : zO G a 0) : ∃ cell : Cell, H[a]? = some cell ∧ cell.vm.isStatics = false ∧ s.vm.findClass RX0 = some cell.cls := by
  obtain ⟨k, hk⟩ := zg (cy := cy) S h
  exact va_recv hK hP (ci := 0) (q0 := k) (q := (RX0, TX0, 3)) rfl hk
theorem zrecv1 {dC : Nat → ClassId} {dI : Nat → Nat → Nat} {cy : Nat → ClassId} {G : zG} {S : zS} {s : State} {H : Heap} {a : Nat} (hK : va_K (dC, dI) vwCl (zT cy) s) (hP : va_P (dC, dI) vwCl (zW cy G S) H) (h : zO G a 1) : ∃ cell : Cell, H[a]? = some cell ∧ cell.vm.isStatics = false ∧ s.vm.findClass RX1 = some cell.cls := by
  obtain ⟨k, hk⟩ := zg (cy := cy) S h
  exact va_recv hK hP (ci := 1) (q0 := k) (q := (RX1, TX1, 9)) rfl hk
theorem zrecv2 {dC : Nat → ClassId} {dI : Nat → Nat → Nat} {cy : Nat → ClassId} {G : zG} {S : zS} {s : State} {H : Heap} {a : Nat} (hK : va_K (dC, dI) vwCl (zT cy) s) (hP : va_P (dC, dI) vwCl (zW cy G S) H) (h : zO G a 2) : ∃ cell : Cell, H[a]? = some cell ∧ cell.vm.isStatics = false ∧ s.vm.findClass RX2 = some cell.cls := by
  obtain ⟨k, hk⟩ := zg (cy := cy) S h
  exact va_recv hK hP (ci := 2) (q0 := k) (q := (RX2, TX2, 2)) rfl hk
theorem zrecv3 {dC : Nat → ClassId} {dI : Nat → Nat → Nat} {cy : Nat → ClassId} {G : zG} {S : zS} {s : State} {H : Heap} {a : Nat} (hK : va_K (dC, dI) vwCl (zT cy) s) (hP : va_P (dC, dI) vwCl (zW cy G S) H) (h : zO G a 3) : ∃ cell : Cell, H[a]? = some cell ∧ cell.vm.isStatics = false ∧ s.vm.findClass RX3 = some cell.cls := by
  obtain ⟨k, hk⟩ := zg (cy := cy) S h
  exact va_recv hK hP (ci := 3) (q0 := k) (q := (RX3, TX3, 15)) rfl hk
theorem zrecv4 {dC : Nat → ClassId} {dI : Nat → Nat → Nat} {cy : Nat → ClassId} {G : zG} {S : zS} {s : State} {H : Heap} {a : Nat} (hK : va_K (dC, dI) vwCl (zT cy) s) (hP : va_P (dC, dI) vwCl (zW cy G S) H) (h : zO G a 4) : ∃ cell : Cell, H[a]? = some cell ∧ cell.vm.isStatics = false ∧ s.vm.findClass RX4 = some cell.cls := by
  obtain ⟨k, hk⟩ := zg (cy := cy) S h
  exact va_recv hK hP (ci := 4) (q0 := k) (q := (RX4, TX4, 7)) rfl hk
theorem zrecv5 {dC : Nat → ClassId} {dI : Nat → Nat → Nat} {cy : Nat → ClassId} {G : zG} {S : zS} {s : State} {H : Heap} {a : Nat} (hK : va_K (dC, dI) vwCl (zT cy) s) (hP : va_P (dC, dI) vwCl (zW cy G S) H) (h : zO G a 5) : ∃ cell : Cell, H[a]? = some cell ∧ cell.vm.isStatics = false ∧ s.vm.findClass RX5 = some cell.cls := by
  obtain ⟨k, hk⟩ := zg (cy := cy) S h
  exact va_recv hK hP (ci := 5) (q0 := k) (q := (RX5, TX5, 10)) rfl hk
theorem zrecv6 {dC : Nat → ClassId} {dI : Nat → Nat → Nat} {cy : Nat → ClassId} {G : zG} {S : zS} {s : State} {H : Heap} {a : Nat} (hK : va_K (dC, dI) vwCl (zT cy) s) (hP : va_P (dC, dI) vwCl (zW cy G S) H) (h : zO G a 6) : ∃ cell : Cell, H[a]? = some cell ∧ cell.vm.isStatics = false ∧ s.vm.findClass RX6 = some cell.cls := by
  obtain ⟨k, hk⟩ := zg (cy := cy) S h
  exact va_recv hK hP (ci := 6) (q0 := k) (q := (RX6, TX6, 7)) rfl hk
theorem zrecv7 {dC : Nat → ClassId} {dI : Nat → Nat → Nat} {cy : Nat → ClassId} {G : zG} {S : zS} {s : State} {H : Heap} {a : Nat} (hK : va_K (dC, dI) vwCl (zT cy) s) (hP : va_P (dC, dI) vwCl (zW cy G S) H) (h : zO G a 7) : ∃ cell : Cell, H[a]? = some cell ∧ cell.vm.isStatics = false ∧ s.vm.findClass RX7 = some cell.cls := by
  obtain ⟨k, hk⟩ := zg (cy := cy) S h
  exact va_recv hK hP (ci := 7) (q0 := k) (q := (RX7, TX7, 42)) rfl hk
section ZR
variable {p : Program} {l : Launch} {e : Env} {R : Room} {s : State} {m : MethodId} {args : Array Value} {below : List Frame} {meth : Method} {c : Code} {H : Heap} {locs : List Loc} {cells slots : Nat} {Q : State → Prop}
variable {cc : ByteArray} {pc : Nat} {ls : Array Slot} {rest st0 : List Value} {A : Nat → Prop} {H0 : Heap} {dC : Nat → ClassId} {dI : Nat → Nat → Nat} {cy : Nat → ClassId} {G : zG} {S : zS} {a : Nat}
/-- a field is read -/
theorem zget (hx : p.tables.exec = Jvm.exec) (hb : c.code = cc) {own ref C : String} {T : u_T} {N ci index : Nat} {Ts : List Cond} (hts : ∀ w ∈ Ts, w.before args s = true) (hin : ∀ w ∈ u_ws C T N, w ∈ Ts) (hown : s.vm.findClass own = some m.cls) (hK : va_K (dC, dI) vwCl (zT cy) s) (hP : va_P (dC, dI) vwCl (zW cy G S) H)
    (h : zO G a ci) {fs : List Value} (hcell : zcell cy ci (G.2.2 a) (S.1 a) (S.2.1 a) (S.2.2 a) = .inr (ci, fs)) (hc : vwCl[ci]? = some (C, T, N)) (k : Nat) (hk : k < N) (hlink : (Cond.fieldLink own index ref (T k).2.1 (T k).2.2.1).before args s = true) (hsame : ∀ x, s.fieldFound? (T k).1 (T k).2.1 (T k).2.2.1 = some x → s.fieldFound? ref (T k).2.1 (T k).2.2.1 = some x) {v : Value} (hv : fs[k]? = some v) (hdg : decode cc pc = .ok (.getfield index, 3))
    (kk : W p l e R s m args below meth c H locs cells slots Q (F0 m (pc + 3) ls (v :: rest))) : W p l e R s m args below meth c H locs cells slots Q (F0 m pc ls (.ref a :: rest)) := by
  obtain ⟨q0, he⟩ := zg (cy := cy) S h
  exact va_get hx hb hts hin hown hK hP q0 (he.trans (by rw [hcell])) hc k hk hlink hsame hv hdg kk
theorem zputi (hx : p.tables.exec = Jvm.exec) (hb : c.code = cc) {own ref C : String} {T : u_T} {N ci index : Nat} {Ts : List Cond} (hts : ∀ w ∈ Ts, w.before args s = true) (hin : ∀ w ∈ u_ws C T N, w ∈ Ts) (ty0 : Nat → FieldType) (hty : ∀ k, k < N → parseFieldDescriptor (T k).2.2.1 = some (ty0 k)) (hnm : ∀ a, a < N → ∀ b, b < N → a ≠ b → (T a).2.1 ≠ (T b).2.1) (hown : s.vm.findClass own = some m.cls) (hK : va_K (dC, dI) vwCl (zT cy) s) (hP : va_P (dC, dI) vwCl (zW cy G S) H) (hD : va_D A (zW cy G S)) (hS0 : va_S A H0 H locs)
    (h : zO G a ci) {fs : List Value} (hcell : zcell cy ci (G.2.2 a) (S.1 a) (S.2.1 a) (S.2.2 a) = .inr (ci, fs)) (hc : vwCl[ci]? = some (C, T, N)) (k : Nat) (hk : k < N) (hlink : (Cond.fieldLink own index ref (T k).2.1 (T k).2.2.1).before args s = true) (hsame : ∀ x, s.fieldFound? (T k).1 (T k).2.1 (T k).2.2.1 = some x → s.fieldFound? ref (T k).2.1 (T k).2.2.1 = some x) (hfin : (T k).2.2.2 = false) {ty : FieldType} {v : Int32} (hd : parseFieldDescriptor (T k).2.2.1 = some ty) (hn : narrow ty (.int v) = .int v) (hfit : fits ty (.int v) = true) (hl : k < fs.length)
    (hset : Sum.inr (ci, fs.set k (.int v)) = zcell cy ci (G.2.2 a) (upd (S.1 a) k v) (S.2.1 a) (S.2.2 a)) (hdg : decode cc pc = .ok (.putfield index, 3))
    (kk : ∀ (H1 : Heap) (locs1 : List Loc), va_P (dC, dI) vwCl (zW cy G (zpi S a k v)) H1 → va_D A (zW cy G (zpi S a k v)) → va_S A H0 H1 locs1 → W p l e R s m args below meth c H1 locs1 cells slots Q (F0 m (pc + 3) ls rest)) : W p l e R s m args below meth c H locs cells slots Q (F0 m pc ls (.int v :: .ref a :: rest)) := by
  obtain ⟨q0, he⟩ := zg (cy := cy) S h
  have e9 := zseti hD h he hset
  exact va_put hx hb hts hin ty0 hty hnm hown hK hP hD hS0 q0 (he.trans (by rw [hcell])) hc k hk hlink hsame hfin hd hn hfit hl hdg (fun H1 locs1 h1 h2 h3 => kk H1 locs1 (e9 ▸ h1) (e9 ▸ h2) h3)
theorem zputiF (hx : p.tables.exec = Jvm.exec) (hb : c.code = cc) {own ref C : String} {T : u_T} {N ci index : Nat} {Ts : List Cond} (hts : ∀ w ∈ Ts, w.before args s = true) (hin : ∀ w ∈ u_ws C T N, w ∈ Ts) (ty0 : Nat → FieldType) (hty : ∀ k, k < N → parseFieldDescriptor (T k).2.2.1 = some (ty0 k)) (hnm : ∀ a, a < N → ∀ b, b < N → a ≠ b → (T a).2.1 ≠ (T b).2.1) (hown : s.vm.findClass own = some m.cls) (hK : va_K (dC, dI) vwCl (zT cy) s) (hP : va_P (dC, dI) vwCl (zW cy G S) H) (hD : va_D A (zW cy G S)) (hS0 : va_S A H0 H locs)
    (h : zO G a ci) {fs : List Value} (hcell : zcell cy ci (G.2.2 a) (S.1 a) (S.2.1 a) (S.2.2 a) = .inr (ci, fs)) (hc : vwCl[ci]? = some (C, T, N)) (k : Nat) (hk : k < N) (hlink : (Cond.fieldLink own index ref (T k).2.1 (T k).2.2.1).before args s = true) (hsame : ∀ x, s.fieldFound? (T k).1 (T k).2.1 (T k).2.2.1 = some x → s.fieldFound? ref (T k).2.1 (T k).2.2.1 = some x) (hfin : (T k).2.2.2 = true) (hin2 : meth.name = "<init>") (hdecl : (T k).1 = own) {ty : FieldType} {v : Int32} (hd : parseFieldDescriptor (T k).2.2.1 = some ty) (hn : narrow ty (.int v) = .int v) (hfit : fits ty (.int v) = true) (hl : k < fs.length)
    (hset : Sum.inr (ci, fs.set k (.int v)) = zcell cy ci (G.2.2 a) (upd (S.1 a) k v) (S.2.1 a) (S.2.2 a)) (hdg : decode cc pc = .ok (.putfield index, 3))
    (kk : ∀ (H1 : Heap) (locs1 : List Loc), va_P (dC, dI) vwCl (zW cy G (zpi S a k v)) H1 → va_D A (zW cy G (zpi S a k v)) → va_S A H0 H1 locs1 → W p l e R s m args below meth c H1 locs1 cells slots Q (F0 m (pc + 3) ls rest)) : W p l e R s m args below meth c H locs cells slots Q (F0 m pc ls (.int v :: .ref a :: rest)) := by
  obtain ⟨q0, he⟩ := zg (cy := cy) S h
  have e9 := zseti hD h he hset
  exact va_putF hx hb hts hin ty0 hty hnm hown hK hP hD hS0 q0 (he.trans (by rw [hcell])) hc k hk hlink hsame hfin hin2 hdecl hd hn hfit hl hdg (fun H1 locs1 h1 h2 h3 => kk H1 locs1 (e9 ▸ h1) (e9 ▸ h2) h3)
theorem zputj (hx : p.tables.exec = Jvm.exec) (hb : c.code = cc) {own ref C : String} {T : u_T} {N ci index : Nat} {Ts : List Cond} (hts : ∀ w ∈ Ts, w.before args s = true) (hin : ∀ w ∈ u_ws C T N, w ∈ Ts) (ty0 : Nat → FieldType) (hty : ∀ k, k < N → parseFieldDescriptor (T k).2.2.1 = some (ty0 k)) (hnm : ∀ a, a < N → ∀ b, b < N → a ≠ b → (T a).2.1 ≠ (T b).2.1) (hown : s.vm.findClass own = some m.cls) (hK : va_K (dC, dI) vwCl (zT cy) s) (hP : va_P (dC, dI) vwCl (zW cy G S) H) (hD : va_D A (zW cy G S)) (hS0 : va_S A H0 H locs)
    (h : zO G a ci) {fs : List Value} (hcell : zcell cy ci (G.2.2 a) (S.1 a) (S.2.1 a) (S.2.2 a) = .inr (ci, fs)) (hc : vwCl[ci]? = some (C, T, N)) (k : Nat) (hk : k < N) (hlink : (Cond.fieldLink own index ref (T k).2.1 (T k).2.2.1).before args s = true) (hsame : ∀ x, s.fieldFound? (T k).1 (T k).2.1 (T k).2.2.1 = some x → s.fieldFound? ref (T k).2.1 (T k).2.2.1 = some x) (hfin : (T k).2.2.2 = false) {ty : FieldType} {v : Int64} (hd : parseFieldDescriptor (T k).2.2.1 = some ty) (hn : narrow ty (.long v) = .long v) (hfit : fits ty (.long v) = true) (hl : k < fs.length)
    (hset : Sum.inr (ci, fs.set k (.long v)) = zcell cy ci (G.2.2 a) (S.1 a) (vp_updL (S.2.1 a) k v) (S.2.2 a)) (hdg : decode cc pc = .ok (.putfield index, 3))
    (kk : ∀ (H1 : Heap) (locs1 : List Loc), va_P (dC, dI) vwCl (zW cy G (zpj S a k v)) H1 → va_D A (zW cy G (zpj S a k v)) → va_S A H0 H1 locs1 → W p l e R s m args below meth c H1 locs1 cells slots Q (F0 m (pc + 3) ls rest)) : W p l e R s m args below meth c H locs cells slots Q (F0 m pc ls (.long v :: .ref a :: rest)) := by
  obtain ⟨q0, he⟩ := zg (cy := cy) S h
  have e9 := zsetj hD h he hset
  exact va_put hx hb hts hin ty0 hty hnm hown hK hP hD hS0 q0 (he.trans (by rw [hcell])) hc k hk hlink hsame hfin hd hn hfit hl hdg (fun H1 locs1 h1 h2 h3 => kk H1 locs1 (e9 ▸ h1) (e9 ▸ h2) h3)
theorem zputjF (hx : p.tables.exec = Jvm.exec) (hb : c.code = cc) {own ref C : String} {T : u_T} {N ci index : Nat} {Ts : List Cond} (hts : ∀ w ∈ Ts, w.before args s = true) (hin : ∀ w ∈ u_ws C T N, w ∈ Ts) (ty0 : Nat → FieldType) (hty : ∀ k, k < N → parseFieldDescriptor (T k).2.2.1 = some (ty0 k)) (hnm : ∀ a, a < N → ∀ b, b < N → a ≠ b → (T a).2.1 ≠ (T b).2.1) (hown : s.vm.findClass own = some m.cls) (hK : va_K (dC, dI) vwCl (zT cy) s) (hP : va_P (dC, dI) vwCl (zW cy G S) H) (hD : va_D A (zW cy G S)) (hS0 : va_S A H0 H locs)
    (h : zO G a ci) {fs : List Value} (hcell : zcell cy ci (G.2.2 a) (S.1 a) (S.2.1 a) (S.2.2 a) = .inr (ci, fs)) (hc : vwCl[ci]? = some (C, T, N)) (k : Nat) (hk : k < N) (hlink : (Cond.fieldLink own index ref (T k).2.1 (T k).2.2.1).before args s = true) (hsame : ∀ x, s.fieldFound? (T k).1 (T k).2.1 (T k).2.2.1 = some x → s.fieldFound? ref (T k).2.1 (T k).2.2.1 = some x) (hfin : (T k).2.2.2 = true) (hin2 : meth.name = "<init>") (hdecl : (T k).1 = own) {ty : FieldType} {v : Int64} (hd : parseFieldDescriptor (T k).2.2.1 = some ty) (hn : narrow ty (.long v) = .long v) (hfit : fits ty (.long v) = true) (hl : k < fs.length)
    (hset : Sum.inr (ci, fs.set k (.long v)) = zcell cy ci (G.2.2 a) (S.1 a) (vp_updL (S.2.1 a) k v) (S.2.2 a)) (hdg : decode cc pc = .ok (.putfield index, 3))
    (kk : ∀ (H1 : Heap) (locs1 : List Loc), va_P (dC, dI) vwCl (zW cy G (zpj S a k v)) H1 → va_D A (zW cy G (zpj S a k v)) → va_S A H0 H1 locs1 → W p l e R s m args below meth c H1 locs1 cells slots Q (F0 m (pc + 3) ls rest)) : W p l e R s m args below meth c H locs cells slots Q (F0 m pc ls (.long v :: .ref a :: rest)) := by
  obtain ⟨q0, he⟩ := zg (cy := cy) S h
  have e9 := zsetj hD h he hset
  exact va_putF hx hb hts hin ty0 hty hnm hown hK hP hD hS0 q0 (he.trans (by rw [hcell])) hc k hk hlink hsame hfin hin2 hdecl hd hn hfit hl hdg (fun H1 locs1 h1 h2 h3 => kk H1 locs1 (e9 ▸ h1) (e9 ▸ h2) h3)
theorem zputq (hx : p.tables.exec = Jvm.exec) (hb : c.code = cc) {own ref C : String} {T : u_T} {N ci index : Nat} {Ts : List Cond} (hts : ∀ w ∈ Ts, w.before args s = true) (hin : ∀ w ∈ u_ws C T N, w ∈ Ts) (ty0 : Nat → FieldType) (hty : ∀ k, k < N → parseFieldDescriptor (T k).2.2.1 = some (ty0 k)) (hnm : ∀ a, a < N → ∀ b, b < N → a ≠ b → (T a).2.1 ≠ (T b).2.1) (hown : s.vm.findClass own = some m.cls) (hK : va_K (dC, dI) vwCl (zT cy) s) (hP : va_P (dC, dI) vwCl (zW cy G S) H) (hD : va_D A (zW cy G S)) (hS0 : va_S A H0 H locs)
    (h : zO G a ci) {fs : List Value} (hcell : zcell cy ci (G.2.2 a) (S.1 a) (S.2.1 a) (S.2.2 a) = .inr (ci, fs)) (hc : vwCl[ci]? = some (C, T, N)) (k : Nat) (hk : k < N) (hlink : (Cond.fieldLink own index ref (T k).2.1 (T k).2.2.1).before args s = true) (hsame : ∀ x, s.fieldFound? (T k).1 (T k).2.1 (T k).2.2.1 = some x → s.fieldFound? ref (T k).2.1 (T k).2.2.1 = some x) (hfin : (T k).2.2.2 = false) {ty : FieldType} {v : Option Nat} (hd : parseFieldDescriptor (T k).2.2.1 = some ty) (hn : narrow ty (va_rf v) = va_rf v) (hfit : fits ty (va_rf v) = true) (hl : k < fs.length)
    (hset : Sum.inr (ci, fs.set k (va_rf v)) = zcell cy ci (G.2.2 a) (S.1 a) (S.2.1 a) (va_up (S.2.2 a) k v)) (hdg : decode cc pc = .ok (.putfield index, 3))
    (kk : ∀ (H1 : Heap) (locs1 : List Loc), va_P (dC, dI) vwCl (zW cy G (zpq S a k v)) H1 → va_D A (zW cy G (zpq S a k v)) → va_S A H0 H1 locs1 → W p l e R s m args below meth c H1 locs1 cells slots Q (F0 m (pc + 3) ls rest)) : W p l e R s m args below meth c H locs cells slots Q (F0 m pc ls (va_rf v :: .ref a :: rest)) := by
  obtain ⟨q0, he⟩ := zg (cy := cy) S h
  have e9 := zsetq hD h he hset
  exact va_put hx hb hts hin ty0 hty hnm hown hK hP hD hS0 q0 (he.trans (by rw [hcell])) hc k hk hlink hsame hfin hd hn hfit hl hdg (fun H1 locs1 h1 h2 h3 => kk H1 locs1 (e9 ▸ h1) (e9 ▸ h2) h3)
theorem zputqF (hx : p.tables.exec = Jvm.exec) (hb : c.code = cc) {own ref C : String} {T : u_T} {N ci index : Nat} {Ts : List Cond} (hts : ∀ w ∈ Ts, w.before args s = true) (hin : ∀ w ∈ u_ws C T N, w ∈ Ts) (ty0 : Nat → FieldType) (hty : ∀ k, k < N → parseFieldDescriptor (T k).2.2.1 = some (ty0 k)) (hnm : ∀ a, a < N → ∀ b, b < N → a ≠ b → (T a).2.1 ≠ (T b).2.1) (hown : s.vm.findClass own = some m.cls) (hK : va_K (dC, dI) vwCl (zT cy) s) (hP : va_P (dC, dI) vwCl (zW cy G S) H) (hD : va_D A (zW cy G S)) (hS0 : va_S A H0 H locs)
    (h : zO G a ci) {fs : List Value} (hcell : zcell cy ci (G.2.2 a) (S.1 a) (S.2.1 a) (S.2.2 a) = .inr (ci, fs)) (hc : vwCl[ci]? = some (C, T, N)) (k : Nat) (hk : k < N) (hlink : (Cond.fieldLink own index ref (T k).2.1 (T k).2.2.1).before args s = true) (hsame : ∀ x, s.fieldFound? (T k).1 (T k).2.1 (T k).2.2.1 = some x → s.fieldFound? ref (T k).2.1 (T k).2.2.1 = some x) (hfin : (T k).2.2.2 = true) (hin2 : meth.name = "<init>") (hdecl : (T k).1 = own) {ty : FieldType} {v : Option Nat} (hd : parseFieldDescriptor (T k).2.2.1 = some ty) (hn : narrow ty (va_rf v) = va_rf v) (hfit : fits ty (va_rf v) = true) (hl : k < fs.length)
    (hset : Sum.inr (ci, fs.set k (va_rf v)) = zcell cy ci (G.2.2 a) (S.1 a) (S.2.1 a) (va_up (S.2.2 a) k v)) (hdg : decode cc pc = .ok (.putfield index, 3))
    (kk : ∀ (H1 : Heap) (locs1 : List Loc), va_P (dC, dI) vwCl (zW cy G (zpq S a k v)) H1 → va_D A (zW cy G (zpq S a k v)) → va_S A H0 H1 locs1 → W p l e R s m args below meth c H1 locs1 cells slots Q (F0 m (pc + 3) ls rest)) : W p l e R s m args below meth c H locs cells slots Q (F0 m pc ls (va_rf v :: .ref a :: rest)) := by
  obtain ⟨q0, he⟩ := zg (cy := cy) S h
  have e9 := zsetq hD h he hset
  exact va_putF hx hb hts hin ty0 hty hnm hown hK hP hD hS0 q0 (he.trans (by rw [hcell])) hc k hk hlink hsame hfin hin2 hdecl hd hn hfit hl hdg (fun H1 locs1 h1 h2 h3 => kk H1 locs1 (e9 ▸ h1) (e9 ▸ h2) h3)
theorem ziald (hx : p.tables.exec = Jvm.exec) (hb : c.code = cc) (hK : va_K (dC, dI) vwCl (zT cy) s) (hP : va_P (dC, dI) vwCl (zW cy G S) H) (h : zO G a 8) {n : Nat} (hn : G.2.2 a = n) {i : Int32} (hin : vp_in i n) (hdg : decode cc pc = .ok (.iaload, 1))
    (kk : W p l e R s m args below meth c H locs cells slots Q (F0 m (pc + 1) ls (.int (S.1 a i.toNatClampNeg) :: rest))) : W p l e R s m args below meth c H locs cells slots Q (F0 m pc ls (.int i :: .ref a :: rest)) := by
  obtain ⟨q0, he⟩ := zg (cy := cy) S h
  exact va_iald hx hb hK hP q0 0 he rfl (by rw [hn]; exact hin) hdg kk
theorem ziast (hx : p.tables.exec = Jvm.exec) (hb : c.code = cc) (hK : va_K (dC, dI) vwCl (zT cy) s) (hP : va_P (dC, dI) vwCl (zW cy G S) H) (hD : va_D A (zW cy G S)) (hS : va_S A H0 H locs) (h : zO G a 8) {n : Nat} (hn : G.2.2 a = n) {i : Int32} {x : Int32} (hin : vp_in i n) (hdg : decode cc pc = .ok (.iastore, 1))
    (kk : ∀ (H1 : Heap) (locs1 : List Loc), va_P (dC, dI) vwCl (zW cy G (zpi S a i.toNatClampNeg x)) H1 → va_D A (zW cy G (zpi S a i.toNatClampNeg x)) → va_S A H0 H1 locs1 → W p l e R s m args below meth c H1 locs1 cells slots Q (F0 m (pc + 1) ls rest)) : W p l e R s m args below meth c H locs cells slots Q (F0 m pc ls (.int x :: .int i :: .ref a :: rest)) := by
  obtain ⟨q0, he⟩ := zg (cy := cy) S h
  have e9 := zseti (j := i.toNatClampNeg) (v := x) hD h he rfl
  exact va_iast hx hb hK hP hD hS q0 0 he rfl (by rw [hn]; exact hin) hdg (fun H1 locs1 h1 h2 h3 => kk H1 locs1 (e9 ▸ h1) (e9 ▸ h2) h3)
theorem zzald (hx : p.tables.exec = Jvm.exec) (hb : c.code = cc) (hK : va_K (dC, dI) vwCl (zT cy) s) (hP : va_P (dC, dI) vwCl (zW cy G S) H) (h : zO G a 10) {n : Nat} (hn : G.2.2 a = n) {i : Int32} (hin : vp_in i n) (hdg : decode cc pc = .ok (.baload, 1))
    (kk : W p l e R s m args below meth c H locs cells slots Q (F0 m (pc + 1) ls (.int (S.1 a i.toNatClampNeg) :: rest))) : W p l e R s m args below meth c H locs cells slots Q (F0 m pc ls (.int i :: .ref a :: rest)) := by
  obtain ⟨q0, he⟩ := zg (cy := cy) S h
  exact va_zald hx hb hK hP q0 2 he rfl (by rw [hn]; exact hin) hdg kk
theorem zzast (hx : p.tables.exec = Jvm.exec) (hb : c.code = cc) (hK : va_K (dC, dI) vwCl (zT cy) s) (hP : va_P (dC, dI) vwCl (zW cy G S) H) (hD : va_D A (zW cy G S)) (hS : va_S A H0 H locs) (h : zO G a 10) {n : Nat} (hn : G.2.2 a = n) {i : Int32} {x : Int32} (hin : vp_in i n) (hdg : decode cc pc = .ok (.bastore, 1))
    (kk : ∀ (H1 : Heap) (locs1 : List Loc), va_P (dC, dI) vwCl (zW cy G (zpi S a i.toNatClampNeg (vp_nar .boolean x))) H1 → va_D A (zW cy G (zpi S a i.toNatClampNeg (vp_nar .boolean x))) → va_S A H0 H1 locs1 → W p l e R s m args below meth c H1 locs1 cells slots Q (F0 m (pc + 1) ls rest)) : W p l e R s m args below meth c H locs cells slots Q (F0 m pc ls (.int x :: .int i :: .ref a :: rest)) := by
  obtain ⟨q0, he⟩ := zg (cy := cy) S h
  have e9 := zseti (j := i.toNatClampNeg) (v := (vp_nar .boolean x)) hD h he rfl
  exact va_zast hx hb hK hP hD hS q0 2 he rfl (by rw [hn]; exact hin) hdg (fun H1 locs1 h1 h2 h3 => kk H1 locs1 (e9 ▸ h1) (e9 ▸ h2) h3)
theorem zlald (hx : p.tables.exec = Jvm.exec) (hb : c.code = cc) (hK : va_K (dC, dI) vwCl (zT cy) s) (hP : va_P (dC, dI) vwCl (zW cy G S) H) (h : zO G a 9) {n : Nat} (hn : G.2.2 a = n) {i : Int32} (hin : vp_in i n) (hdg : decode cc pc = .ok (.laload, 1))
    (kk : W p l e R s m args below meth c H locs cells slots Q (F0 m (pc + 1) ls (.long (S.2.1 a i.toNatClampNeg) :: rest))) : W p l e R s m args below meth c H locs cells slots Q (F0 m pc ls (.int i :: .ref a :: rest)) := by
  obtain ⟨q0, he⟩ := zg (cy := cy) S h
  exact va_lald hx hb hK hP q0 1 he rfl (by rw [hn]; exact hin) hdg kk
theorem zlast (hx : p.tables.exec = Jvm.exec) (hb : c.code = cc) (hK : va_K (dC, dI) vwCl (zT cy) s) (hP : va_P (dC, dI) vwCl (zW cy G S) H) (hD : va_D A (zW cy G S)) (hS : va_S A H0 H locs) (h : zO G a 9) {n : Nat} (hn : G.2.2 a = n) {i : Int32} {x : Int64} (hin : vp_in i n) (hdg : decode cc pc = .ok (.lastore, 1))
    (kk : ∀ (H1 : Heap) (locs1 : List Loc), va_P (dC, dI) vwCl (zW cy G (zpj S a i.toNatClampNeg x)) H1 → va_D A (zW cy G (zpj S a i.toNatClampNeg x)) → va_S A H0 H1 locs1 → W p l e R s m args below meth c H1 locs1 cells slots Q (F0 m (pc + 1) ls rest)) : W p l e R s m args below meth c H locs cells slots Q (F0 m pc ls (.long x :: .int i :: .ref a :: rest)) := by
  obtain ⟨q0, he⟩ := zg (cy := cy) S h
  have e9 := zsetj (j := i.toNatClampNeg) (v := x) hD h he rfl
  exact va_last hx hb hK hP hD hS q0 1 he rfl (by rw [hn]; exact hin) hdg (fun H1 locs1 h1 h2 h3 => kk H1 locs1 (e9 ▸ h1) (e9 ▸ h2) h3)
theorem zfald (hx : p.tables.exec = Jvm.exec) (hb : c.code = cc) (hK : va_K (dC, dI) vwCl (zT cy) s) (hP : va_P (dC, dI) vwCl (zW cy G S) H) (h : zO G a 11) {n : Nat} (hn : G.2.2 a = n) {i : Int32} (hin : vp_in i n) (hdg : decode cc pc = .ok (.aaload, 1))
    (kk : W p l e R s m args below meth c H locs cells slots Q (F0 m (pc + 1) ls (va_rf (S.2.2 a i.toNatClampNeg) :: rest))) : W p l e R s m args below meth c H locs cells slots Q (F0 m pc ls (.int i :: .ref a :: rest)) := by
  obtain ⟨q0, he⟩ := zg (cy := cy) S h
  exact va_aldq hx hb hK hP q0 3 he rfl (by rw [hn]; exact hin) hdg kk
theorem zfalen (hx : p.tables.exec = Jvm.exec) (hb : c.code = cc) (hK : va_K (dC, dI) vwCl (zT cy) s) (hP : va_P (dC, dI) vwCl (zW cy G S) H) (h : zO G a 11) {n : Nat} (hn : G.2.2 a = n) {v : Int32} (hv : Int32.ofNat n = v) (hdg : decode cc pc = .ok (.arraylength, 1))
    (kk : W p l e R s m args below meth c H locs cells slots Q (F0 m (pc + 1) ls (.int v :: rest))) : W p l e R s m args below meth c H locs cells slots Q (F0 m pc ls (.ref a :: rest)) := by
  obtain ⟨q0, he⟩ := zg (cy := cy) S h
  exact va_alen hx hb hK hP q0 3 he rfl (by rw [← hv, ← hn]) hdg kk
theorem znald (hx : p.tables.exec = Jvm.exec) (hb : c.code = cc) (hK : va_K (dC, dI) vwCl (zT cy) s) (hP : va_P (dC, dI) vwCl (zW cy G S) H) (h : zO G a 12) {n : Nat} (hn : G.2.2 a = n) {i : Int32} (hin : vp_in i n) (hdg : decode cc pc = .ok (.aaload, 1))
    (kk : W p l e R s m args below meth c H locs cells slots Q (F0 m (pc + 1) ls (va_rf (S.2.2 a i.toNatClampNeg) :: rest))) : W p l e R s m args below meth c H locs cells slots Q (F0 m pc ls (.int i :: .ref a :: rest)) := by
  obtain ⟨q0, he⟩ := zg (cy := cy) S h
  exact va_aldq hx hb hK hP q0 4 he rfl (by rw [hn]; exact hin) hdg kk
theorem znalen (hx : p.tables.exec = Jvm.exec) (hb : c.code = cc) (hK : va_K (dC, dI) vwCl (zT cy) s) (hP : va_P (dC, dI) vwCl (zW cy G S) H) (h : zO G a 12) {n : Nat} (hn : G.2.2 a = n) {v : Int32} (hv : Int32.ofNat n = v) (hdg : decode cc pc = .ok (.arraylength, 1))
    (kk : W p l e R s m args below meth c H locs cells slots Q (F0 m (pc + 1) ls (.int v :: rest))) : W p l e R s m args below meth c H locs cells slots Q (F0 m pc ls (.ref a :: rest)) := by
  obtain ⟨q0, he⟩ := zg (cy := cy) S h
  exact va_alen hx hb hK hP q0 4 he rfl (by rw [← hv, ← hn]) hdg kk
theorem zcallv {post : zS → Prop} {a0 : Array Value} (hr : va_Run p l e R s m args below meth c H locs cells slots 0 0 (F0 m pc ls st0) rest (va_Qv post (zB dC dI cy (zA cy G S H.size) G) (zA cy G S H.size) a0) (zA cy G S H.size)) (hS : va_S A H0 H locs) (hD : va_D A (zW cy G S)) (hA : ∀ q, H0.size ≤ q → A q)
    (kk : ∀ (S' : zS) (H1 : Heap) (locs1 : List Loc), post S' → va_P (dC, dI) vwCl (zW cy G S') H1 → va_D A (zW cy G S') → va_S A H0 H1 locs1 → W p l e R s m args below meth c H1 locs1 cells slots Q (F0 m (pc + 3) ls (rest))) : W p l e R s m args below meth c H locs cells slots Q (F0 m pc ls st0) := by
  have hF := zfree hD hS hA
  refine va_callv hr hS (fun q _ h => hF q h) hF (fun u t H1 locs1 ht _ hw hB _ _ hS1 => ?_)
  obtain ⟨hP1, _, hD1⟩ := hB
  rw [ht] at hP1
  exact kk u H1 locs1 hw hP1 (hD1.weaken (fun _ q _ h => hF q.1 h)) hS1
theorem zcalli {post : Int32 → zS → Prop} {a0 : Array Value} (hr : va_Run p l e R s m args below meth c H locs cells slots 0 0 (F0 m pc ls st0) rest (va_Qi post (zB dC dI cy (zA cy G S H.size) G) (zA cy G S H.size) a0) (zA cy G S H.size)) (hS : va_S A H0 H locs) (hD : va_D A (zW cy G S)) (hA : ∀ q, H0.size ≤ q → A q)
    (kk : ∀ (r : Int32) (S' : zS) (H1 : Heap) (locs1 : List Loc), post r S' → va_P (dC, dI) vwCl (zW cy G S') H1 → va_D A (zW cy G S') → va_S A H0 H1 locs1 → W p l e R s m args below meth c H1 locs1 cells slots Q (F0 m (pc + 3) ls (.int r :: rest))) : W p l e R s m args below meth c H locs cells slots Q (F0 m pc ls st0) := by
  have hF := zfree hD hS hA
  refine va_calli hr hS (fun q _ h => hF q h) hF (fun r u t H1 locs1 ht _ hw hB _ _ hS1 => ?_)
  obtain ⟨hP1, _, hD1⟩ := hB
  rw [ht] at hP1
  exact kk r u H1 locs1 hw hP1 (hD1.weaken (fun _ q _ h => hF q.1 h)) hS1
theorem zcalll {post : Int64 → zS → Prop} {a0 : Array Value} (hr : va_Run p l e R s m args below meth c H locs cells slots 0 0 (F0 m pc ls st0) rest (va_Ql post (zB dC dI cy (zA cy G S H.size) G) (zA cy G S H.size) a0) (zA cy G S H.size)) (hS : va_S A H0 H locs) (hD : va_D A (zW cy G S)) (hA : ∀ q, H0.size ≤ q → A q)
    (kk : ∀ (r : Int64) (S' : zS) (H1 : Heap) (locs1 : List Loc), post r S' → va_P (dC, dI) vwCl (zW cy G S') H1 → va_D A (zW cy G S') → va_S A H0 H1 locs1 → W p l e R s m args below meth c H1 locs1 cells slots Q (F0 m (pc + 3) ls (.long r :: rest))) : W p l e R s m args below meth c H locs cells slots Q (F0 m pc ls st0) := by
  have hF := zfree hD hS hA
  refine va_calll hr hS (fun q _ h => hF q h) hF (fun r u t H1 locs1 ht _ hw hB _ _ hS1 => ?_)
  obtain ⟨hP1, _, hD1⟩ := hB
  rw [ht] at hP1
  exact kk r u H1 locs1 hw hP1 (hD1.weaken (fun _ q _ h => hF q.1 h)) hS1
/-- a loop that writes nothing: its head at pc, by how many rounds are left -/
theorem zloopR {α : Type} {nL : Nat} (N0 : Nat) (I0 : Nat → α → List (Nat × Value))
    (hz : ∀ (x : α) (ls : Array Slot), lv_has ls nL (I0 N0 x) → W p l e R s m args below meth c H locs cells slots Q (F0 m pc ls rest))
    (hs : ∀ (n k : Nat) (x : α) (ls : Array Slot), k + (n + 1) = N0 → (∀ (x' : α) (ls' : Array Slot), lv_has ls' nL (I0 (k + 1) x') → W p l e R s m args below meth c H locs cells slots Q (F0 m pc ls' rest)) → lv_has ls nL (I0 k x) → W p l e R s m args below meth c H locs cells slots Q (F0 m pc ls rest)) :
    ∀ (n k : Nat) (x : α) (ls : Array Slot), k + n = N0 → lv_has ls nL (I0 k x) → W p l e R s m args below meth c H locs cells slots Q (F0 m pc ls rest) := by
  intro n
  induction n with
  | zero => intro k x ls hk hl; have hk : k = N0 := hk; subst hk; exact hz x ls hl
  | succ n ih => intro k x ls hk hl; exact hs n k x ls hk (fun x' ls' h' => ih (k + 1) x' ls' (by omega) h') hl
/-- a loop that writes: the pool with what holds of it -/
theorem zloopW {α : Type} {nL : Nat} (N0 : Nat) (I0 : Nat → α → List (Nat × Value)) (J0 : Nat → zS → Prop)
    (hz : ∀ (x : α) (S : zS) (H : Heap) (locs : List Loc) (ls : Array Slot), J0 N0 S → va_P (dC, dI) vwCl (zW cy G S) H → va_D A (zW cy G S) → va_S A H0 H locs → lv_has ls nL (I0 N0 x) → W p l e R s m args below meth c H locs cells slots Q (F0 m pc ls rest))
    (hs : ∀ (n k : Nat) (x : α) (S : zS) (H : Heap) (locs : List Loc) (ls : Array Slot), k + (n + 1) = N0 → (∀ (x' : α) (S' : zS) (H' : Heap) (locs' : List Loc) (ls' : Array Slot), J0 (k + 1) S' → va_P (dC, dI) vwCl (zW cy G S') H' → va_D A (zW cy G S') → va_S A H0 H' locs' → lv_has ls' nL (I0 (k + 1) x') → W p l e R s m args below meth c H' locs' cells slots Q (F0 m pc ls' rest)) → J0 k S → va_P (dC, dI) vwCl (zW cy G S) H → va_D A (zW cy G S) → va_S A H0 H locs → lv_has ls nL (I0 k x) → W p l e R s m args below meth c H locs cells slots Q (F0 m pc ls rest)) :
    ∀ (n k : Nat) (x : α) (S : zS) (H : Heap) (locs : List Loc) (ls : Array Slot), k + n = N0 → J0 k S → va_P (dC, dI) vwCl (zW cy G S) H → va_D A (zW cy G S) → va_S A H0 H locs → lv_has ls nL (I0 k x) → W p l e R s m args below meth c H locs cells slots Q (F0 m pc ls rest) := by
  intro n
  induction n with
  | zero => intro k x S H locs ls hk hj hP hD hS hl; have hk : k = N0 := hk; subst hk; exact hz x S H locs ls hj hP hD hS hl
  | succ n ih => intro k x S H locs ls hk hj hP hD hS hl; exact hs n k x S H locs ls hk (fun x' S' H' locs' ls' a b d e9 f => ih (k + 1) x' S' H' locs' ls' (by omega) a b d e9 f) hj hP hD hS hl
end ZR
