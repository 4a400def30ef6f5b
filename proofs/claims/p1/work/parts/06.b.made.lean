theorem zpi_2 (S : zS) (a k : Nat) (v : Int32) : (zpi S a k v).2 = S.2 := rfl
theorem zpj_1 (S : zS) (a k : Nat) (v : Int64) : (zpj S a k v).1 = S.1 := rfl
theorem zpj_22 (S : zS) (a k : Nat) (v : Int64) : (zpj S a k v).2.2 = S.2.2 := rfl
theorem zpq_1 (S : zS) (a k : Nat) (v : Option Nat) : (zpq S a k v).1 = S.1 := rfl
theorem zpq_21 (S : zS) (a k : Nat) (v : Option Nat) : (zpq S a k v).2.1 = S.2.1 := rfl
theorem zSn_1 (S : zS) (q b j : Nat) : (zSn S q).1 b j = if b = q then 0 else S.1 b j := by
  by_cases h : b = q
  · subst h; simp [zSn, va_up]
  · simp [zSn, va_up, h]
theorem zSn_21 (S : zS) (q b j : Nat) : (zSn S q).2.1 b j = if b = q then 0 else S.2.1 b j := by
  by_cases h : b = q
  · subst h; simp [zSn, va_up]
  · simp [zSn, va_up, h]
theorem zSn_22 (S : zS) (q b j : Nat) : (zSn S q).2.2 b j = if b = q then none else S.2.2 b j := by
  by_cases h : b = q
  · subst h; simp [zSn, va_up]
  · simp [zSn, va_up, h]
/-- the rows behind Node(n) at a, with its two things i and r -/
def zNi (S : zS) (a i r : Nat) (n : Int32) : zS := (zpi (zpi (zpi (zpi (zpi (zpi (zpi (zpi (zpi (zpi (zpi (zpq (zpi (zpq (zpi (zpi (zpi (zpi (zpi (zpj (zpq (zSn (zpq (zpi (zpi (zSn S i) i 0 0) i 1 0) a 1 (some i)) r) r 0 none) r 1 0) r 2 0) r 3 0) r 4 0) r 5 0) r 6 0) a 2 (some r)) a 3 0) a 4 none) a 5 0) a 6 1) a 7 0) a 8 0) a 9 0) a 10 0) a 11 0) a 12 0) a 13 0) a 14 0) a 0 n)
theorem zNi_off (S : zS) {a i r b : Nat} (n : Int32) (ha : b ≠ a) (hi : b ≠ i) (hr : b ≠ r) (j : Nat) : (zNi S a i r n).1 b j = S.1 b j ∧ (zNi S a i r n).2.1 b j = S.2.1 b j ∧ (zNi S a i r n).2.2 b j = S.2.2 b j := by
  unfold zNi
  simp only [zpi_at, zpj_at, zpq_at, zpi_2, zpj_1, zpj_22, zpq_1, zpq_21, zSn_1, zSn_21, zSn_22, ha, hi, hr, false_and, if_false, and_self]
/-- a node as it is made -/
def zFn (S : zS) (a : Nat) (n : Int32) : Prop := S.1 a 0 = n ∧ S.1 a 3 = 0 ∧ S.1 a 6 = 1 ∧ S.1 a 10 = 0 ∧ S.1 a 11 = 0 ∧ S.1 a 12 = 0 ∧ S.1 a 13 = 0 ∧ S.1 a 14 = 0
theorem zNi_at (S : zS) {a i r : Nat} (n : Int32) (hi : a ≠ i) (hr : a ≠ r) (hir : i ≠ r) : (zNi S a i r n).2.2 a 1 = some i ∧ (zNi S a i r n).2.2 a 2 = some r ∧ (zNi S a i r n).2.2 r 0 = none ∧ zFn (zNi S a i r n) a n := by
  unfold zFn zNi
  simp [zpi_at, zpj_at, zpq_at, zpi_2, zpj_1, zpj_22, zpq_1, zpq_21, zSn_1, zSn_21, zSn_22, hi, hr, hir, hi.symm, hr.symm, hir.symm]
def zR0 (G : zG) (S : zS) : Prop := ∀ r, G.2.1 r = 4 → S.2.2 r 0 = none
/-- the object x and its things, k nodes of it made -/
def zMk (x f n sc ia na d ka va k : Nat) (G : zG) (S : zS) : Prop :=
  ((zO G x 6 ∧ S.2.2 x 0 = some f ∧ S.2.2 x 1 = some n ∧ S.2.2 x 2 = some sc ∧ S.2.2 x 3 = some d) ∧ (S.1 x 4 = 0 ∧ S.1 x 5 = 0 ∧ S.2.1 x 6 = -1)) ∧ ((zO G f 11 ∧ G.2.2 f = 62 ∧ ∀ j, S.2.2 f j = none) ∧ (zO G n 12 ∧ G.2.2 n = 8)) ∧ (zSc G S sc ia na ∧ S.1 sc 2 = 0 ∧ S.1 sc 3 = -1 ∧ S.1 sc 4 = 0) ∧ (zDi G S d ka va ∧ S.1 d 2 = 0) ∧
  (∀ j, j < k → ∃ a i r, S.2.2 n j = some a ∧ zNd G S a i r ∧ zFn S a (nI j)) ∧ (∀ i j, i < k → j < k → S.2.2 n i = S.2.2 n j → i = j) ∧ zR0 G S
theorem zMk.step {x f n sc ia na d ka va k : Nat} {G : zG} {S : zS} (h : zMk x f n sc ia na d ka va k G S) {q i r : Nat} (hq : q ∉ G.1) (hi : i ∉ (zGn G q 3 0).1) (hr : r ∉ (zGn (zGn G q 3 0) i 2 0).1) :
    zMk x f n sc ia na d ka va (k + 1) (zGn (zGn (zGn G q 3 0) i 2 0) r 4 0) (zpq (zNi (zSn S q) q i r (nI k)) n k (some q)) := by
  obtain ⟨⟨⟨x0, x1, x2, x3, x4⟩, x5, x6, x7⟩, ⟨⟨f0, f1, f2⟩, n0, n1⟩, ⟨⟨s0, s1, s2, s3, s4, s5, s6⟩, s7, s8, s9⟩, ⟨⟨d0, d1, d2, d3, d4, d5, d6⟩, d7⟩, hn, hinj, h0⟩ := h
  have hqi : q ≠ i := fun c => hi (by rw [← c]; exact List.mem_append_right _ (List.mem_singleton.mpr rfl))
  have hqr : q ≠ r := fun c => hr (by rw [← c]; exact List.mem_append_left _ (List.mem_append_right _ (List.mem_singleton.mpr rfl)))
  have hir : i ≠ r := fun c => hr (by rw [← c]; exact List.mem_append_right _ (List.mem_singleton.mpr rfl))
  have ne : ∀ {b kd : Nat}, zO G b kd → b ≠ q ∧ b ≠ i ∧ b ≠ r := fun hb => ⟨hb.ne hq, (hb.gn hq).ne hi, ((hb.gn hq).gn hi).ne hr⟩
  have g3 : ∀ {b kd : Nat}, zO G b kd → zO (zGn (zGn (zGn G q 3 0) i 2 0) r 4 0) b kd := fun hb => ((hb.gn hq).gn hi).gn hr
  have ln : ∀ {b kd : Nat}, zO G b kd → (zGn (zGn (zGn G q 3 0) i 2 0) r 4 0).2.2 b = G.2.2 b := fun {b} {kd} hb => by
    rw [zGn_len' (ne hb).2.2, zGn_len' (ne hb).2.1, zGn_len' (ne hb).1]
  have off : ∀ {b kd : Nat}, zO G b kd → ∀ j, (zNi (zSn S q) q i r (nI k)).1 b j = S.1 b j ∧ (zNi (zSn S q) q i r (nI k)).2.1 b j = S.2.1 b j ∧ (zNi (zSn S q) q i r (nI k)).2.2 b j = S.2.2 b j := by
    intro b kd hb j
    obtain ⟨e1, e2, e3⟩ := zNi_off (zSn S q) (nI k) (ne hb).1 (ne hb).2.1 (ne hb).2.2 j
    rw [zSn_1, if_neg (ne hb).1] at e1
    rw [zSn_21, if_neg (ne hb).1] at e2
    rw [zSn_22, if_neg (ne hb).1] at e3
    exact ⟨e1, e2, e3⟩
  have dn : ∀ {b kd : Nat}, zO G b kd → kd ≠ 12 → b ≠ n := fun hb hk c => hk (by have a := hb.2; rw [c, n0.2] at a; exact a.symm)
  have oq : ∀ {b kd : Nat}, zO G b kd → kd ≠ 12 → ∀ j v, S.2.2 b j = v → (zpq (zNi (zSn S q) q i r (nI k)) n k (some q)).2.2 b j = v := fun hb hk j v hv => by
    rw [zpq_at, if_neg (fun c => dn hb hk c.1), (off hb j).2.2]; exact hv
  have o1 : ∀ {b kd : Nat}, zO G b kd → ∀ j v, S.1 b j = v → (zpq (zNi (zSn S q) q i r (nI k)) n k (some q)).1 b j = v := fun hb j v hv => by
    rw [zpq_1, (off hb j).1]; exact hv
  have o2 : ∀ {b kd : Nat}, zO G b kd → ∀ j v, S.2.1 b j = v → (zpq (zNi (zSn S q) q i r (nI k)) n k (some q)).2.1 b j = v := fun hb j v hv => by
    rw [zpq_21, (off hb j).2.1]; exact hv
  obtain ⟨a1, a2, a3, a4⟩ := zNi_at (zSn S q) (nI k) hqi hqr hir
  have qn : q ≠ n := fun c => hq (by rw [c]; exact n0.1)
  refine ⟨⟨⟨g3 x0, oq x0 (by decide) _ _ x1, oq x0 (by decide) _ _ x2, oq x0 (by decide) _ _ x3, oq x0 (by decide) _ _ x4⟩, o1 x0 _ _ x5, o1 x0 _ _ x6, o2 x0 _ _ x7⟩, ⟨⟨g3 f0, (ln f0).trans f1, fun j => oq f0 (by decide) _ _ (f2 j)⟩, g3 n0, (ln n0).trans n1⟩, ⟨⟨g3 s0, oq s0 (by decide) _ _ s1, oq s0 (by decide) _ _ s2, g3 s3, (ln s3).trans s4, g3 s5, (ln s5).trans s6⟩, o1 s0 _ _ s7, o1 s0 _ _ s8, o1 s0 _ _ s9⟩, ⟨⟨g3 d0, oq d0 (by decide) _ _ d1, oq d0 (by decide) _ _ d2, g3 d3, (ln d3).trans d4, g3 d5, (ln d5).trans d6⟩, o1 d0 _ _ d7⟩, ?_, ?_, ?_⟩
  · intro j hj
    by_cases hjk : j = k
    · subst hjk
      refine ⟨q, i, r, by rw [zpq_at, if_pos ⟨rfl, rfl⟩], ⟨((zO.nw G q 3 0).gn hi).gn hr, ?_, ?_, (zO.nw (zGn G q 3 0) i 2 0).gn hr, zO.nw _ r 4 0⟩, ?_⟩
      · rw [zpq_at, if_neg (fun c => qn c.1)]; exact a1
      · rw [zpq_at, if_neg (fun c => qn c.1)]; exact a2
      · unfold zFn at a4 ⊢; rw [zpq_1]; exact a4
    · obtain ⟨a, i', r', h1, ⟨b0, b1, b2, b3, b4⟩, h3⟩ := hn j (by omega)
      refine ⟨a, i', r', ?_, ⟨g3 b0, oq b0 (by decide) _ _ b1, oq b0 (by decide) _ _ b2, g3 b3, g3 b4⟩, ?_⟩
      · rw [zpq_at, if_neg (fun c => hjk c.2), (off n0 j).2.2]; exact h1
      · obtain ⟨c0, c1, c2, c3, c4, c5, c6, c7⟩ := h3
        exact ⟨o1 b0 _ _ c0, o1 b0 _ _ c1, o1 b0 _ _ c2, o1 b0 _ _ c3, o1 b0 _ _ c4, o1 b0 _ _ c5, o1 b0 _ _ c6, o1 b0 _ _ c7⟩
  · have old : ∀ j, j < k → ∃ a, S.2.2 n j = some a ∧ a ≠ q := fun j hj => by
      obtain ⟨a, _, _, h1, h2, _⟩ := hn j hj
      exact ⟨a, h1, h2.1.ne hq⟩
    have ev : ∀ j, j ≠ k → (zpq (zNi (zSn S q) q i r (nI k)) n k (some q)).2.2 n j = S.2.2 n j := fun j hj => by rw [zpq_at, if_neg (fun c => hj c.2), (off n0 j).2.2]
    have ek : (zpq (zNi (zSn S q) q i r (nI k)) n k (some q)).2.2 n k = some q := by rw [zpq_at, if_pos ⟨rfl, rfl⟩]
    intro u w hu hw e
    by_cases h1 : u = k
    · by_cases h2 : w = k
      · rw [h1, h2]
      · obtain ⟨a, e1, e2⟩ := old w (by omega)
        rw [h1, ek, ev w h2, e1] at e
        exact absurd (Option.some.inj e).symm e2
    · by_cases h2 : w = k
      · obtain ⟨a, e1, e2⟩ := old u (by omega)
        rw [h2, ek, ev u h1, e1] at e
        exact absurd (Option.some.inj e) e2
      · rw [ev u h1, ev w h2] at e
        exact hinj u w (by omega) (by omega) e
  · intro z hz
    by_cases e1 : z = r
    · subst e1; rw [zpq_at, if_neg (fun c => by rw [c.1] at hr; exact hr (((n0.gn hq).gn hi).1))]; exact a3
    · have e2 : (zGn (zGn G q 3 0) i 2 0).2.1 z = 4 := by have := hz; unfold zGn at this; simp only [va_up_ne _ _ e1] at this; exact this
      by_cases e3 : z = i
      · subst e3; unfold zGn at e2; simp only [va_up_self] at e2; cases e2
      · have e4 : (zGn G q 3 0).2.1 z = 4 := by have := e2; unfold zGn at this; simp only [va_up_ne _ _ e3] at this; exact this
        by_cases e5 : z = q
        · subst e5; unfold zGn at e4; simp only [va_up_self] at e4; cases e4
        · have e6 : G.2.1 z = 4 := by have := e4; unfold zGn at this; simp only [va_up_ne _ _ e5] at this; exact this
          have hzn : z ≠ n := fun c => by rw [c, n0.2] at e6; cases e6
          rw [zpq_at, if_neg (fun c => hzn c.1), (zNi_off (zSn S q) (nI k) e5 e3 e1 0).2.2, zSn_22, if_neg e5]
          exact h0 z e6
section ZL
variable {p : Program} {l : Launch} {e : Env} {R : Room} {s : State} {m : MethodId} {args : Array Value} {below : List Frame} {meth : Method} {c : Code} {Q : State → Prop}
variable {pc : Nat} {rest : List Value} {A : Nat → Prop} {H0 : Heap} {dC : Nat → ClassId} {dI : Nat → Nat → Nat} {cy : Nat → ClassId}
/-- a loop that makes things: dc cells of ds places in each round -/
theorem zloopG {nL : Nat} (N0 c0 dc s0 ds : Nat) (I0 : Nat → List (Nat × Value)) (J0 : Nat → zG → zS → Prop)
    (hz : ∀ (G : zG) (S : zS) (H : Heap) (locs : List Loc) (ls : Array Slot), J0 N0 G S → va_P (dC, dI) vwCl (zW cy G S) H → va_D A (zW cy G S) → va_S A H0 H locs → lv_has ls nL (I0 N0) → W p l e R s m args below meth c H locs (c0 + dc * N0) (s0 + ds * N0) Q (F0 m pc ls rest))
    (hs : ∀ (n k : Nat) (G : zG) (S : zS) (H : Heap) (locs : List Loc) (ls : Array Slot), k + (n + 1) = N0 → (∀ (G' : zG) (S' : zS) (H' : Heap) (locs' : List Loc) (ls' : Array Slot), J0 (k + 1) G' S' → va_P (dC, dI) vwCl (zW cy G' S') H' → va_D A (zW cy G' S') → va_S A H0 H' locs' → lv_has ls' nL (I0 (k + 1)) → W p l e R s m args below meth c H' locs' (c0 + dc * (k + 1)) (s0 + ds * (k + 1)) Q (F0 m pc ls' rest)) → J0 k G S → va_P (dC, dI) vwCl (zW cy G S) H → va_D A (zW cy G S) → va_S A H0 H locs → lv_has ls nL (I0 k) → W p l e R s m args below meth c H locs (c0 + dc * k) (s0 + ds * k) Q (F0 m pc ls rest)) :
    ∀ (n k : Nat) (G : zG) (S : zS) (H : Heap) (locs : List Loc) (ls : Array Slot), k + n = N0 → J0 k G S → va_P (dC, dI) vwCl (zW cy G S) H → va_D A (zW cy G S) → va_S A H0 H locs → lv_has ls nL (I0 k) → W p l e R s m args below meth c H locs (c0 + dc * k) (s0 + ds * k) Q (F0 m pc ls rest) := by
  intro n
  induction n with
  | zero => intro k G S H locs ls hk hj hP hD hS hl; have hk : k = N0 := hk; subst hk; exact hz G S H locs ls hj hP hD hS hl
  | succ n ih => intro k G S H locs ls hk hj hP hD hS hl; exact hs n k G S H locs ls hk (fun G' S' H' locs' ls' a b d e9 f => ih (k + 1) G' S' H' locs' ls' (by omega) a b d e9 f) hj hP hD hS hl
end ZL
