/-! what may change while bit times pass: by the kind of the thing and the place -/
def zdI (kd k : Nat) : Bool := match kd with
  | 0 => k == 2
  | 2 => true
  | 3 => Nat.ble 5 k
  | 4 => true
  | 5 => Nat.ble 3 k
  | 6 => k == 5
  | 8 => true
  | _ => false
def zdJ (kd : Nat) (_ : Nat) : Bool := match kd with
  | 4 => true
  | 6 => true
  | 9 => true
  | _ => false
def zdQ (kd : Nat) (k : Nat) : Bool := match kd with
  | 3 => k == 4
  | 4 => true
  | _ => false
def zFr (G : zG) (S : zS) (y k t : Nat) : Prop := zO G y 1 ∧ S.2.2 y 7 = some k ∧ S.2.2 y 8 = some t ∧ (∃ n : Nat, n ≤ 8 ∧ S.1 y 1 = nI n) ∧ zO G k 9 ∧ G.2.2 k = 8 ∧ zO G t 8 ∧ G.2.2 t = 8
def zFe (G : zG) (S : zS) (y : Nat) : Prop := ∃ k t, zFr G S y k t
def zNd (G : zG) (S : zS) (a i r : Nat) : Prop := zO G a 3 ∧ S.2.2 a 1 = some i ∧ S.2.2 a 2 = some r ∧ zO G i 2 ∧ zO G r 4
def zSc (G : zG) (S : zS) (a i n : Nat) : Prop := zO G a 5 ∧ S.2.2 a 0 = some i ∧ S.2.2 a 1 = some n ∧ zO G i 8 ∧ G.2.2 i = 16 ∧ zO G n 8 ∧ G.2.2 n = 16
def zDi (G : zG) (S : zS) (a k v : Nat) : Prop := zO G a 0 ∧ S.2.2 a 0 = some k ∧ S.2.2 a 1 = some v ∧ zO G k 9 ∧ G.2.2 k = 64 ∧ zO G v 9 ∧ G.2.2 v = 64
def zRf (G : zG) (S : zS) : Prop := ∀ r y, G.2.1 r = 4 → S.2.2 r 0 = some y → zFe G S y
def zFa (G : zG) (S : zS) (f : Nat) : Prop := zO G f 11 ∧ G.2.2 f = 62 ∧ ∀ j y, j < 62 → S.2.2 f j = some y → zFe G S y
def zSt (G : zG) (S T : zS) : Prop := (∀ a k, zdI (G.2.1 a) k = false → T.1 a k = S.1 a k) ∧ (∀ a k, zdJ (G.2.1 a) k = false → T.2.1 a k = S.2.1 a k) ∧ (∀ a k, zdQ (G.2.1 a) k = false → T.2.2 a k = S.2.2 a k) ∧ (zRf G S → zRf G T)
theorem zSt.refl (G : zG) (S : zS) : zSt G S S := ⟨fun _ _ _ => rfl, fun _ _ _ => rfl, fun _ _ _ => rfl, id⟩
theorem zSt.trans {G : zG} {S T U : zS} (h : zSt G S T) (h' : zSt G T U) : zSt G S U := ⟨fun a k q => (h'.1 a k q).trans (h.1 a k q), fun a k q => (h'.2.1 a k q).trans (h.2.1 a k q), fun a k q => (h'.2.2.1 a k q).trans (h.2.2.1 a k q), fun q => h'.2.2.2 (h.2.2.2 q)⟩
theorem zSt.q {G : zG} {S T : zS} (h : zSt G S T) {a k kd : Nat} (hk : G.2.1 a = kd) (hd : zdQ kd k = false) {v : Option Nat} (hv : S.2.2 a k = v) : T.2.2 a k = v := (h.2.2.1 a k (by rw [hk]; exact hd)).trans hv
theorem zSt.qb {G : zG} {S T : zS} (h : zSt G S T) {a k kd : Nat} (hk : G.2.1 a = kd) (hd : zdQ kd k = false) {v : Option Nat} (hv : T.2.2 a k = v) : S.2.2 a k = v := (h.2.2.1 a k (by rw [hk]; exact hd)).symm.trans hv
theorem zSt.fr {G : zG} {S T : zS} (h : zSt G S T) {y k t : Nat} (f : zFr G S y k t) : zFr G T y k t := ⟨f.1, h.q f.1.2 rfl f.2.1, h.q f.1.2 rfl f.2.2.1, f.2.2.2.1.imp fun _ q => ⟨q.1, (h.1 y 1 (by rw [f.1.2]; rfl)).trans q.2⟩, f.2.2.2.2⟩
theorem zSt.frb {G : zG} {S T : zS} (h : zSt G S T) {y k t : Nat} (f : zFr G T y k t) : zFr G S y k t := ⟨f.1, h.qb f.1.2 rfl f.2.1, h.qb f.1.2 rfl f.2.2.1, f.2.2.2.1.imp fun _ q => ⟨q.1, (h.1 y 1 (by rw [f.1.2]; rfl)).symm.trans q.2⟩, f.2.2.2.2⟩
theorem zSt.fe {G : zG} {S T : zS} (h : zSt G S T) {y : Nat} (f : zFe G S y) : zFe G T y := f.imp fun _ q => q.imp fun _ q => h.fr q
theorem zSt.feb {G : zG} {S T : zS} (h : zSt G S T) {y : Nat} (f : zFe G T y) : zFe G S y := f.imp fun _ q => q.imp fun _ q => h.frb q
theorem zSt.nd {G : zG} {S T : zS} (h : zSt G S T) {a i r : Nat} (f : zNd G S a i r) : zNd G T a i r := ⟨f.1, h.q f.1.2 rfl f.2.1, h.q f.1.2 rfl f.2.2.1, f.2.2.2⟩
theorem zSt.sc {G : zG} {S T : zS} (h : zSt G S T) {a i n : Nat} (f : zSc G S a i n) : zSc G T a i n := ⟨f.1, h.q f.1.2 rfl f.2.1, h.q f.1.2 rfl f.2.2.1, f.2.2.2⟩
theorem zSt.di {G : zG} {S T : zS} (h : zSt G S T) {a k v : Nat} (f : zDi G S a k v) : zDi G T a k v := ⟨f.1, h.q f.1.2 rfl f.2.1, h.q f.1.2 rfl f.2.2.1, f.2.2.2⟩
theorem zSt.fa {G : zG} {S T : zS} (h : zSt G S T) {f : Nat} (q : zFa G S f) : zFa G T f := ⟨q.1, q.2.1, fun j y hj hy => h.fe (q.2.2 j y hj (h.qb q.1.2 rfl hy))⟩
theorem zSt.rf {G : zG} {S T : zS} (h : zSt G S T) (q : zRf G S) : zRf G T := h.2.2.2 q
theorem zSt.pi {G : zG} {S T : zS} (h : zSt G S T) {a k kd : Nat} {v : Int32} (hk : G.2.1 a = kd) (hd : zdI kd k = true) : zSt G S (zpi T a k v) := by
  have h1 : ∀ b j, zdI (G.2.1 b) j = false → (zpi T a k v).1 b j = T.1 b j := by
    intro b j q
    rw [zpi_at]
    split
    · next c => rw [c.1, c.2, hk, hd] at q; cases q
    · rfl
  refine ⟨fun b j q => (h1 b j q).trans (h.1 b j q), h.2.1, h.2.2.1, fun q r y hr hy => ?_⟩
  obtain ⟨k1, t1, f⟩ := h.2.2.2 q r y hr hy
  exact ⟨k1, t1, f.1, f.2.1, f.2.2.1, f.2.2.2.1.imp fun _ z => ⟨z.1, (h1 y 1 (by rw [f.1.2]; rfl)).trans z.2⟩, f.2.2.2.2⟩
theorem zSt.pj {G : zG} {S T : zS} (h : zSt G S T) {a k kd : Nat} {v : Int64} (hk : G.2.1 a = kd) (hd : zdJ kd k = true) : zSt G S (zpj T a k v) := by
  refine ⟨h.1, fun b j q => ?_, h.2.2.1, h.2.2.2⟩
  rw [zpj_at]
  split
  · next c => rw [c.1, c.2, hk, hd] at q; cases q
  · exact h.2.1 b j q
theorem zSt.pq {G : zG} {S T : zS} (h : zSt G S T) {a y : Nat} (hk : G.2.1 a = 4) (hy : zFe G S y) : zSt G S (zpq T a 0 (some y)) := by
  have h3 : ∀ b j, zdQ (G.2.1 b) j = false → (zpq T a 0 (some y)).2.2 b j = S.2.2 b j := by
    intro b j q
    rw [zpq_at]
    split
    · next c => rw [c.1, hk] at q; cases q
    · exact h.2.2.1 b j q
  refine ⟨h.1, h.2.1, h3, fun q r z hr hz => ?_⟩
  have hfe : ∀ z, zFe G S z → zFe G (zpq T a 0 (some y)) z := fun z f => f.imp fun _ q => q.imp fun _ f => ⟨f.1, (h3 _ _ (by rw [f.1.2]; rfl)).trans f.2.1, (h3 _ _ (by rw [f.1.2]; rfl)).trans f.2.2.1, f.2.2.2.1.imp fun _ q => ⟨q.1, (h.1 _ 1 (by rw [f.1.2]; rfl)).trans q.2⟩, f.2.2.2.2⟩
  rw [zpq_at] at hz
  split at hz
  · cases hz; exact hfe _ hy
  · exact hfe _ (h.feb (h.2.2.2 q r z hr hz))
theorem zin {n M : Int32} {k : Nat} (hM : M.toInt = k) (h0 : ¬ n < 0) (h1 : ¬ M ≤ n) : vp_in n k := by
  rw [Int32.lt_iff_toInt_lt] at h0
  rw [Int32.le_iff_toInt_le] at h1
  have e0 : (0 : Int32).toInt = 0 := by decide
  exact vp_in_iff.mpr ⟨by omega, by omega⟩
theorem zin' {n M : Int32} {k : Nat} (hM : M.toInt = k) (h0 : ¬ n < 0) (h1 : n < M) : vp_in n k := by
  rw [Int32.lt_iff_toInt_lt] at h0 h1
  have e0 : (0 : Int32).toInt = 0 := by decide
  exact vp_in_iff.mpr ⟨by omega, by omega⟩
theorem zin8 {r n : Int32} (h : (r = 1 ∧ ¬ n < 0 ∧ ¬ 8 ≤ n) ∨ (r = 0 ∧ (n < 0 ∨ 8 ≤ n))) (hr : ¬ r = 0) : vp_in n 8 := by
  rcases h with h | h
  · exact zin (M := 8) (by decide) h.2.1 h.2.2
  · exact absurd h.1 hr
theorem vp_in_lt {i : Int32} {n : Nat} (h : vp_in i n) : i.toNatClampNeg < n := by
  unfold vp_in at h; omega
def zNs (G : zG) (S : zS) (f : Nat) : Prop := zO G f 12 ∧ G.2.2 f = 8 ∧ ∀ j, j < 8 → ∃ a i r, S.2.2 f j = some a ∧ zNd G S a i r
theorem zSt.ns {G : zG} {S T : zS} (h : zSt G S T) {f : Nat} (q : zNs G S f) : zNs G T f := ⟨q.1, q.2.1, fun j hj => by
  obtain ⟨a, i, r, h1, h2⟩ := q.2.2 j hj
  exact ⟨a, i, r, h.q q.1.2 rfl h1, h.nd h2⟩⟩
/-- the class's object and all that hangs on it -/
def zX (G : zG) (S : zS) (x f n sc ia na d ka va : Nat) : Prop := zO G x 6 ∧ S.2.2 x 0 = some f ∧ S.2.2 x 1 = some n ∧ S.2.2 x 2 = some sc ∧ S.2.2 x 3 = some d ∧ zFa G S f ∧ zNs G S n ∧ zSc G S sc ia na ∧ zDi G S d ka va ∧ zRf G S
theorem zSt.zx {G : zG} {S T : zS} (h : zSt G S T) {x f n sc ia na d ka va : Nat} (q : zX G S x f n sc ia na d ka va) : zX G T x f n sc ia na d ka va := by
  obtain ⟨h0, h1, h2, h3, h4, h5, h6, h7, h8, h9⟩ := q
  exact ⟨h0, h.q h0.2 rfl h1, h.q h0.2 rfl h2, h.q h0.2 rfl h3, h.q h0.2 rfl h4, h.fa h5, h.ns h6, h.sc h7, h.di h8, h.rf h9⟩
theorem zX.time {G : zG} {S : zS} {x f n sc ia na d ka va : Nat} {v : Int32} (q : zX G S x f n sc ia na d ka va) : zX G (zpi S x 4 v) x f n sc ia na d ka va := by
  have e : ∀ y, y ≠ x → (zpi S x 4 v).1 y 1 = S.1 y 1 := fun y hy => by rw [zpi_at, if_neg (fun c => hy c.1)]
  have fe : ∀ y, zFe G S y → zFe G (zpi S x 4 v) y := by
    intro y ⟨k, t, h⟩
    refine ⟨k, t, h.1, h.2.1, h.2.2.1, ?_, h.2.2.2.2⟩
    obtain ⟨n, h1, h2⟩ := h.2.2.2.1
    refine ⟨n, h1, ?_⟩
    rw [e y (fun c => ?_)]
    · exact h2
    · have a := h.1.2; have b := q.1.2; rw [c, b] at a; cases a
  obtain ⟨h0, h1, h2, h3, h4, h5, h6, h7, h8, h9⟩ := q
  exact ⟨h0, h1, h2, h3, h4, ⟨h5.1, h5.2.1, fun j y hj hy => fe y (h5.2.2 j y hj hy)⟩, h6, h7, h8, fun r y hr hy => fe y (h9 r y hr hy)⟩
theorem zSt.pq3 {G : zG} {S T : zS} (h : zSt G S T) {a : Nat} (hk : G.2.1 a = 3) (v : Option Nat) : zSt G S (zpq T a 4 v) := by
  have h3 : ∀ b j, zdQ (G.2.1 b) j = false → (zpq T a 4 v).2.2 b j = S.2.2 b j := by
    intro b j q
    rw [zpq_at]
    split
    · next c => rw [c.1, c.2, hk] at q; cases q
    · exact h.2.2.1 b j q
  refine ⟨h.1, h.2.1, h3, fun q r z hr hz => ?_⟩
  rw [zpq_at, if_neg (fun c => by rw [c.1, hk] at hr; cases hr)] at hz
  obtain ⟨k1, t1, f⟩ := h.feb (h.2.2.2 q r z hr hz)
  exact ⟨k1, t1, f.1, (h3 _ _ (by rw [f.1.2]; rfl)).trans f.2.1, (h3 _ _ (by rw [f.1.2]; rfl)).trans f.2.2.1, f.2.2.2.1.imp fun _ w => ⟨w.1, (h.1 _ 1 (by rw [f.1.2]; rfl)).trans w.2⟩, f.2.2.2.2⟩
/-- the same, but for the time -/
def zSu (G : zG) (x : Nat) (S T : zS) : Prop := (∀ a k, ¬ (a = x ∧ k = 4) → zdI (G.2.1 a) k = false → T.1 a k = S.1 a k) ∧ (∀ a k, zdJ (G.2.1 a) k = false → T.2.1 a k = S.2.1 a k) ∧ (∀ a k, zdQ (G.2.1 a) k = false → T.2.2 a k = S.2.2 a k)
theorem zSu.refl (G : zG) (x : Nat) (S : zS) : zSu G x S S := ⟨fun _ _ _ _ => rfl, fun _ _ _ => rfl, fun _ _ _ => rfl⟩
theorem zSu.trans {G : zG} {x : Nat} {S T U : zS} (h : zSu G x S T) (h' : zSu G x T U) : zSu G x S U := ⟨fun a k n q => (h'.1 a k n q).trans (h.1 a k n q), fun a k q => (h'.2.1 a k q).trans (h.2.1 a k q), fun a k q => (h'.2.2 a k q).trans (h.2.2 a k q)⟩
theorem zSt.u {G : zG} {x : Nat} {S T : zS} (h : zSt G S T) (v : Int32) : zSu G x S (zpi T x 4 v) := ⟨fun a k n q => by rw [zpi_at, if_neg n]; exact h.1 a k q, h.2.1, h.2.2.1⟩
theorem zswo {x : Int32} {k : Nat} (h : ∀ j : Nat, j < k + 1 → ¬ x = nI j) (hk : k < 1000 := by decide) : x.toInt < 0 ∨ (k : Int) < x.toInt := by
  rcases Int.lt_or_le x.toInt 0 with c | c
  · exact Or.inl c
  · rcases Int.lt_or_le (k : Int) x.toInt with d | d
    · exact Or.inr d
    · exfalso
      obtain ⟨j, hj, e⟩ := nI_of (x := x) (by rw [Int32.lt_iff_toInt_lt]; have e0 : (0 : Int32).toInt = 0 := by decide
                                              omega)
      have e1 : x.toInt = (j : Int) := by rw [e, nI_toInt hj]
      exact h j (by omega) e
/-- nothing of the world is asked -/
theorem zblind0 {av : List Value} : FrameBlind (va_Pc av (fun _ => True)) := fun _ _ _ _ q => q
theorem zpreS0 {s : State} {H : Heap} {As : List Value} : PreS s H (va_Pc As (fun _ => True)) As := ⟨zblind0, fun _ _ _ => ⟨rfl, trivial⟩⟩
