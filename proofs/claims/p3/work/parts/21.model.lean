/-! the reference: its arrays by the place of the field: how long (0: none), of which kind -/
def zmN (k : Nat) : Nat := match k with
  | 1 => 62
  | 2 => 62
  | 3 => 62
  | 4 => 62
  | 5 => 496
  | 6 => 496
  | 7 => 496
  | 8 => 3968
  | 10 => 16
  | 11 => 16
  | 12 => 8
  | 13 => 8
  | 14 => 8
  | 15 => 8
  | 16 => 8
  | 17 => 8
  | 18 => 8
  | 19 => 8
  | 20 => 8
  | 21 => 8
  | 22 => 8
  | 23 => 8
  | 24 => 8
  | 25 => 8
  | 26 => 8
  | 27 => 8
  | 28 => 8
  | 29 => 128
  | 30 => 8
  | 31 => 8
  | 32 => 8
  | 38 => 64
  | 39 => 200
  | 40 => 200
  | _ => 0
def zmK (k : Nat) : Nat := match k with
  | 1 => 10
  | 4 => 10
  | 6 => 10
  | 17 => 10
  | _ => 8
theorem zmK_or (k : Nat) : zmK k = 8 ∨ zmK k = 10 := by unfold zmK; split <;> simp
def zM (G : zG) (S : zS) (mo : Nat) (ad : Nat → Nat) : Prop := zO G mo 7 ∧ (∀ k, 0 < zmN k → S.2.2 mo k = some (ad k) ∧ zO G (ad k) (zmK k) ∧ G.2.2 (ad k) = zmN k) ∧ ∀ i j, 0 < zmN i → 0 < zmN j → ad i = ad j → i = j
theorem zM.eq {G : zG} {S T : zS} {mo : Nat} {ad : Nat → Nat} (h : zM G S mo ad) (e : T.2 = S.2) : zM G T mo ad := ⟨h.1, fun k hk => by rw [e]; exact h.2.1 k hk, h.2.2⟩
theorem zM.ne {G : zG} {S : zS} {mo : Nat} {ad : Nat → Nat} (h : zM G S mo ad) {i j : Nat} (hi : 0 < zmN i) (hj : 0 < zmN j) (n : i ≠ j) : ad i ≠ ad j := fun c => n (h.2.2 i j hi hj c)
theorem zM.mo {G : zG} {S : zS} {mo : Nat} {ad : Nat → Nat} (h : zM G S mo ad) {i : Nat} (hi : 0 < zmN i) : ad i ≠ mo := fun c => by
  have a := (h.2.1 i hi).2.1.2
  rw [c, h.1.2] at a
  rcases zmK_or i with q | q <;> rw [q] at a <;> cases a
theorem zpi_row (S : zS) (a k : Nat) (v : Int32) : (zpi S a k v).1 a = upd (S.1 a) k v := va_up_self _ _ _
theorem zpi_off (S : zS) {a b : Nat} (h : b ≠ a) (k : Nat) (v : Int32) : (zpi S a k v).1 b = S.1 b := va_up_ne _ _ h
theorem zupd_s (f : Nat → Int32) (k : Nat) (v : Int32) : upd f k v k = v := pk_us
theorem zupd_n (f : Nat → Int32) {j k : Nat} (h : j ≠ k) (v : Int32) : upd f k v j = f j := pk_un h
/-- nothing but the arrays ks and the fields fs has changed -/
def zC (mo : Nat) (ad : Nat → Nat) (ks fs : List Nat) (S T : zS) : Prop := T.2 = S.2 ∧ (∀ k, 0 < zmN k → k ∉ ks → T.1 (ad k) = S.1 (ad k)) ∧ ∀ k, k ∉ fs → T.1 mo k = S.1 mo k
theorem zC.refl (mo : Nat) (ad : Nat → Nat) (ks fs : List Nat) (S : zS) : zC mo ad ks fs S S := ⟨rfl, fun _ _ _ => rfl, fun _ _ => rfl⟩
theorem zC.trans {mo : Nat} {ad : Nat → Nat} {ks fs : List Nat} {S T U : zS} (h : zC mo ad ks fs S T) (h' : zC mo ad ks fs T U) : zC mo ad ks fs S U := ⟨h'.1.trans h.1, fun k a b => (h'.2.1 k a b).trans (h.2.1 k a b), fun k b => (h'.2.2 k b).trans (h.2.2 k b)⟩
theorem zC.mono {mo : Nat} {ad : Nat → Nat} {ks fs ks' fs' : List Nat} {S T : zS} (h : zC mo ad ks fs S T) (hk : ∀ x ∈ ks, x ∈ ks') (hf : ∀ x ∈ fs, x ∈ fs') : zC mo ad ks' fs' S T := ⟨h.1, fun k a b => h.2.1 k a (fun c => b (hk k c)), fun k b => h.2.2 k (fun c => b (hf k c))⟩
theorem zC.pa {G : zG} {S0 : zS} {mo : Nat} {ad : Nat → Nat} {ks fs : List Nat} {S T : zS} (hM : zM G S0 mo ad) (h : zC mo ad ks fs S T) {k : Nat} (hk : k ∈ ks) (h0 : 0 < zmN k) (j : Nat) (v : Int32) : zC mo ad ks fs S (zpi T (ad k) j v) :=
  ⟨h.1, fun i hi hn => (by rw [zpi_off T (hM.ne hi h0 (fun c => hn (c ▸ hk)))]; exact h.2.1 i hi hn), fun i hn => (by rw [zpi_off T (hM.mo h0).symm]; exact h.2.2 i hn)⟩
theorem zC.pf {G : zG} {S0 : zS} {mo : Nat} {ad : Nat → Nat} {ks fs : List Nat} {S T : zS} (hM : zM G S0 mo ad) (h : zC mo ad ks fs S T) {k : Nat} (hk : k ∈ fs) (v : Int32) : zC mo ad ks fs S (zpi T mo k v) :=
  ⟨h.1, fun i hi hn => (by rw [zpi_off T (hM.mo hi)]; exact h.2.1 i hi hn), fun i hn => (by have hne : i ≠ k := (fun c => hn (by rw [c]; exact hk)); rw [zpi_row, zupd_n _ hne]; exact h.2.2 i hn)⟩
/-- of one node: its status byte, its frame at hand, how far it is -/
def zJr (len sby stt ch ida sb : Nat → Int32) (n : Nat) : Prop := (∃ b, b < 8 ∧ sby n = nI b) ∧ ∃ i L, i < 62 ∧ ida n = nI i ∧ L ≤ 8 ∧ len i = nI L ∧ (stt n = 4 → ∃ q, sb n = nI q ∧ q < 10 * (L + 1)) ∧ (stt n = 5 → ∃ q, ch n = nI q ∧ q < L + 1)
def zFd (sl ti so di : Int32) : Prop := (∃ q, q ≤ 16 ∧ sl = nI q) ∧ (∃ t, t ≤ 200000 ∧ ti = nI t) ∧ (so = -1 ∨ ∃ q, q < 16 ∧ so = nI q) ∧ ∃ q, q ≤ 200 ∧ di = nI q
def zLr (len : Nat → Int32) : Prop := ∀ i, i < 62 → ∃ L, L ≤ 8 ∧ len i = nI L
def zIr (len sby stt ch ida sb : Nat → Int32) : Prop := zLr len ∧ ∀ n, n < 8 → zJr len sby stt ch ida sb n
def zXr (x : Nat) (len sby stt ch ida sb : Nat → Int32) : Prop := zLr len ∧ (∀ n, n < 8 → n ≠ x → zJr len sby stt ch ida sb n) ∧ (∃ b, b < 8 ∧ sby x = nI b) ∧ ∃ i, i < 62 ∧ ida x = nI i
theorem zIr.x {len sby stt ch ida sb : Nat → Int32} (h : zIr len sby stt ch ida sb) {x : Nat} (hx : x < 8) : zXr x len sby stt ch ida sb := by
  obtain ⟨b, i, L, h1, h2, -⟩ := h.2 x hx
  exact ⟨h.1, fun n hn _ => h.2 n hn, b, i, h1, h2⟩
theorem zXr.close {len sby stt ch ida sb : Nat → Int32} {x : Nat} (h : zXr x len sby stt ch ida sb) (hc : ∀ i L, ida x = nI i → i < 62 → len i = nI L → L ≤ 8 → (stt x = 4 → ∃ q, sb x = nI q ∧ q < 10 * (L + 1)) ∧ (stt x = 5 → ∃ q, ch x = nI q ∧ q < L + 1)) : zIr len sby stt ch ida sb := by
  refine ⟨h.1, fun n hn => ?_⟩
  by_cases hx : n = x
  · subst hx
    obtain ⟨i, hi, ei⟩ := h.2.2.2
    obtain ⟨L, hL, eL⟩ := h.1 i hi
    exact ⟨h.2.2.1, i, L, hi, ei, hL, eL, hc i L ei hi eL hL⟩
  · exact h.2.1 n hn hx
theorem zXr.idle {len sby stt ch ida sb : Nat → Int32} {x : Nat} (h : zXr x len sby stt ch ida sb) (h4 : stt x ≠ 4) (h5 : stt x ≠ 5) : zIr len sby stt ch ida sb := h.close (fun _ _ _ _ _ _ => ⟨fun c => absurd c h4, fun c => absurd c h5⟩)
theorem zXr.st {len sby stt ch ida sb : Nat → Int32} {x : Nat} (h : zXr x len sby stt ch ida sb) (v : Int32) : zXr x len sby (upd stt x v) ch ida sb := ⟨h.1, fun n hn hx => by
  have q := h.2.1 n hn hx
  unfold zJr at q ⊢
  rw [zupd_n _ hx]; exact q, h.2.2⟩
theorem zXr.ch {len sby stt ch ida sb : Nat → Int32} {x : Nat} (h : zXr x len sby stt ch ida sb) (v : Int32) : zXr x len sby stt (upd ch x v) ida sb := ⟨h.1, fun n hn hx => by
  have q := h.2.1 n hn hx
  unfold zJr at q ⊢
  rw [zupd_n _ hx]; exact q, h.2.2⟩
theorem zXr.sb {len sby stt ch ida sb : Nat → Int32} {x : Nat} (h : zXr x len sby stt ch ida sb) (v : Int32) : zXr x len sby stt ch ida (upd sb x v) := ⟨h.1, fun n hn hx => by
  have q := h.2.1 n hn hx
  unfold zJr at q ⊢
  rw [zupd_n _ hx]; exact q, h.2.2⟩
theorem zXr.id {len sby stt ch ida sb : Nat → Int32} {x : Nat} (h : zXr x len sby stt ch ida sb) {i : Nat} (hi : i < 62) : zXr x len sby stt ch (upd ida x (nI i)) sb := ⟨h.1, fun n hn hx => by
  have q := h.2.1 n hn hx
  unfold zJr at q ⊢
  rw [zupd_n _ hx]; exact q, h.2.2.1, i, hi, zupd_s _ _ _⟩
def zI (mo : Nat) (ad : Nat → Nat) (S : zS) : Prop := zIr (S.1 (ad 2)) (S.1 (ad 14)) (S.1 (ad 16)) (S.1 (ad 27)) (S.1 (ad 28)) (S.1 (ad 30)) ∧ zFd (S.1 mo 9) (S.1 mo 33) (S.1 mo 34) (S.1 mo 41)
def zIx (mo : Nat) (ad : Nat → Nat) (x : Nat) (S : zS) : Prop := zXr x (S.1 (ad 2)) (S.1 (ad 14)) (S.1 (ad 16)) (S.1 (ad 27)) (S.1 (ad 28)) (S.1 (ad 30)) ∧ zFd (S.1 mo 9) (S.1 mo 33) (S.1 mo 34) (S.1 mo 41)
abbrev zkI : List Nat := [2, 14, 16, 27, 28, 30]
abbrev zfI : List Nat := [9, 33, 34, 41]
theorem zI.c {mo : Nat} {ad : Nat → Nat} {ks fs : List Nat} {S T : zS} (h : zI mo ad S) (c : zC mo ad ks fs S T) (hk : ∀ x ∈ zkI, x ∉ ks) (hf : ∀ x ∈ zfI, x ∉ fs) : zI mo ad T := by
  unfold zI at h ⊢
  rw [c.2.1 2 (by decide) (hk 2 (by decide)), c.2.1 14 (by decide) (hk 14 (by decide)), c.2.1 16 (by decide) (hk 16 (by decide)), c.2.1 27 (by decide) (hk 27 (by decide)), c.2.1 28 (by decide) (hk 28 (by decide)), c.2.1 30 (by decide) (hk 30 (by decide)), c.2.2 9 (hf 9 (by decide)), c.2.2 33 (hf 33 (by decide)), c.2.2 34 (hf 34 (by decide)), c.2.2 41 (hf 41 (by decide))]
  exact h
theorem zIx.c {mo : Nat} {ad : Nat → Nat} {x : Nat} {ks fs : List Nat} {S T : zS} (h : zIx mo ad x S) (c : zC mo ad ks fs S T) (hk : ∀ x ∈ zkI, x ∉ ks) (hf : ∀ x ∈ zfI, x ∉ fs) : zIx mo ad x T := by
  unfold zIx at h ⊢
  rw [c.2.1 2 (by decide) (hk 2 (by decide)), c.2.1 14 (by decide) (hk 14 (by decide)), c.2.1 16 (by decide) (hk 16 (by decide)), c.2.1 27 (by decide) (hk 27 (by decide)), c.2.1 28 (by decide) (hk 28 (by decide)), c.2.1 30 (by decide) (hk 30 (by decide)), c.2.2 9 (hf 9 (by decide)), c.2.2 33 (hf 33 (by decide)), c.2.2 34 (hf 34 (by decide)), c.2.2 41 (hf 41 (by decide))]
  exact h
theorem zI.ix {mo : Nat} {ad : Nat → Nat} {S : zS} (h : zI mo ad S) {x : Nat} (hx : x < 8) : zIx mo ad x S := ⟨h.1.x hx, h.2⟩
theorem zI.free {G : zG} {S0 : zS} {mo : Nat} {ad : Nat → Nat} {S : zS} (h : zI mo ad S) (hM : zM G S0 mo ad) {k : Nat} (h0 : 0 < zmN k) (hk : ∀ x ∈ zkI, x ≠ k) (j : Nat) (v : Int32) : zI mo ad (zpi S (ad k) j v) :=
  h.c (zC.pa (ks := [k]) (fs := []) hM (zC.refl mo ad [k] [] S) (by simp) h0 j v) (fun x hx c => hk x hx (by simpa using c)) (fun _ _ c => by cases c)
theorem zIx.free {G : zG} {S0 : zS} {mo : Nat} {ad : Nat → Nat} {x : Nat} {S : zS} (h : zIx mo ad x S) (hM : zM G S0 mo ad) {k : Nat} (h0 : 0 < zmN k) (hk : ∀ x ∈ zkI, x ≠ k) (j : Nat) (v : Int32) : zIx mo ad x (zpi S (ad k) j v) :=
  h.c (zC.pa (ks := [k]) (fs := []) hM (zC.refl mo ad [k] [] S) (by simp) h0 j v) (fun x hx c => hk x hx (by simpa using c)) (fun _ _ c => by cases c)
theorem zI.ffree {G : zG} {S0 : zS} {mo : Nat} {ad : Nat → Nat} {S : zS} (h : zI mo ad S) (hM : zM G S0 mo ad) {k : Nat} (hk : ∀ x ∈ zfI, x ≠ k) (v : Int32) : zI mo ad (zpi S mo k v) :=
  h.c (zC.pf (ks := []) (fs := [k]) hM (zC.refl mo ad [] [k] S) (by simp) v) (fun _ _ c => by cases c) (fun x hx c => hk x hx (by simpa using c))
theorem zIx.st {G : zG} {S0 : zS} {mo : Nat} {ad : Nat → Nat} {x : Nat} {S : zS} (h : zIx mo ad x S) (hM : zM G S0 mo ad) (v : Int32) : zIx mo ad x (zpi S (ad 16) x v) := by
  unfold zIx
  rw [zpi_off S (hM.ne (i := 2) (j := 16) (by decide) (by decide) (by decide)), zpi_off S (hM.ne (i := 14) (j := 16) (by decide) (by decide) (by decide)), zpi_off S (hM.ne (i := 27) (j := 16) (by decide) (by decide) (by decide)), zpi_off S (hM.ne (i := 28) (j := 16) (by decide) (by decide) (by decide)), zpi_off S (hM.ne (i := 30) (j := 16) (by decide) (by decide) (by decide)), zpi_row, zpi_off S (hM.mo (i := 16) (by decide)).symm]
  exact ⟨h.1.st v, h.2⟩
theorem zIx.ch {G : zG} {S0 : zS} {mo : Nat} {ad : Nat → Nat} {x : Nat} {S : zS} (h : zIx mo ad x S) (hM : zM G S0 mo ad) (v : Int32) : zIx mo ad x (zpi S (ad 27) x v) := by
  unfold zIx
  rw [zpi_off S (hM.ne (i := 2) (j := 27) (by decide) (by decide) (by decide)), zpi_off S (hM.ne (i := 14) (j := 27) (by decide) (by decide) (by decide)), zpi_off S (hM.ne (i := 16) (j := 27) (by decide) (by decide) (by decide)), zpi_off S (hM.ne (i := 28) (j := 27) (by decide) (by decide) (by decide)), zpi_off S (hM.ne (i := 30) (j := 27) (by decide) (by decide) (by decide)), zpi_row, zpi_off S (hM.mo (i := 27) (by decide)).symm]
  exact ⟨h.1.ch v, h.2⟩
theorem zIx.sb {G : zG} {S0 : zS} {mo : Nat} {ad : Nat → Nat} {x : Nat} {S : zS} (h : zIx mo ad x S) (hM : zM G S0 mo ad) (v : Int32) : zIx mo ad x (zpi S (ad 30) x v) := by
  unfold zIx
  rw [zpi_off S (hM.ne (i := 2) (j := 30) (by decide) (by decide) (by decide)), zpi_off S (hM.ne (i := 14) (j := 30) (by decide) (by decide) (by decide)), zpi_off S (hM.ne (i := 16) (j := 30) (by decide) (by decide) (by decide)), zpi_off S (hM.ne (i := 27) (j := 30) (by decide) (by decide) (by decide)), zpi_off S (hM.ne (i := 28) (j := 30) (by decide) (by decide) (by decide)), zpi_row, zpi_off S (hM.mo (i := 30) (by decide)).symm]
  exact ⟨h.1.sb v, h.2⟩
theorem zIx.id {G : zG} {S0 : zS} {mo : Nat} {ad : Nat → Nat} {x : Nat} {S : zS} (h : zIx mo ad x S) (hM : zM G S0 mo ad) {i : Nat} (hi : i < 62) : zIx mo ad x (zpi S (ad 28) x (nI i)) := by
  unfold zIx
  rw [zpi_off S (hM.ne (i := 2) (j := 28) (by decide) (by decide) (by decide)), zpi_off S (hM.ne (i := 14) (j := 28) (by decide) (by decide) (by decide)), zpi_off S (hM.ne (i := 16) (j := 28) (by decide) (by decide) (by decide)), zpi_off S (hM.ne (i := 27) (j := 28) (by decide) (by decide) (by decide)), zpi_off S (hM.ne (i := 30) (j := 28) (by decide) (by decide) (by decide)), zpi_row, zpi_off S (hM.mo (i := 28) (by decide)).symm]
  exact ⟨h.1.id hi, h.2⟩
theorem zIx.idle {mo : Nat} {ad : Nat → Nat} {x : Nat} {S : zS} (h : zIx mo ad x S) (h4 : S.1 (ad 16) x ≠ 4) (h5 : S.1 (ad 16) x ≠ 5) : zI mo ad S := ⟨h.1.idle h4 h5, h.2⟩
theorem zIx.close {mo : Nat} {ad : Nat → Nat} {x : Nat} {S : zS} (h : zIx mo ad x S) (hc : ∀ i L, S.1 (ad 28) x = nI i → i < 62 → S.1 (ad 2) i = nI L → L ≤ 8 → (S.1 (ad 16) x = 4 → ∃ q, S.1 (ad 30) x = nI q ∧ q < 10 * (L + 1)) ∧ (S.1 (ad 16) x = 5 → ∃ q, S.1 (ad 27) x = nI q ∧ q < L + 1)) : zI mo ad S := ⟨h.1.close hc, h.2⟩
theorem zI.at {G : zG} {S0 : zS} {mo : Nat} {ad : Nat → Nat} {S : zS} (h : zI mo ad S) (hM : zM G S0 mo ad) {x : Nat} (hx : x < 8) {v : Int32} (h4 : v ≠ 4) (h5 : v ≠ 5) : zI mo ad (zpi S (ad 16) x v) :=
  ((h.ix hx).st hM v).idle (by rw [zpi_row, zupd_s]; exact h4) (by rw [zpi_row, zupd_s]; exact h5)
theorem zIx.at {G : zG} {S0 : zS} {mo : Nat} {ad : Nat → Nat} {x : Nat} {S : zS} (h : zIx mo ad x S) (hM : zM G S0 mo ad) {v : Int32} (h4 : v ≠ 4) (h5 : v ≠ 5) : zI mo ad (zpi S (ad 16) x v) :=
  (h.st hM v).idle (by rw [zpi_row, zupd_s]; exact h4) (by rw [zpi_row, zupd_s]; exact h5)
theorem zI.fd {G : zG} {S0 : zS} {mo : Nat} {ad : Nat → Nat} {S : zS} (h : zI mo ad S) (hM : zM G S0 mo ad) (k : Nat) (v : Int32) (hf : zFd ((zpi S mo k v).1 mo 9) ((zpi S mo k v).1 mo 33) ((zpi S mo k v).1 mo 34) ((zpi S mo k v).1 mo 41)) : zI mo ad (zpi S mo k v) := by
  refine ⟨?_, hf⟩
  rw [zpi_off S (hM.mo (i := 2) (by decide)), zpi_off S (hM.mo (i := 14) (by decide)), zpi_off S (hM.mo (i := 16) (by decide)), zpi_off S (hM.mo (i := 27) (by decide)), zpi_off S (hM.mo (i := 28) (by decide)), zpi_off S (hM.mo (i := 30) (by decide))]
  exact h.1
theorem zI.slot {G : zG} {S0 : zS} {mo : Nat} {ad : Nat → Nat} {S : zS} (h : zI mo ad S) (hM : zM G S0 mo ad) {v : Int32} (hv : v = -1 ∨ ∃ q, q < 16 ∧ v = nI q) : zI mo ad (zpi S mo 34 v) :=
  h.fd hM 34 v (by rw [zpi_row, zupd_s, zupd_n _ (by decide), zupd_n _ (by decide), zupd_n _ (by decide)]; exact ⟨h.2.1, h.2.2.1, hv, h.2.2.2.2⟩)
theorem zI.dist {G : zG} {S0 : zS} {mo : Nat} {ad : Nat → Nat} {S : zS} (h : zI mo ad S) (hM : zM G S0 mo ad) {q : Nat} (hq : q ≤ 200) : zI mo ad (zpi S mo 41 (nI q)) :=
  h.fd hM 41 _ (by rw [zpi_row, zupd_s, zupd_n _ (by decide), zupd_n _ (by decide), zupd_n _ (by decide)]; exact ⟨h.2.1, h.2.2.1, h.2.2.2.1, q, hq, rfl⟩)
theorem zI.time {G : zG} {S0 : zS} {mo : Nat} {ad : Nat → Nat} {S : zS} (h : zI mo ad S) (hM : zM G S0 mo ad) {q : Nat} (hq : q ≤ 200000) : zI mo ad (zpi S mo 33 (nI q)) :=
  h.fd hM 33 _ (by rw [zpi_row, zupd_s, zupd_n _ (by decide), zupd_n _ (by decide), zupd_n _ (by decide)]; exact ⟨h.2.1, ⟨q, hq, rfl⟩, h.2.2.2.1, h.2.2.2.2⟩)
theorem zI.len {mo : Nat} {ad : Nat → Nat} {S : zS} (h : zI mo ad S) {i : Nat} (hi : i < 62) : ∃ L, L ≤ 8 ∧ S.1 (ad 2) i = nI L := h.1.1 i hi
theorem zIx.len {mo : Nat} {ad : Nat → Nat} {x : Nat} {S : zS} (h : zIx mo ad x S) {i : Nat} (hi : i < 62) : ∃ L, L ≤ 8 ∧ S.1 (ad 2) i = nI L := h.1.1 i hi
/-- a value of an array that another place, or another array, was written since -/
theorem zpi_o {G : zG} {S0 : zS} {mo : Nat} {ad : Nat → Nat} (hM : zM G S0 mo ad) (S : zS) {i k : Nat} (hi : 0 < zmN i) (hk : 0 < zmN k) (hn : i ≠ k) (j : Nat) (v : Int32) {n : Nat} {w : Int32} (h : S.1 (ad i) n = w) : (zpi S (ad k) j v).1 (ad i) n = w := by rw [zpi_off S (hM.ne hi hk hn)]; exact h
theorem zpi_s (S : zS) (a k : Nat) (v : Int32) : (zpi S a k v).1 a k = v := by rw [zpi_row, zupd_s]
theorem zpi_ff (S : zS) (mo k : Nat) (v : Int32) {i : Nat} (h : i ≠ k) {w : Int32} (hw : S.1 mo i = w) : (zpi S mo k v).1 mo i = w := by rw [zpi_row, zupd_n _ h]; exact hw
theorem zpi_af {G : zG} {S0 : zS} {mo : Nat} {ad : Nat → Nat} (hM : zM G S0 mo ad) (S : zS) {k : Nat} (hk : 0 < zmN k) (j : Nat) (v : Int32) {i : Nat} {w : Int32} (hw : S.1 mo i = w) : (zpi S (ad k) j v).1 mo i = w := by rw [zpi_off S (hM.mo hk).symm]; exact hw
theorem zpi_f {G : zG} {S0 : zS} {mo : Nat} {ad : Nat → Nat} (hM : zM G S0 mo ad) (S : zS) {i : Nat} (hi : 0 < zmN i) (k : Nat) (v : Int32) {n : Nat} {w : Int32} (h : S.1 (ad i) n = w) : (zpi S mo k v).1 (ad i) n = w := by rw [zpi_off S (hM.mo hi)]; exact h
theorem zfr {r id : Int32} {f : Nat → Int32} (h : (r = 1 ∧ ∃ j, j < 62 ∧ id = nI j ∧ ¬ f j = 0) ∨ (r = 0 ∧ ((id < 0 ∨ 61 < id) ∨ ∃ j, j < 62 ∧ id = nI j ∧ f j = 0))) (hr : ¬ r = 0) : ∃ j : Nat, j < 62 ∧ id = nI j := by
  rcases h with ⟨-, j, h1, h2, -⟩ | h
  · exact ⟨j, h1, h2⟩
  · exact absurd h.1 hr
theorem zin61 {r id : Int32} (h : (r = 1 ∧ ¬ id < 0 ∧ ¬ 61 < id) ∨ (r = 0 ∧ (id < 0 ∨ 61 < id))) (hr : ¬ r = 0) : ∃ j : Nat, j < 62 ∧ id = nI j := by
  rcases h with h | h
  · have h2 := h.2.2
    obtain ⟨j, hj, e⟩ := nI_of2 (M := 61) (n := 61) (by decide) h.2.1 (by rw [Int32.lt_iff_toInt_lt] at h2; rw [Int32.le_iff_toInt_le]; omega)
    exact ⟨j, by omega, e⟩
  · exact absurd h.1 hr
