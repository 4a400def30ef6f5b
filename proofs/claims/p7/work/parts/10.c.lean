theorem zin8n {r n : Int32} (h : (r = 1 ∧ ¬ n < 0 ∧ ¬ 8 ≤ n) ∨ (r = 0 ∧ (n < 0 ∨ 8 ≤ n))) (hr : ¬ r = 0) : ∃ j : Nat, j < 8 ∧ n = nI j := vp_in_of (zin8 h hr) (by decide)
theorem zin8b {r n : Int32} (h : (r = 1 ∧ ¬ n < 0 ∧ ¬ 8 ≤ n) ∨ (r = 0 ∧ (n < 0 ∨ 8 ≤ n))) (hr : r = 0) : n < 0 ∨ 8 ≤ n := by
  rcases h with h | h
  · exact absurd (h.1.symm.trans hr) (by decide)
  · exact h.2
theorem zn8 {j : Nat} (h : j < 8) : ¬ (nI j < 0 ∨ 8 ≤ nI j) := fun c => c.elim (nI_pos (by omega)) (nI_ge (a := j) (b := 8) h (by omega))
/-- which exception (1: argument, 2: state), if any -/
def kNode (v : Int32) : Prop := v < 0 ∨ 8 ≤ v
def kWake (v : Int32) : Int32 := if (v < 0 ∨ 8 ≤ v) then 1 else 0
def kRun (t n : Int32) : Int32 := if (n < 1 ∨ ¬ n ≤ 2000) then 1 else if ¬ t + n ≤ 200000 then 2 else 0
def kSpace (v b : Int32) : Int32 := if ((v < 0 ∨ 8 ≤ v) ∨ b < 0 ∨ ¬ b ≤ 8) then 1 else 0
def kTold (v k : Int32) : Int32 := if ((v < 0 ∨ 8 ≤ v) ∨ k < 0 ∨ ¬ k ≤ 6) then 1 else 0
def kCount (k : Int32) : Int32 := if k = 0 then 0 else if k = 1 then 0 else if k = 2 then 0 else if k = 3 then 0 else 1
def kLine (b : Int32) : Int32 := if (b < 1 ∨ ¬ b ≤ 64) then 1 else 0
def kDist (b v c : Int32) : Int32 := if (b < 0 ∨ 4000 < b ∨ v < 0 ∨ ¬ v ≤ 1) then 1 else if ¬ c < 200 then 2 else 0
def zcount (S : zS) (x sc d : Nat) (k : Int32) : Int32 := if k = 0 then S.1 x 4 else if k = 1 then S.1 sc 3 else if k = 2 then S.1 sc 4 else S.1 d 2
set_option maxHeartbeats 4000000 in
set_option maxRecDepth 100000 in
theorem x_X6_wake (l : Launch) (hlt : l.stackTraces = false) (dC : Nat → ClassId) (dI : Nat → Nat → Nat) (cy : Nat → ClassId) (G : zG) (S : zS) (sz : Nat) (x f n sc ia na d ka va : Nat) (v : Int32) (hX : zX G S x f n sc ia na d ka va)  : vx_Met l yX6_wake wsX6_wake ({ frames := 6, cells := 1, slots := 6, locals := 82 }) (zPx dC dI cy [.ref x, .int v] G S sz) (va_Qv (fun S' => kWake v = 0 ∧ zSt G S S') (zB dC dI cy (zA cy G S sz) G) (zA cy G S sz)) (vx_X (fun _ : Unit => True) (fun E _ t => ((E = "java/lang/IllegalArgumentException" ∧ kWake v = 1)) ∧ zB dC dI cy (zA cy G S sz) G S t) (zA cy G S sz)) 1 6 (zA cy G S sz) := by
  refine vx_ofW (cc := cX6_wake) (maxL := 2) (ret := none) (by decide) rfl ?_
  intro p e s m args below meth c s₁ B hml hxt hv
  obtain ⟨rfl, ⟨hsz, hP, hK, hD0, hN⟩, hE⟩ := hv
  have hx := B.exec
  have hb := B.bytes
  have hr := B.returns
  have hts := atoms_spec (ws := wsX6_wake) B.pre
  have hown : s.vm.findClass RX6 = some m.cls := findClass_of_methodNamed B.named
  have hlocks := B.notSynchronized
  subst hsz
  have hD : va_D (zA cy G S s.heap.size) (zW cy G S) := hD0.self
  generalize hAe : zA cy G S s.heap.size = A at hD hE ⊢
  have hA : ∀ q : Nat, s.heap.size ≤ q → A q := fun q h => by rw [← hAe]; exact Or.inr h
  have hS : va_S A s.heap s.heap [] := va_S.rf
  have hst := zSt.refl G S
  have hl := lv_entry ([.ref x, .int v]) (n := 2) (Nat.le_of_ble_eq_true rfl)
  rw [lg_entry_eq]
  generalize (lg_sl ([.ref x, .int v]) ++ List.replicate (2 - (lg_sl ([.ref x, .int v])).length) Slot.unset).toArray = ls at hl ⊢
  have hl : lv_has ls 2 [(0, .ref x), (1, .int v)] := hl
  have hi6 : ∀ w ∈ wsX60, w ∈ wsX6_wake := by decide +kernel
  have hX0 := hX
  obtain ⟨hx6, hq0, hq1, hq2, hq3, hFa, hNs, hSc, hDi, hRf⟩ := hX
  refine lv_iload_n hx hb dX6_wake_0 rfl (lv_at hl 1 rfl) ?_
  refine vp_callSi (va_Run.run (va_runS (As := [.int v]) (rest := []) ⟨hx, hb, hml, hown, hts⟩ (c_X6_isNode l v) (va_cwS 1 hts gX6_wake_X6_isNode rfl rfl rfl (by decide +kernel) ⟨Nat.le_of_ble_eq_true rfl, Nat.le_of_ble_eq_true rfl⟩) zpreS0 rfl rfl hl.1 rfl (lv_room (Nat.le_of_ble_eq_true rfl)) dX6_wake_1 ⟨Nat.le_of_ble_eq_true rfl, Nat.le_of_ble_eq_true rfl⟩)) (fun r1 hr1 => ?_)
  refine lv_if_ne (tgt := 17) hx hb dX6_wake_4 (by decide) (fun c2 => ?_) (fun c2 => ?_)
  · skip
    obtain ⟨j8, hj8, rfl⟩ := zin8n hr1 c2
    refine lv_aload_n hx hb dX6_wake_17 rfl (lv_at hl 0 rfl) ?_
    refine zget (ci := 6) (C := RX6) (T := TX6) (N := 7) hx hb hts hi6 hown hK hP hx6 rfl rfl 1 (by decide) (hts (.fieldLink RX6 17 "LinCluster" "nodes" "[LLinCluster$Node;") (by decide +kernel)) (fun _ h9 => h9) (v := .ref n) (congrArg (fun z => some (va_rf z)) (hst.q hx6.2 rfl hq1)) dX6_wake_18 ?_
    refine lv_iload_n hx hb dX6_wake_21 rfl (lv_at hl 1 rfl) ?_
    refine znald hx hb hK hP hNs.1 hNs.2.1 (vp_in_nI (n := j8) (by omega) (by omega)) dX6_wake_22 ?_
    obtain ⟨nd3, i4, r5, hq6, hNd7⟩ := hNs.2.2 j8 hj8
    rw [nI_clamp (n := j8) (by omega), hst.q hNs.1.2 rfl hq6]
    refine W.eq (g2 := F0 m 23 ls [.ref nd3]) rfl ?_
    refine zcallv (va_runV (As := []) (rest := []) ⟨hx, hb, hml, hown, hts⟩ (c_X3_beginWaking l dC dI cy G S s.heap.size nd3  hNd7.1) (cwV 0 hts gX6_wake_X3_beginWaking rfl rfl rfl (by decide +kernel) ⟨Nat.le_of_ble_eq_true rfl, Nat.le_of_ble_eq_true rfl⟩) (zpreV hK hP hD hN (zrecv3 hK hP hNd7.1)) rfl rfl hl.1 rfl (lv_room (Nat.le_of_ble_eq_true rfl)) dX6_wake_23 ⟨Nat.le_of_ble_eq_true rfl, Nat.le_of_ble_eq_true rfl⟩) hS hD hA (fun S9 H locs hr8 hP hD hS => ?_)
    have hst := hst.trans hr8
    refine W.widen (k := 1) (n := 6) (Nat.le_of_ble_eq_true rfl) (Nat.le_of_ble_eq_true rfl) ?_
    refine vx_ret ?_
    exact W.vret hx hb hr (fun t ht hW => ⟨⟨S9, rfl, ⟨if_neg (zn8 hj8), hst⟩, by rw [ht]; exact hP, va_K.moved hW.alike hK, hD⟩, hS.F ht⟩) hS.2.2 dX6_wake_26
  · skip
    exact zthrowA hx hb hlt hown (hts (.classLink RX6 55 "java/lang/IllegalArgumentException") (by decide +kernel)) (hts (.initialized "java/lang/IllegalArgumentException") (by decide +kernel)) (fun w h => hts w (List.mem_cons_of_mem _ (List.mem_append_right _ h))) hE (zEt_131 hE.2.2.2) hP hD hK hS (by rw [hml]; exact hl.1) dX6_wake_7 dX6_wake_10 dX6_wake_11 dX6_wake_13 dX6_wake_16 hxt (Nat.le_of_ble_eq_true rfl) (Nat.le_of_ble_eq_true rfl) (Nat.le_of_ble_eq_true rfl) (Nat.le_of_ble_eq_true rfl) hlocks (fun t hB hF => ⟨(), trivial, ⟨⟨rfl, if_pos (zin8b hr1 c2)⟩, hB⟩, hF⟩) hS.2.2 (Nat.le_of_ble_eq_true rfl) (Nat.le_of_ble_eq_true rfl)
set_option maxHeartbeats 4000000 in
set_option maxRecDepth 100000 in
theorem x_X6_space (l : Launch) (hlt : l.stackTraces = false) (dC : Nat → ClassId) (dI : Nat → Nat → Nat) (cy : Nat → ClassId) (G : zG) (S : zS) (sz : Nat) (x f n sc ia na d ka va : Nat) (v b : Int32) (hX : zX G S x f n sc ia na d ka va)  : vx_Met l yX6_space wsX6_space ({ frames := 6, cells := 1, slots := 6, locals := 82 }) (zPx dC dI cy [.ref x, .int v, .int b] G S sz) (va_Qi (fun (r : Int32) S' => kSpace v b = 0 ∧ ∃ j nd i q, j < 8 ∧ v = nI j ∧ S.2.2 n j = some nd ∧ zNd G S nd i q ∧ r = S.1 nd 3 ∧ S' = zpi S nd 3 b) (zB dC dI cy (zA cy G S sz) G) (zA cy G S sz)) (vx_X (fun _ : Unit => True) (fun E _ t => ((E = "java/lang/IllegalArgumentException" ∧ kSpace v b = 1)) ∧ zB dC dI cy (zA cy G S sz) G S t) (zA cy G S sz)) 1 6 (zA cy G S sz) := by
  refine vx_ofW (cc := cX6_space) (maxL := 3) (ret := (some .int)) (by decide) rfl ?_
  intro p e s m args below meth c s₁ B hml hxt hv
  obtain ⟨rfl, ⟨hsz, hP, hK, hD0, hN⟩, hE⟩ := hv
  have hx := B.exec
  have hb := B.bytes
  have hr := B.returns
  have hts := atoms_spec (ws := wsX6_space) B.pre
  have hown : s.vm.findClass RX6 = some m.cls := findClass_of_methodNamed B.named
  have hlocks := B.notSynchronized
  subst hsz
  have hD : va_D (zA cy G S s.heap.size) (zW cy G S) := hD0.self
  generalize hAe : zA cy G S s.heap.size = A at hD hE ⊢
  have hA : ∀ q : Nat, s.heap.size ≤ q → A q := fun q h => by rw [← hAe]; exact Or.inr h
  have hS : va_S A s.heap s.heap [] := va_S.rf
  have hst := zSt.refl G S
  have hl := lv_entry ([.ref x, .int v, .int b]) (n := 3) (Nat.le_of_ble_eq_true rfl)
  rw [lg_entry_eq]
  generalize (lg_sl ([.ref x, .int v, .int b]) ++ List.replicate (3 - (lg_sl ([.ref x, .int v, .int b])).length) Slot.unset).toArray = ls at hl ⊢
  have hl : lv_has ls 3 [(0, .ref x), (1, .int v), (2, .int b)] := hl
  have hi6 : ∀ w ∈ wsX60, w ∈ wsX6_space := by decide +kernel
  have hX0 := hX
  obtain ⟨hx6, hq0, hq1, hq2, hq3, hFa, hNs, hSc, hDi, hRf⟩ := hX
  refine lv_iload_n hx hb dX6_space_0 rfl (lv_at hl 1 rfl) ?_
  refine vp_callSi (va_Run.run (va_runS (As := [.int v]) (rest := []) ⟨hx, hb, hml, hown, hts⟩ (c_X6_isNode l v) (va_cwS 1 hts gX6_space_X6_isNode rfl rfl rfl (by decide +kernel) ⟨Nat.le_of_ble_eq_true rfl, Nat.le_of_ble_eq_true rfl⟩) zpreS0 rfl rfl hl.1 rfl (lv_room (Nat.le_of_ble_eq_true rfl)) dX6_space_1 ⟨Nat.le_of_ble_eq_true rfl, Nat.le_of_ble_eq_true rfl⟩)) (fun r1 hr1 => ?_)
  refine lv_if_eq (tgt := 17) hx hb dX6_space_4 (by decide) (fun c2 => ?_) (fun c2 => ?_)
  · skip
    exact zthrowA hx hb hlt hown (hts (.classLink RX6 55 "java/lang/IllegalArgumentException") (by decide +kernel)) (hts (.initialized "java/lang/IllegalArgumentException") (by decide +kernel)) (fun w h => hts w (List.mem_cons_of_mem _ (List.mem_append_right _ h))) hE (zEt_97 hE.2.2.2) hP hD hK hS (by rw [hml]; exact hl.1) dX6_space_17 dX6_space_20 dX6_space_21 dX6_space_23 dX6_space_26 hxt (Nat.le_of_ble_eq_true rfl) (Nat.le_of_ble_eq_true rfl) (Nat.le_of_ble_eq_true rfl) (Nat.le_of_ble_eq_true rfl) hlocks (fun t hB hF => ⟨(), trivial, ⟨⟨rfl, if_pos (Or.inl (zin8b hr1 c2))⟩, hB⟩, hF⟩) hS.2.2 (Nat.le_of_ble_eq_true rfl) (Nat.le_of_ble_eq_true rfl)
  · skip
    obtain ⟨j8, hj8, rfl⟩ := zin8n hr1 c2
    refine lv_iload_n hx hb dX6_space_7 rfl (lv_at hl 2 rfl) ?_
    refine lv_if_lt (tgt := 17) hx hb dX6_space_8 (by decide) (fun c3 => ?_) (fun c3 => ?_)
    · skip
      exact zthrowA hx hb hlt hown (hts (.classLink RX6 55 "java/lang/IllegalArgumentException") (by decide +kernel)) (hts (.initialized "java/lang/IllegalArgumentException") (by decide +kernel)) (fun w h => hts w (List.mem_cons_of_mem _ (List.mem_append_right _ h))) hE (zEt_97 hE.2.2.2) hP hD hK hS (by rw [hml]; exact hl.1) dX6_space_17 dX6_space_20 dX6_space_21 dX6_space_23 dX6_space_26 hxt (Nat.le_of_ble_eq_true rfl) (Nat.le_of_ble_eq_true rfl) (Nat.le_of_ble_eq_true rfl) (Nat.le_of_ble_eq_true rfl) hlocks (fun t hB hF => ⟨(), trivial, ⟨⟨rfl, if_pos (Or.inr (Or.inl c3))⟩, hB⟩, hF⟩) hS.2.2 (Nat.le_of_ble_eq_true rfl) (Nat.le_of_ble_eq_true rfl)
    · skip
      refine lv_iload_n hx hb dX6_space_11 rfl (lv_at hl 2 rfl) ?_
      refine lv_bipush (v := 8) hx hb dX6_space_12 (by decide) ?_
      refine lv_icmp_le (tgt := 27) hx hb dX6_space_14 (by decide) (fun c4 => ?_) (fun c4 => ?_)
      · skip
        refine lv_aload_n hx hb dX6_space_27 rfl (lv_at hl 0 rfl) ?_
        refine zget (ci := 6) (C := RX6) (T := TX6) (N := 7) hx hb hts hi6 hown hK hP hx6 rfl rfl 1 (by decide) (hts (.fieldLink RX6 17 "LinCluster" "nodes" "[LLinCluster$Node;") (by decide +kernel)) (fun _ h9 => h9) (v := .ref n) (congrArg (fun z => some (va_rf z)) (hst.q hx6.2 rfl hq1)) dX6_space_28 ?_
        refine lv_iload_n hx hb dX6_space_31 rfl (lv_at hl 1 rfl) ?_
        refine znald hx hb hK hP hNs.1 hNs.2.1 (vp_in_nI (n := j8) (by omega) (by omega)) dX6_space_32 ?_
        obtain ⟨nd5, i6, r7, hq8, hNd9⟩ := hNs.2.2 j8 hj8
        rw [nI_clamp (n := j8) (by omega), hst.q hNs.1.2 rfl hq8]
        refine W.eq (g2 := F0 m 33 ls [.ref nd5]) rfl ?_
        refine lv_iload_n hx hb dX6_space_33 rfl (lv_at hl 2 rfl) ?_
        refine zcalli (va_runV (As := [.int b]) (rest := []) ⟨hx, hb, hml, hown, hts⟩ (c_X3_changeSpace l dC dI cy G S s.heap.size nd5 b hNd9.1) (cwV 1 hts gX6_space_X3_changeSpace rfl rfl rfl (by decide +kernel) ⟨Nat.le_of_ble_eq_true rfl, Nat.le_of_ble_eq_true rfl⟩) (zpreV hK hP hD hN (zrecv3 hK hP hNd9.1)) rfl rfl hl.1 rfl (lv_room (Nat.le_of_ble_eq_true rfl)) dX6_space_34 ⟨Nat.le_of_ble_eq_true rfl, Nat.le_of_ble_eq_true rfl⟩) hS hD hA (fun r10 S11 H locs hr10 hP hD hS => ?_)
        refine W.widen (k := 1) (n := 6) (Nat.le_of_ble_eq_true rfl) (Nat.le_of_ble_eq_true rfl) ?_
        refine vx_ret ?_
        exact W.iret (v := r10) hx hb hr (fun t ht hW => ⟨⟨r10, S11, rfl, ⟨if_neg (fun z9 => z9.elim (zn8 hj8) (fun z8 => z8.elim c3 (fun z7 => z7 c4))), j8, nd5, i6, r7, hj8, rfl, hq8, hNd9, hr10⟩, by rw [ht]; exact hP, va_K.moved hW.alike hK, hD⟩, hS.F ht⟩) hS.2.2 dX6_space_37
      · skip
        exact zthrowA hx hb hlt hown (hts (.classLink RX6 55 "java/lang/IllegalArgumentException") (by decide +kernel)) (hts (.initialized "java/lang/IllegalArgumentException") (by decide +kernel)) (fun w h => hts w (List.mem_cons_of_mem _ (List.mem_append_right _ h))) hE (zEt_97 hE.2.2.2) hP hD hK hS (by rw [hml]; exact hl.1) dX6_space_17 dX6_space_20 dX6_space_21 dX6_space_23 dX6_space_26 hxt (Nat.le_of_ble_eq_true rfl) (Nat.le_of_ble_eq_true rfl) (Nat.le_of_ble_eq_true rfl) (Nat.le_of_ble_eq_true rfl) hlocks (fun t hB hF => ⟨(), trivial, ⟨⟨rfl, if_pos (Or.inr (Or.inr c4))⟩, hB⟩, hF⟩) hS.2.2 (Nat.le_of_ble_eq_true rfl) (Nat.le_of_ble_eq_true rfl)
set_option maxHeartbeats 4000000 in
set_option maxRecDepth 100000 in
theorem x_X6_told (l : Launch) (hlt : l.stackTraces = false) (dC : Nat → ClassId) (dI : Nat → Nat → Nat) (cy : Nat → ClassId) (G : zG) (S : zS) (sz : Nat) (x f n sc ia na d ka va : Nat) (v k : Int32) (hX : zX G S x f n sc ia na d ka va)  : vx_Met l yX6_told wsX6_told ({ frames := 6, cells := 1, slots := 6, locals := 82 }) (zPx dC dI cy [.ref x, .int v, .int k] G S sz) (va_Qi (fun (r : Int32) S' => kTold v k = 0 ∧ S' = S ∧ ∃ j nd i q, j < 8 ∧ v = nI j ∧ S.2.2 n j = some nd ∧ zNd G S nd i q ∧ r = ztell S nd k) (zB dC dI cy (zA cy G S sz) G) (zA cy G S sz)) (vx_X (fun _ : Unit => True) (fun E _ t => ((E = "java/lang/IllegalArgumentException" ∧ kTold v k = 1)) ∧ zB dC dI cy (zA cy G S sz) G S t) (zA cy G S sz)) 1 6 (zA cy G S sz) := by
  refine vx_ofW (cc := cX6_told) (maxL := 3) (ret := (some .int)) (by decide) rfl ?_
  intro p e s m args below meth c s₁ B hml hxt hv
  obtain ⟨rfl, ⟨hsz, hP, hK, hD0, hN⟩, hE⟩ := hv
  have hx := B.exec
  have hb := B.bytes
  have hr := B.returns
  have hts := atoms_spec (ws := wsX6_told) B.pre
  have hown : s.vm.findClass RX6 = some m.cls := findClass_of_methodNamed B.named
  have hlocks := B.notSynchronized
  subst hsz
  have hD : va_D (zA cy G S s.heap.size) (zW cy G S) := hD0.self
  generalize hAe : zA cy G S s.heap.size = A at hD hE ⊢
  have hA : ∀ q : Nat, s.heap.size ≤ q → A q := fun q h => by rw [← hAe]; exact Or.inr h
  have hS : va_S A s.heap s.heap [] := va_S.rf
  have hst := zSt.refl G S
  have hl := lv_entry ([.ref x, .int v, .int k]) (n := 3) (Nat.le_of_ble_eq_true rfl)
  rw [lg_entry_eq]
  generalize (lg_sl ([.ref x, .int v, .int k]) ++ List.replicate (3 - (lg_sl ([.ref x, .int v, .int k])).length) Slot.unset).toArray = ls at hl ⊢
  have hl : lv_has ls 3 [(0, .ref x), (1, .int v), (2, .int k)] := hl
  have hi6 : ∀ w ∈ wsX60, w ∈ wsX6_told := by decide +kernel
  have hX0 := hX
  obtain ⟨hx6, hq0, hq1, hq2, hq3, hFa, hNs, hSc, hDi, hRf⟩ := hX
  refine lv_iload_n hx hb dX6_told_0 rfl (lv_at hl 1 rfl) ?_
  refine vp_callSi (va_Run.run (va_runS (As := [.int v]) (rest := []) ⟨hx, hb, hml, hown, hts⟩ (c_X6_isNode l v) (va_cwS 1 hts gX6_told_X6_isNode rfl rfl rfl (by decide +kernel) ⟨Nat.le_of_ble_eq_true rfl, Nat.le_of_ble_eq_true rfl⟩) zpreS0 rfl rfl hl.1 rfl (lv_room (Nat.le_of_ble_eq_true rfl)) dX6_told_1 ⟨Nat.le_of_ble_eq_true rfl, Nat.le_of_ble_eq_true rfl⟩)) (fun r1 hr1 => ?_)
  refine lv_if_eq (tgt := 17) hx hb dX6_told_4 (by decide) (fun c2 => ?_) (fun c2 => ?_)
  · skip
    exact zthrowA hx hb hlt hown (hts (.classLink RX6 55 "java/lang/IllegalArgumentException") (by decide +kernel)) (hts (.initialized "java/lang/IllegalArgumentException") (by decide +kernel)) (fun w h => hts w (List.mem_cons_of_mem _ (List.mem_append_right _ h))) hE (zEt_162 hE.2.2.2) hP hD hK hS (by rw [hml]; exact hl.1) dX6_told_17 dX6_told_20 dX6_told_21 dX6_told_23 dX6_told_26 hxt (Nat.le_of_ble_eq_true rfl) (Nat.le_of_ble_eq_true rfl) (Nat.le_of_ble_eq_true rfl) (Nat.le_of_ble_eq_true rfl) hlocks (fun t hB hF => ⟨(), trivial, ⟨⟨rfl, if_pos (Or.inl (zin8b hr1 c2))⟩, hB⟩, hF⟩) hS.2.2 (Nat.le_of_ble_eq_true rfl) (Nat.le_of_ble_eq_true rfl)
  · skip
    obtain ⟨j8, hj8, rfl⟩ := zin8n hr1 c2
    refine lv_iload_n hx hb dX6_told_7 rfl (lv_at hl 2 rfl) ?_
    refine lv_if_lt (tgt := 17) hx hb dX6_told_8 (by decide) (fun c3 => ?_) (fun c3 => ?_)
    · skip
      exact zthrowA hx hb hlt hown (hts (.classLink RX6 55 "java/lang/IllegalArgumentException") (by decide +kernel)) (hts (.initialized "java/lang/IllegalArgumentException") (by decide +kernel)) (fun w h => hts w (List.mem_cons_of_mem _ (List.mem_append_right _ h))) hE (zEt_162 hE.2.2.2) hP hD hK hS (by rw [hml]; exact hl.1) dX6_told_17 dX6_told_20 dX6_told_21 dX6_told_23 dX6_told_26 hxt (Nat.le_of_ble_eq_true rfl) (Nat.le_of_ble_eq_true rfl) (Nat.le_of_ble_eq_true rfl) (Nat.le_of_ble_eq_true rfl) hlocks (fun t hB hF => ⟨(), trivial, ⟨⟨rfl, if_pos (Or.inr (Or.inl c3))⟩, hB⟩, hF⟩) hS.2.2 (Nat.le_of_ble_eq_true rfl) (Nat.le_of_ble_eq_true rfl)
    · skip
      refine lv_iload_n hx hb dX6_told_11 rfl (lv_at hl 2 rfl) ?_
      refine lv_bipush (v := 6) hx hb dX6_told_12 (by decide) ?_
      refine lv_icmp_le (tgt := 27) hx hb dX6_told_14 (by decide) (fun c4 => ?_) (fun c4 => ?_)
      · skip
        refine lv_aload_n hx hb dX6_told_27 rfl (lv_at hl 0 rfl) ?_
        refine zget (ci := 6) (C := RX6) (T := TX6) (N := 7) hx hb hts hi6 hown hK hP hx6 rfl rfl 1 (by decide) (hts (.fieldLink RX6 17 "LinCluster" "nodes" "[LLinCluster$Node;") (by decide +kernel)) (fun _ h9 => h9) (v := .ref n) (congrArg (fun z => some (va_rf z)) (hst.q hx6.2 rfl hq1)) dX6_told_28 ?_
        refine lv_iload_n hx hb dX6_told_31 rfl (lv_at hl 1 rfl) ?_
        refine znald hx hb hK hP hNs.1 hNs.2.1 (vp_in_nI (n := j8) (by omega) (by omega)) dX6_told_32 ?_
        obtain ⟨nd5, i6, r7, hq8, hNd9⟩ := hNs.2.2 j8 hj8
        rw [nI_clamp (n := j8) (by omega), hst.q hNs.1.2 rfl hq8]
        refine W.eq (g2 := F0 m 33 ls [.ref nd5]) rfl ?_
        refine lv_iload_n hx hb dX6_told_33 rfl (lv_at hl 2 rfl) ?_
        refine vp_callSi (va_Run.run (va_runV (As := [.int k]) (rest := []) ⟨hx, hb, hml, hown, hts⟩ (c_X3_tell l dC dI cy G S s.heap.size nd5 k hNd9.1) (cwV 1 hts gX6_told_X3_tell rfl rfl rfl (by decide +kernel) ⟨Nat.le_of_ble_eq_true rfl, Nat.le_of_ble_eq_true rfl⟩) (zpreV hK hP hD hN (zrecv3 hK hP hNd9.1)) rfl rfl hl.1 rfl (lv_room (Nat.le_of_ble_eq_true rfl)) dX6_told_34 ⟨Nat.le_of_ble_eq_true rfl, Nat.le_of_ble_eq_true rfl⟩)) (fun r10 hr10 => ?_)
        refine W.widen (k := 1) (n := 6) (Nat.le_of_ble_eq_true rfl) (Nat.le_of_ble_eq_true rfl) ?_
        refine vx_ret ?_
        exact W.iret (v := r10) hx hb hr (fun t ht hW => ⟨⟨r10, S, rfl, ⟨if_neg (fun z9 => z9.elim (zn8 hj8) (fun z8 => z8.elim c3 (fun z7 => z7 c4))), rfl, j8, nd5, i6, r7, hj8, rfl, hq8, hNd9, hr10⟩, by rw [ht]; exact hP, va_K.moved hW.alike hK, hD⟩, hS.F ht⟩) hS.2.2 dX6_told_37
      · skip
        exact zthrowA hx hb hlt hown (hts (.classLink RX6 55 "java/lang/IllegalArgumentException") (by decide +kernel)) (hts (.initialized "java/lang/IllegalArgumentException") (by decide +kernel)) (fun w h => hts w (List.mem_cons_of_mem _ (List.mem_append_right _ h))) hE (zEt_162 hE.2.2.2) hP hD hK hS (by rw [hml]; exact hl.1) dX6_told_17 dX6_told_20 dX6_told_21 dX6_told_23 dX6_told_26 hxt (Nat.le_of_ble_eq_true rfl) (Nat.le_of_ble_eq_true rfl) (Nat.le_of_ble_eq_true rfl) (Nat.le_of_ble_eq_true rfl) hlocks (fun t hB hF => ⟨(), trivial, ⟨⟨rfl, if_pos (Or.inr (Or.inr c4))⟩, hB⟩, hF⟩) hS.2.2 (Nat.le_of_ble_eq_true rfl) (Nat.le_of_ble_eq_true rfl)
set_option maxHeartbeats 4000000 in
set_option maxRecDepth 100000 in
theorem x_X6_count (l : Launch) (hlt : l.stackTraces = false) (dC : Nat → ClassId) (dI : Nat → Nat → Nat) (cy : Nat → ClassId) (G : zG) (S : zS) (sz : Nat) (x f n sc ia na d ka va : Nat) (k : Int32) (hX : zX G S x f n sc ia na d ka va)  : vx_Met l yX6_count wsX6_count ({ frames := 6, cells := 1, slots := 6, locals := 82 }) (zPx dC dI cy [.ref x, .int k] G S sz) (va_Qi (fun (r : Int32) S' => kCount k = 0 ∧ S' = S ∧ r = zcount S x sc d k) (zB dC dI cy (zA cy G S sz) G) (zA cy G S sz)) (vx_X (fun _ : Unit => True) (fun E _ t => ((E = "java/lang/IllegalArgumentException" ∧ kCount k = 1)) ∧ zB dC dI cy (zA cy G S sz) G S t) (zA cy G S sz)) 1 6 (zA cy G S sz) := by
  refine vx_ofW (cc := cX6_count) (maxL := 2) (ret := (some .int)) (by decide) rfl ?_
  intro p e s m args below meth c s₁ B hml hxt hv
  obtain ⟨rfl, ⟨hsz, hP, hK, hD0, hN⟩, hE⟩ := hv
  have hx := B.exec
  have hb := B.bytes
  have hr := B.returns
  have hts := atoms_spec (ws := wsX6_count) B.pre
  have hown : s.vm.findClass RX6 = some m.cls := findClass_of_methodNamed B.named
  have hlocks := B.notSynchronized
  subst hsz
  have hD : va_D (zA cy G S s.heap.size) (zW cy G S) := hD0.self
  generalize hAe : zA cy G S s.heap.size = A at hD hE ⊢
  have hA : ∀ q : Nat, s.heap.size ≤ q → A q := fun q h => by rw [← hAe]; exact Or.inr h
  have hS : va_S A s.heap s.heap [] := va_S.rf
  have hst := zSt.refl G S
  have hl := lv_entry ([.ref x, .int k]) (n := 2) (Nat.le_of_ble_eq_true rfl)
  rw [lg_entry_eq]
  generalize (lg_sl ([.ref x, .int k]) ++ List.replicate (2 - (lg_sl ([.ref x, .int k])).length) Slot.unset).toArray = ls at hl ⊢
  have hl : lv_has ls 2 [(0, .ref x), (1, .int k)] := hl
  have hi0 : ∀ w ∈ wsX00, w ∈ wsX6_count := by decide +kernel
  have hi5 : ∀ w ∈ wsX50, w ∈ wsX6_count := by decide +kernel
  have hi6 : ∀ w ∈ wsX60, w ∈ wsX6_count := by decide +kernel
  have hX0 := hX
  obtain ⟨hx6, hq0, hq1, hq2, hq3, hFa, hNs, hSc, hDi, hRf⟩ := hX
  refine lv_iload_n hx hb dX6_count_0 rfl (lv_at hl 1 rfl) ?_
  by_cases c1 : k = 0
  · refine lv_tableIn (tgt := 32) hx hb dX6_count_1 (by rw [c1]; decide) (by rw [c1]; decide) (by rw [c1]; rfl) (by decide) ?_
    refine lv_aload_n hx hb dX6_count_32 rfl (lv_at hl 0 rfl) ?_
    refine zget (ci := 6) (C := RX6) (T := TX6) (N := 7) hx hb hts hi6 hown hK hP hx6 rfl rfl 4 (by decide) (hts (.fieldLink RX6 35 "LinCluster" "time" "I") (by decide +kernel)) (fun _ h9 => h9) rfl dX6_count_33 ?_
    refine lv_topi (fun v2 ev2 => ?_)
    refine W.widen (k := 1) (n := 6) (Nat.le_of_ble_eq_true rfl) (Nat.le_of_ble_eq_true rfl) ?_
    refine vx_ret ?_
    exact W.iret (v := v2) hx hb hr (fun t ht hW => ⟨⟨v2, S, rfl, ⟨by unfold kCount; rw [if_pos c1], rfl, by unfold zcount; rw [if_pos c1]; exact ev2⟩, by rw [ht]; exact hP, va_K.moved hW.alike hK, hD⟩, hS.F ht⟩) hS.2.2 dX6_count_36
  by_cases c3 : k = 1
  · refine lv_tableIn (tgt := 37) hx hb dX6_count_1 (by rw [c3]; decide) (by rw [c3]; decide) (by rw [c3]; rfl) (by decide) ?_
    refine lv_aload_n hx hb dX6_count_37 rfl (lv_at hl 0 rfl) ?_
    refine zget (ci := 6) (C := RX6) (T := TX6) (N := 7) hx hb hts hi6 hown hK hP hx6 rfl rfl 2 (by decide) (hts (.fieldLink RX6 24 "LinCluster" "schedule" "LLinCluster$Schedule;") (by decide +kernel)) (fun _ h9 => h9) (v := .ref sc) (congrArg (fun z => some (va_rf z)) (hst.q hx6.2 rfl hq2)) dX6_count_38 ?_
    refine zget (ci := 5) (C := RX5) (T := TX5) (N := 10) hx hb hts hi5 hown hK hP hSc.1 rfl rfl 3 (by decide) (hts (.fieldLink RX6 167 "LinCluster$Schedule" "atHand" "I") (by decide +kernel)) (fun _ h9 => h9) rfl dX6_count_41 ?_
    refine lv_topi (fun v4 ev4 => ?_)
    refine W.widen (k := 1) (n := 6) (Nat.le_of_ble_eq_true rfl) (Nat.le_of_ble_eq_true rfl) ?_
    refine vx_ret ?_
    exact W.iret (v := v4) hx hb hr (fun t ht hW => ⟨⟨v4, S, rfl, ⟨by unfold kCount; rw [if_neg c1, if_pos c3], rfl, by unfold zcount; rw [if_neg c1, if_pos c3]; exact ev4⟩, by rw [ht]; exact hP, va_K.moved hW.alike hK, hD⟩, hS.F ht⟩) hS.2.2 dX6_count_44
  by_cases c5 : k = 2
  · refine lv_tableIn (tgt := 45) hx hb dX6_count_1 (by rw [c5]; decide) (by rw [c5]; decide) (by rw [c5]; rfl) (by decide) ?_
    refine lv_aload_n hx hb dX6_count_45 rfl (lv_at hl 0 rfl) ?_
    refine zget (ci := 6) (C := RX6) (T := TX6) (N := 7) hx hb hts hi6 hown hK hP hx6 rfl rfl 2 (by decide) (hts (.fieldLink RX6 24 "LinCluster" "schedule" "LLinCluster$Schedule;") (by decide +kernel)) (fun _ h9 => h9) (v := .ref sc) (congrArg (fun z => some (va_rf z)) (hst.q hx6.2 rfl hq2)) dX6_count_46 ?_
    refine zget (ci := 5) (C := RX5) (T := TX5) (N := 10) hx hb hts hi5 hown hK hP hSc.1 rfl rfl 4 (by decide) (hts (.fieldLink RX6 170 "LinCluster$Schedule" "begun" "I") (by decide +kernel)) (fun _ h9 => h9) rfl dX6_count_49 ?_
    refine lv_topi (fun v6 ev6 => ?_)
    refine W.widen (k := 1) (n := 6) (Nat.le_of_ble_eq_true rfl) (Nat.le_of_ble_eq_true rfl) ?_
    refine vx_ret ?_
    exact W.iret (v := v6) hx hb hr (fun t ht hW => ⟨⟨v6, S, rfl, ⟨by unfold kCount; rw [if_neg c1, if_neg c3, if_pos c5], rfl, by unfold zcount; rw [if_neg c1, if_neg c3, if_pos c5]; exact ev6⟩, by rw [ht]; exact hP, va_K.moved hW.alike hK, hD⟩, hS.F ht⟩) hS.2.2 dX6_count_52
  by_cases c7 : k = 3
  · refine lv_tableIn (tgt := 53) hx hb dX6_count_1 (by rw [c7]; decide) (by rw [c7]; decide) (by rw [c7]; rfl) (by decide) ?_
    refine lv_aload_n hx hb dX6_count_53 rfl (lv_at hl 0 rfl) ?_
    refine zget (ci := 6) (C := RX6) (T := TX6) (N := 7) hx hb hts hi6 hown hK hP hx6 rfl rfl 3 (by decide) (hts (.fieldLink RX6 31 "LinCluster" "disturbings" "LLinCluster$Disturbings;") (by decide +kernel)) (fun _ h9 => h9) (v := .ref d) (congrArg (fun z => some (va_rf z)) (hst.q hx6.2 rfl hq3)) dX6_count_54 ?_
    refine zget (ci := 0) (C := RX0) (T := TX0) (N := 3) hx hb hts hi0 hown hK hP hDi.1 rfl rfl 2 (by decide) (hts (.fieldLink RX6 122 "LinCluster$Disturbings" "toCome" "I") (by decide +kernel)) (fun _ h9 => h9) rfl dX6_count_57 ?_
    refine lv_topi (fun v8 ev8 => ?_)
    refine W.widen (k := 1) (n := 6) (Nat.le_of_ble_eq_true rfl) (Nat.le_of_ble_eq_true rfl) ?_
    refine vx_ret ?_
    exact W.iret (v := v8) hx hb hr (fun t ht hW => ⟨⟨v8, S, rfl, ⟨by unfold kCount; rw [if_neg c1, if_neg c3, if_neg c5, if_pos c7], rfl, by unfold zcount; rw [if_neg c1, if_neg c3, if_neg c5]; exact ev8⟩, by rw [ht]; exact hP, va_K.moved hW.alike hK, hD⟩, hS.F ht⟩) hS.2.2 dX6_count_60
  refine lv_tableOut (tgt := 61) hx hb dX6_count_1 (zswo (k := 3) (fun k hk => by match k, hk with | 0, _ => exact c1 | 1, _ => exact c3 | 2, _ => exact c5 | 3, _ => exact c7 | k + 4, hk => exact absurd hk (by omega))) (by decide) ?_
  exact zthrowA hx hb hlt hown (hts (.classLink RX6 55 "java/lang/IllegalArgumentException") (by decide +kernel)) (hts (.initialized "java/lang/IllegalArgumentException") (by decide +kernel)) (fun w h => hts w (List.mem_cons_of_mem _ (List.mem_append_right _ h))) hE (zEt_173 hE.2.2.2) hP hD hK hS (by rw [hml]; exact hl.1) dX6_count_61 dX6_count_64 dX6_count_65 dX6_count_67 dX6_count_70 hxt (Nat.le_of_ble_eq_true rfl) (Nat.le_of_ble_eq_true rfl) (Nat.le_of_ble_eq_true rfl) (Nat.le_of_ble_eq_true rfl) hlocks (fun t hB hF => ⟨(), trivial, ⟨⟨rfl, by unfold kCount; rw [if_neg c1, if_neg c3, if_neg c5, if_neg c7]⟩, hB⟩, hF⟩) hS.2.2 (Nat.le_of_ble_eq_true rfl) (Nat.le_of_ble_eq_true rfl)
set_option maxHeartbeats 4000000 in
set_option maxRecDepth 100000 in
theorem x_X6_line (l : Launch) (hlt : l.stackTraces = false) (dC : Nat → ClassId) (dI : Nat → Nat → Nat) (cy : Nat → ClassId) (G : zG) (S : zS) (sz : Nat) (x f n sc ia na d ka va : Nat) (b : Int32) (hX : zX G S x f n sc ia na d ka va)  : vx_Met l yX6_line wsX6_line ({ frames := 6, cells := 1, slots := 6, locals := 82 }) (zPx dC dI cy [.ref x, .int b] G S sz) (va_Qi (fun (r : Int32) S' => kLine b = 0 ∧ S' = S ∧ r = ((S.2.1 x 6).toUInt64 >>> ((b - 1).toInt64.toUInt64 &&& Int64.toUInt64 63)).toInt64.toInt32 &&& 1) (zB dC dI cy (zA cy G S sz) G) (zA cy G S sz)) (vx_X (fun _ : Unit => True) (fun E _ t => ((E = "java/lang/IllegalArgumentException" ∧ kLine b = 1)) ∧ zB dC dI cy (zA cy G S sz) G S t) (zA cy G S sz)) 1 6 (zA cy G S sz) := by
  refine vx_ofW (cc := cX6_line) (maxL := 2) (ret := (some .int)) (by decide) rfl ?_
  intro p e s m args below meth c s₁ B hml hxt hv
  obtain ⟨rfl, ⟨hsz, hP, hK, hD0, hN⟩, hE⟩ := hv
  have hx := B.exec
  have hb := B.bytes
  have hr := B.returns
  have hts := atoms_spec (ws := wsX6_line) B.pre
  have hown : s.vm.findClass RX6 = some m.cls := findClass_of_methodNamed B.named
  have hlocks := B.notSynchronized
  subst hsz
  have hD : va_D (zA cy G S s.heap.size) (zW cy G S) := hD0.self
  generalize hAe : zA cy G S s.heap.size = A at hD hE ⊢
  have hA : ∀ q : Nat, s.heap.size ≤ q → A q := fun q h => by rw [← hAe]; exact Or.inr h
  have hS : va_S A s.heap s.heap [] := va_S.rf
  have hst := zSt.refl G S
  have hl := lv_entry ([.ref x, .int b]) (n := 2) (Nat.le_of_ble_eq_true rfl)
  rw [lg_entry_eq]
  generalize (lg_sl ([.ref x, .int b]) ++ List.replicate (2 - (lg_sl ([.ref x, .int b])).length) Slot.unset).toArray = ls at hl ⊢
  have hl : lv_has ls 2 [(0, .ref x), (1, .int b)] := hl
  have hi6 : ∀ w ∈ wsX60, w ∈ wsX6_line := by decide +kernel
  have hX0 := hX
  obtain ⟨hx6, hq0, hq1, hq2, hq3, hFa, hNs, hSc, hDi, hRf⟩ := hX
  refine lv_iload_n hx hb dX6_line_0 rfl (lv_at hl 1 rfl) ?_
  refine lv_iconst (v := 1) hx hb dX6_line_1 (by decide) ?_
  refine lv_icmp_lt (tgt := 11) hx hb dX6_line_2 (by decide) (fun c1 => ?_) (fun c1 => ?_)
  · skip
    exact zthrowA hx hb hlt hown (hts (.classLink RX6 55 "java/lang/IllegalArgumentException") (by decide +kernel)) (hts (.initialized "java/lang/IllegalArgumentException") (by decide +kernel)) (fun w h => hts w (List.mem_cons_of_mem _ (List.mem_append_right _ h))) hE (zEt_175 hE.2.2.2) hP hD hK hS (by rw [hml]; exact hl.1) dX6_line_11 dX6_line_14 dX6_line_15 dX6_line_17 dX6_line_20 hxt (Nat.le_of_ble_eq_true rfl) (Nat.le_of_ble_eq_true rfl) (Nat.le_of_ble_eq_true rfl) (Nat.le_of_ble_eq_true rfl) hlocks (fun t hB hF => ⟨(), trivial, ⟨⟨rfl, if_pos (Or.inl c1)⟩, hB⟩, hF⟩) hS.2.2 (Nat.le_of_ble_eq_true rfl) (Nat.le_of_ble_eq_true rfl)
  · skip
    refine lv_iload_n hx hb dX6_line_5 rfl (lv_at hl 1 rfl) ?_
    refine lv_bipush (v := 64) hx hb dX6_line_6 (by decide) ?_
    refine lv_icmp_le (tgt := 21) hx hb dX6_line_8 (by decide) (fun c2 => ?_) (fun c2 => ?_)
    · skip
      refine lv_aload_n hx hb dX6_line_21 rfl (lv_at hl 0 rfl) ?_
      refine zget (ci := 6) (C := RX6) (T := TX6) (N := 7) hx hb hts hi6 hown hK hP hx6 rfl rfl 6 (by decide) (hts (.fieldLink RX6 44 "LinCluster" "past" "J") (by decide +kernel)) (fun _ h9 => h9) rfl dX6_line_22 ?_
      refine lv_topl (fun v3 ev3 => ?_)
      refine lv_iload_n hx hb dX6_line_25 rfl (lv_at hl 1 rfl) ?_
      refine lv_iconst (v := 1) hx hb dX6_line_26 (by decide) ?_
      refine lv_isub hx hb dX6_line_27 ?_
      refine lv_topi (fun v4 ev4 => ?_)
      refine lv_lushr hx hb dX6_line_28 rfl ?_
      refine lv_topl (fun v5 ev5 => ?_)
      refine lv_l2i hx hb dX6_line_29 rfl ?_
      refine lv_topi (fun v6 ev6 => ?_)
      refine lv_iconst (v := 1) hx hb dX6_line_30 (by decide) ?_
      refine lv_iand hx hb dX6_line_31 ?_
      refine lv_topi (fun v7 ev7 => ?_)
      refine W.widen (k := 1) (n := 6) (Nat.le_of_ble_eq_true rfl) (Nat.le_of_ble_eq_true rfl) ?_
      refine vx_ret ?_
      exact W.iret (v := v7) hx hb hr (fun t ht hW => ⟨⟨v7, S, rfl, ⟨if_neg (fun z9 => z9.elim c1 (fun z8 => z8 c2)), rfl, by subst_vars; rfl⟩, by rw [ht]; exact hP, va_K.moved hW.alike hK, hD⟩, hS.F ht⟩) hS.2.2 dX6_line_32
    · skip
      exact zthrowA hx hb hlt hown (hts (.classLink RX6 55 "java/lang/IllegalArgumentException") (by decide +kernel)) (hts (.initialized "java/lang/IllegalArgumentException") (by decide +kernel)) (fun w h => hts w (List.mem_cons_of_mem _ (List.mem_append_right _ h))) hE (zEt_175 hE.2.2.2) hP hD hK hS (by rw [hml]; exact hl.1) dX6_line_11 dX6_line_14 dX6_line_15 dX6_line_17 dX6_line_20 hxt (Nat.le_of_ble_eq_true rfl) (Nat.le_of_ble_eq_true rfl) (Nat.le_of_ble_eq_true rfl) (Nat.le_of_ble_eq_true rfl) hlocks (fun t hB hF => ⟨(), trivial, ⟨⟨rfl, if_pos (Or.inr c2)⟩, hB⟩, hF⟩) hS.2.2 (Nat.le_of_ble_eq_true rfl) (Nat.le_of_ble_eq_true rfl)
set_option maxHeartbeats 4000000 in
set_option maxRecDepth 100000 in
theorem x_X6_disturb (l : Launch) (hlt : l.stackTraces = false) (dC : Nat → ClassId) (dI : Nat → Nat → Nat) (cy : Nat → ClassId) (G : zG) (S : zS) (sz : Nat) (x f n sc ia na d ka va : Nat) (b v : Int32) (hX : zX G S x f n sc ia na d ka va)  : vx_Met l yX6_disturb wsX6_disturb ({ frames := 6, cells := 1, slots := 6, locals := 82 }) (zPx dC dI cy [.ref x, .int b, .int v] G S sz) (va_Qv (fun S' => kDist b v (S.1 d 2) = 0 ∧ zSt G S S') (zB dC dI cy (zA cy G S sz) G) (zA cy G S sz)) (vx_X (fun _ : Unit => True) (fun E _ t => ((E = "java/lang/IllegalArgumentException" ∧ kDist b v (S.1 d 2) = 1) ∨ (E = "java/lang/IllegalStateException" ∧ kDist b v (S.1 d 2) = 2)) ∧ zB dC dI cy (zA cy G S sz) G S t) (zA cy G S sz)) 1 6 (zA cy G S sz) := by
  refine vx_ofW (cc := cX6_disturb) (maxL := 3) (ret := none) (by decide) rfl ?_
  intro p e s m args below meth c s₁ B hml hxt hv
  obtain ⟨rfl, ⟨hsz, hP, hK, hD0, hN⟩, hE⟩ := hv
  have hx := B.exec
  have hb := B.bytes
  have hr := B.returns
  have hts := atoms_spec (ws := wsX6_disturb) B.pre
  have hown : s.vm.findClass RX6 = some m.cls := findClass_of_methodNamed B.named
  have hlocks := B.notSynchronized
  subst hsz
  have hD : va_D (zA cy G S s.heap.size) (zW cy G S) := hD0.self
  generalize hAe : zA cy G S s.heap.size = A at hD hE ⊢
  have hA : ∀ q : Nat, s.heap.size ≤ q → A q := fun q h => by rw [← hAe]; exact Or.inr h
  have hS : va_S A s.heap s.heap [] := va_S.rf
  have hst := zSt.refl G S
  have hl := lv_entry ([.ref x, .int b, .int v]) (n := 3) (Nat.le_of_ble_eq_true rfl)
  rw [lg_entry_eq]
  generalize (lg_sl ([.ref x, .int b, .int v]) ++ List.replicate (3 - (lg_sl ([.ref x, .int b, .int v])).length) Slot.unset).toArray = ls at hl ⊢
  have hl : lv_has ls 3 [(0, .ref x), (1, .int b), (2, .int v)] := hl
  have hi0 : ∀ w ∈ wsX00, w ∈ wsX6_disturb := by decide +kernel
  have hi6 : ∀ w ∈ wsX60, w ∈ wsX6_disturb := by decide +kernel
  have hX0 := hX
  obtain ⟨hx6, hq0, hq1, hq2, hq3, hFa, hNs, hSc, hDi, hRf⟩ := hX
  refine lv_iload_n hx hb dX6_disturb_0 rfl (lv_at hl 1 rfl) ?_
  refine lv_if_lt (tgt := 20) hx hb dX6_disturb_1 (by decide) (fun c1 => ?_) (fun c1 => ?_)
  · skip
    exact zthrowA hx hb hlt hown (hts (.classLink RX6 55 "java/lang/IllegalArgumentException") (by decide +kernel)) (hts (.initialized "java/lang/IllegalArgumentException") (by decide +kernel)) (fun w h => hts w (List.mem_cons_of_mem _ (List.mem_append_left _ (List.mem_append_right _ h)))) hE (zEt_120 hE.2.2.2) hP hD hK hS (by rw [hml]; exact hl.1) dX6_disturb_20 dX6_disturb_23 dX6_disturb_24 dX6_disturb_26 dX6_disturb_29 hxt (Nat.le_of_ble_eq_true rfl) (Nat.le_of_ble_eq_true rfl) (Nat.le_of_ble_eq_true rfl) (Nat.le_of_ble_eq_true rfl) hlocks (fun t hB hF => ⟨(), trivial, ⟨(Or.inl ⟨rfl, if_pos (Or.inl c1)⟩), hB⟩, hF⟩) hS.2.2 (Nat.le_of_ble_eq_true rfl) (Nat.le_of_ble_eq_true rfl)
  · skip
    refine lv_iload_n hx hb dX6_disturb_4 rfl (lv_at hl 1 rfl) ?_
    refine lv_sipush (v := 4000) hx hb dX6_disturb_5 (by decide) ?_
    refine lv_icmp_gt (tgt := 20) hx hb dX6_disturb_8 (by decide) (fun c2 => ?_) (fun c2 => ?_)
    · skip
      exact zthrowA hx hb hlt hown (hts (.classLink RX6 55 "java/lang/IllegalArgumentException") (by decide +kernel)) (hts (.initialized "java/lang/IllegalArgumentException") (by decide +kernel)) (fun w h => hts w (List.mem_cons_of_mem _ (List.mem_append_left _ (List.mem_append_right _ h)))) hE (zEt_120 hE.2.2.2) hP hD hK hS (by rw [hml]; exact hl.1) dX6_disturb_20 dX6_disturb_23 dX6_disturb_24 dX6_disturb_26 dX6_disturb_29 hxt (Nat.le_of_ble_eq_true rfl) (Nat.le_of_ble_eq_true rfl) (Nat.le_of_ble_eq_true rfl) (Nat.le_of_ble_eq_true rfl) hlocks (fun t hB hF => ⟨(), trivial, ⟨(Or.inl ⟨rfl, if_pos (Or.inr (Or.inl c2))⟩), hB⟩, hF⟩) hS.2.2 (Nat.le_of_ble_eq_true rfl) (Nat.le_of_ble_eq_true rfl)
    · skip
      refine lv_iload_n hx hb dX6_disturb_11 rfl (lv_at hl 2 rfl) ?_
      refine lv_if_lt (tgt := 20) hx hb dX6_disturb_12 (by decide) (fun c3 => ?_) (fun c3 => ?_)
      · skip
        exact zthrowA hx hb hlt hown (hts (.classLink RX6 55 "java/lang/IllegalArgumentException") (by decide +kernel)) (hts (.initialized "java/lang/IllegalArgumentException") (by decide +kernel)) (fun w h => hts w (List.mem_cons_of_mem _ (List.mem_append_left _ (List.mem_append_right _ h)))) hE (zEt_120 hE.2.2.2) hP hD hK hS (by rw [hml]; exact hl.1) dX6_disturb_20 dX6_disturb_23 dX6_disturb_24 dX6_disturb_26 dX6_disturb_29 hxt (Nat.le_of_ble_eq_true rfl) (Nat.le_of_ble_eq_true rfl) (Nat.le_of_ble_eq_true rfl) (Nat.le_of_ble_eq_true rfl) hlocks (fun t hB hF => ⟨(), trivial, ⟨(Or.inl ⟨rfl, if_pos (Or.inr (Or.inr (Or.inl c3)))⟩), hB⟩, hF⟩) hS.2.2 (Nat.le_of_ble_eq_true rfl) (Nat.le_of_ble_eq_true rfl)
      · skip
        refine lv_iload_n hx hb dX6_disturb_15 rfl (lv_at hl 2 rfl) ?_
        refine lv_iconst (v := 1) hx hb dX6_disturb_16 (by decide) ?_
        refine lv_icmp_le (tgt := 30) hx hb dX6_disturb_17 (by decide) (fun c4 => ?_) (fun c4 => ?_)
        · skip
          refine lv_aload_n hx hb dX6_disturb_30 rfl (lv_at hl 0 rfl) ?_
          refine zget (ci := 6) (C := RX6) (T := TX6) (N := 7) hx hb hts hi6 hown hK hP hx6 rfl rfl 3 (by decide) (hts (.fieldLink RX6 31 "LinCluster" "disturbings" "LLinCluster$Disturbings;") (by decide +kernel)) (fun _ h9 => h9) (v := .ref d) (congrArg (fun z => some (va_rf z)) (hst.q hx6.2 rfl hq3)) dX6_disturb_31 ?_
          refine zget (ci := 0) (C := RX0) (T := TX0) (N := 3) hx hb hts hi0 hown hK hP hDi.1 rfl rfl 2 (by decide) (hts (.fieldLink RX6 122 "LinCluster$Disturbings" "toCome" "I") (by decide +kernel)) (fun _ h9 => h9) rfl dX6_disturb_34 ?_
          refine lv_topi (fun v5 ev5 => ?_)
          refine lv_sipush (v := 200) hx hb dX6_disturb_37 (by decide) ?_
          refine lv_icmp_lt (tgt := 53) hx hb dX6_disturb_40 (by decide) (fun c6 => ?_) (fun c6 => ?_)
          · skip
            refine lv_aload_n hx hb dX6_disturb_53 rfl (lv_at hl 0 rfl) ?_
            refine zget (ci := 6) (C := RX6) (T := TX6) (N := 7) hx hb hts hi6 hown hK hP hx6 rfl rfl 3 (by decide) (hts (.fieldLink RX6 31 "LinCluster" "disturbings" "LLinCluster$Disturbings;") (by decide +kernel)) (fun _ h9 => h9) (v := .ref d) (congrArg (fun z => some (va_rf z)) (hst.q hx6.2 rfl hq3)) dX6_disturb_54 ?_
            refine lv_aload_n hx hb dX6_disturb_57 rfl (lv_at hl 0 rfl) ?_
            refine zget (ci := 6) (C := RX6) (T := TX6) (N := 7) hx hb hts hi6 hown hK hP hx6 rfl rfl 4 (by decide) (hts (.fieldLink RX6 35 "LinCluster" "time" "I") (by decide +kernel)) (fun _ h9 => h9) rfl dX6_disturb_58 ?_
            refine lv_topi (fun v7 ev7 => ?_)
            refine lv_iload_n hx hb dX6_disturb_61 rfl (lv_at hl 1 rfl) ?_
            refine lv_iadd hx hb dX6_disturb_62 ?_
            refine lv_topi (fun v8 ev8 => ?_)
            refine lv_iload_n hx hb dX6_disturb_63 rfl (lv_at hl 2 rfl) ?_
            refine zcallv (va_runV (As := [.int v8, .int v]) (rest := []) ⟨hx, hb, hml, hown, hts⟩ (c_X0_put l dC dI cy G S s.heap.size d ka va v8 v (hst.di hDi)) (cwV 2 hts gX6_disturb_X0_put rfl rfl rfl (by decide +kernel) ⟨Nat.le_of_ble_eq_true rfl, Nat.le_of_ble_eq_true rfl⟩) (zpreV hK hP hD hN (zrecv0 hK hP hDi.1)) rfl rfl hl.1 rfl (lv_room (Nat.le_of_ble_eq_true rfl)) dX6_disturb_64 ⟨Nat.le_of_ble_eq_true rfl, Nat.le_of_ble_eq_true rfl⟩) hS hD hA (fun S10 H locs hr9 hP hD hS => ?_)
            have hst := hst.trans hr9
            refine W.widen (k := 1) (n := 6) (Nat.le_of_ble_eq_true rfl) (Nat.le_of_ble_eq_true rfl) ?_
            refine vx_ret ?_
            exact W.vret hx hb hr (fun t ht hW => ⟨⟨S10, rfl, ⟨by unfold kDist; rw [if_neg (fun z9 => z9.elim c1 (fun z8 => z8.elim c2 (fun z7 => z7.elim c3 (fun z6 => z6 c4)))), if_neg (fun z9 => z9 (by rw [← ev5]; exact c6))], hst⟩, by rw [ht]; exact hP, va_K.moved hW.alike hK, hD⟩, hS.F ht⟩) hS.2.2 dX6_disturb_67
          · skip
            exact zthrowS hx hb hlt hown (hts (.classLink RX6 62 "java/lang/IllegalStateException") (by decide +kernel)) (hts (.initialized "java/lang/IllegalStateException") (by decide +kernel)) (fun w h => hts w (List.mem_cons_of_mem _ (List.mem_append_right _ h))) hE (zEt_125 hE.2.2.2) hP hD hK hS (by rw [hml]; exact hl.1) dX6_disturb_43 dX6_disturb_46 dX6_disturb_47 dX6_disturb_49 dX6_disturb_52 hxt (Nat.le_of_ble_eq_true rfl) (Nat.le_of_ble_eq_true rfl) (Nat.le_of_ble_eq_true rfl) (Nat.le_of_ble_eq_true rfl) hlocks (fun t hB hF => ⟨(), trivial, ⟨(Or.inr ⟨rfl, by unfold kDist; rw [if_neg (fun z9 => z9.elim c1 (fun z8 => z8.elim c2 (fun z7 => z7.elim c3 (fun z6 => z6 c4)))), if_pos (fun z9 => c6 (by rw [ev5]; exact z9))]⟩), hB⟩, hF⟩) hS.2.2 (Nat.le_of_ble_eq_true rfl) (Nat.le_of_ble_eq_true rfl)
        · skip
          exact zthrowA hx hb hlt hown (hts (.classLink RX6 55 "java/lang/IllegalArgumentException") (by decide +kernel)) (hts (.initialized "java/lang/IllegalArgumentException") (by decide +kernel)) (fun w h => hts w (List.mem_cons_of_mem _ (List.mem_append_left _ (List.mem_append_right _ h)))) hE (zEt_120 hE.2.2.2) hP hD hK hS (by rw [hml]; exact hl.1) dX6_disturb_20 dX6_disturb_23 dX6_disturb_24 dX6_disturb_26 dX6_disturb_29 hxt (Nat.le_of_ble_eq_true rfl) (Nat.le_of_ble_eq_true rfl) (Nat.le_of_ble_eq_true rfl) (Nat.le_of_ble_eq_true rfl) hlocks (fun t hB hF => ⟨(), trivial, ⟨(Or.inl ⟨rfl, if_pos (Or.inr (Or.inr (Or.inr c4)))⟩), hB⟩, hF⟩) hS.2.2 (Nat.le_of_ble_eq_true rfl) (Nat.le_of_ble_eq_true rfl)
set_option maxHeartbeats 4000000 in
set_option maxRecDepth 100000 in
theorem x_X6_run (l : Launch) (hlt : l.stackTraces = false) (dC : Nat → ClassId) (dI : Nat → Nat → Nat) (cy : Nat → ClassId) (G : zG) (S : zS) (sz : Nat) (x f n sc ia na d ka va : Nat) (v : Int32) (hX : zX G S x f n sc ia na d ka va)  : vx_Met l yX6_run wsX6_run ({ frames := 6, cells := 1, slots := 6, locals := 141 }) (zPx dC dI cy [.ref x, .int v] G S sz) (va_Qi (fun (r : Int32) S' => kRun (S.1 x 4) v = 0 ∧ zSu G x S S' ∧ zX G S' x f n sc ia na d ka va ∧ S'.1 x 4 = S.1 x 4 + v ∧ r = S'.1 x 4) (zB dC dI cy (zA cy G S sz) G) (zA cy G S sz)) (vx_X (fun _ : Unit => True) (fun E _ t => ((E = "java/lang/IllegalArgumentException" ∧ kRun (S.1 x 4) v = 1) ∨ (E = "java/lang/IllegalStateException" ∧ kRun (S.1 x 4) v = 2)) ∧ zB dC dI cy (zA cy G S sz) G S t) (zA cy G S sz)) 1 6 (zA cy G S sz) := by
  refine vx_ofW (cc := cX6_run) (maxL := 3) (ret := (some .int)) (by decide) rfl ?_
  intro p e s m args below meth c s₁ B hml hxt hv
  obtain ⟨rfl, ⟨hsz, hP, hK, hD0, hN⟩, hE⟩ := hv
  have hx := B.exec
  have hb := B.bytes
  have hr := B.returns
  have hts := atoms_spec (ws := wsX6_run) B.pre
  have hown : s.vm.findClass RX6 = some m.cls := findClass_of_methodNamed B.named
  have hlocks := B.notSynchronized
  subst hsz
  have hD : va_D (zA cy G S s.heap.size) (zW cy G S) := hD0.self
  generalize hAe : zA cy G S s.heap.size = A at hD hE ⊢
  have hA : ∀ q : Nat, s.heap.size ≤ q → A q := fun q h => by rw [← hAe]; exact Or.inr h
  have hS : va_S A s.heap s.heap [] := va_S.rf
  have hst := zSt.refl G S
  have hl := lv_entry ([.ref x, .int v]) (n := 3) (Nat.le_of_ble_eq_true rfl)
  rw [lg_entry_eq]
  generalize (lg_sl ([.ref x, .int v]) ++ List.replicate (3 - (lg_sl ([.ref x, .int v])).length) Slot.unset).toArray = ls at hl ⊢
  have hl : lv_has ls 3 [(0, .ref x), (1, .int v)] := hl
  have hi6 : ∀ w ∈ wsX60, w ∈ wsX6_run := by decide +kernel
  have hX0 := hX
  obtain ⟨hx6, hq0, hq1, hq2, hq3, hFa, hNs, hSc, hDi, hRf⟩ := hX
  refine lv_iload_n hx hb dX6_run_0 rfl (lv_at hl 1 rfl) ?_
  refine lv_iconst (v := 1) hx hb dX6_run_1 (by decide) ?_
  refine lv_icmp_lt (tgt := 12) hx hb dX6_run_2 (by decide) (fun c1 => ?_) (fun c1 => ?_)
  · skip
    exact zthrowA hx hb hlt hown (hts (.classLink RX6 55 "java/lang/IllegalArgumentException") (by decide +kernel)) (hts (.initialized "java/lang/IllegalArgumentException") (by decide +kernel)) (fun w h => hts w (List.mem_cons_of_mem _ (List.mem_append_left _ (List.mem_append_right _ h)))) hE (zEt_136 hE.2.2.2) hP hD hK hS (by rw [hml]; exact hl.1) dX6_run_12 dX6_run_15 dX6_run_16 dX6_run_18 dX6_run_21 hxt (Nat.le_of_ble_eq_true rfl) (Nat.le_of_ble_eq_true rfl) (Nat.le_of_ble_eq_true rfl) (Nat.le_of_ble_eq_true rfl) hlocks (fun t hB hF => ⟨(), trivial, ⟨(Or.inl ⟨rfl, if_pos (Or.inl c1)⟩), hB⟩, hF⟩) hS.2.2 (Nat.le_of_ble_eq_true rfl) (Nat.le_of_ble_eq_true rfl)
  · skip
    refine lv_iload_n hx hb dX6_run_5 rfl (lv_at hl 1 rfl) ?_
    refine lv_sipush (v := 2000) hx hb dX6_run_6 (by decide) ?_
    refine lv_icmp_le (tgt := 22) hx hb dX6_run_9 (by decide) (fun c2 => ?_) (fun c2 => ?_)
    · skip
      refine lv_aload_n hx hb dX6_run_22 rfl (lv_at hl 0 rfl) ?_
      refine zget (ci := 6) (C := RX6) (T := TX6) (N := 7) hx hb hts hi6 hown hK hP hx6 rfl rfl 4 (by decide) (hts (.fieldLink RX6 35 "LinCluster" "time" "I") (by decide +kernel)) (fun _ h9 => h9) rfl dX6_run_23 ?_
      refine lv_topi (fun v3 ev3 => ?_)
      refine lv_iload_n hx hb dX6_run_26 rfl (lv_at hl 1 rfl) ?_
      refine lv_iadd hx hb dX6_run_27 ?_
      refine lv_topi (fun v4 ev4 => ?_)
      refine lv_ldc (v := 200000) hx hb hown (hts (.constant RX6 138 200000) (by decide +kernel)) dX6_run_28 ?_
      refine lv_icmp_le (tgt := 43) hx hb dX6_run_30 (by decide) (fun c5 => ?_) (fun c5 => ?_)
      · skip
        refine lv_iconst (v := 0) hx hb dX6_run_43 (by decide) ?_
        refine lv_istore_n (lv' := [(2, .int 0), (0, .ref x), (1, .int v)]) hx hb dX6_run_44 rfl hl (by decide) rfl (fun ls hl => ?_)
        obtain ⟨N8, hN8, eN8⟩ := nI_of2 (M := 2000) (n := 2000) (x := v) (by decide) (fun z9 => c1 (Int32.lt_of_lt_of_le z9 (by decide))) c2
        refine zloopW N8 (fun k9 (_ : Unit) => [(0, .ref x), (1, .int v), (2, .int (nI k9))]) (fun k9 S' => zSu G x S S' ∧ zX G S' x f n sc ia na d ka va ∧ S'.1 x 4 = S.1 x 4 + nI k9) ?_ ?_ N8 0 () S s.heap [] ls (Nat.zero_add _) ⟨zSu.refl G x S, hX0, by rw [nI_0, Int32.add_zero]⟩ hP hD hS (lv_sub hl [1, 2, 0] rfl)
        · intro x9 S9 H locs ls hJ9 hP hD hS hl
          have hl : lv_has ls 3 [(0, .ref x), (1, .int v), (2, .int (nI N8))] := hl
          refine lv_iload_n hx hb dX6_run_45 rfl (lv_at hl 2 rfl) ?_
          refine lv_iload_n hx hb dX6_run_46 rfl (lv_at hl 1 rfl) ?_
          refine lv_icmp_ge (tgt := 60) hx hb dX6_run_47 (by decide) (fun c6 => ?_) (fun c6 => ?_)
          · skip
            refine lv_aload_n hx hb dX6_run_60 rfl (lv_at hl 0 rfl) ?_
            refine zget (ci := 6) (C := RX6) (T := TX6) (N := 7) hx hb hts hi6 hown hK hP hx6 rfl rfl 4 (by decide) (hts (.fieldLink RX6 35 "LinCluster" "time" "I") (by decide +kernel)) (fun _ h9 => h9) rfl dX6_run_61 ?_
            refine lv_topi (fun v7 ev7 => ?_)
            refine W.widen (k := 1) (n := 6) (Nat.le_of_ble_eq_true rfl) (Nat.le_of_ble_eq_true rfl) ?_
            refine vx_ret ?_
            exact W.iret (v := v7) hx hb hr (fun t ht hW => ⟨⟨v7, S9, rfl, ⟨by unfold kRun; rw [if_neg (fun z9 => z9.elim c1 (fun z8 => z8 c2)), if_neg (fun z9 => z9 (by rw [← ev3, ← ev4]; exact c5))], hJ9.1, hJ9.2.1, by rw [hJ9.2.2, eN8], ev7⟩, by rw [ht]; exact hP, va_K.moved hW.alike hK, hD⟩, hS.F ht⟩) hS.2.2 dX6_run_64
          · exact absurd (by rw [eN8]; exact nI_le (Nat.le_refl _) (by omega)) c6
        · intro n8 k9 x9 S9 H locs ls hk9 ih hJ9 hP hD hS hl
          have hl : lv_has ls 3 [(0, .ref x), (1, .int v), (2, .int (nI k9))] := hl
          refine lv_iload_n hx hb dX6_run_45 rfl (lv_at hl 2 rfl) ?_
          refine lv_iload_n hx hb dX6_run_46 rfl (lv_at hl 1 rfl) ?_
          refine lv_icmp_ge (tgt := 60) hx hb dX6_run_47 (by decide) (fun c8 => ?_) (fun c8 => ?_)
          · exact absurd c8 (by rw [eN8]; exact nI_ge (by omega) (by omega))
          · skip
            refine lv_aload_n hx hb dX6_run_50 rfl (lv_at hl 0 rfl) ?_
            refine zcallv (va_runV (As := []) (rest := []) ⟨hx, hb, hml, hown, hts⟩ (c_X6_passBitTime l dC dI cy G S9 H.size x f n sc ia na d ka va hJ9.2.1) (cwV 0 hts gX6_run_X6_passBitTime rfl rfl rfl (by decide +kernel) ⟨Nat.le_of_ble_eq_true rfl, Nat.le_of_ble_eq_true rfl⟩) (zpreV hK hP hD hN (zrecv6 hK hP hx6)) rfl rfl hl.1 rfl (lv_room (Nat.le_of_ble_eq_true rfl)) dX6_run_51 ⟨Nat.le_of_ble_eq_true rfl, Nat.le_of_ble_eq_true rfl⟩) hS hD hA (fun S10 H locs hr9 hP hD hS => ?_)
            obtain ⟨v11, ev11⟩ : ∃ y : Int32, y = (nI k9) + 1 := ⟨_, rfl⟩
            refine lv_iinc (v := v11) (lv' := [(2, .int v11), (0, .ref x), (1, .int v)]) hx hb dX6_run_54 hl (k := 2) rfl (by rw [ev11]; rfl) (by decide) rfl (fun ls hl => ?_)
            refine lv_goto (tgt := 45) hx hb dX6_run_57 (by decide) ?_
            have e9 : v11 = nI (k9 + 1) := by rw [ev11]; exact nI_1 k9
            rw [e9] at hl
            obtain ⟨T9, hT9, rfl⟩ := hr9
            refine ih () _ H locs ls ⟨hJ9.1.trans (hT9.u _), (hT9.zx hJ9.2.1).time, ?_⟩ hP hD hS (lv_sub hl [1, 2, 0] rfl)
            rw [zpi_at, if_pos ⟨rfl, rfl⟩, hJ9.2.2, Int32.add_assoc, nI_1]
      · skip
        exact zthrowS hx hb hlt hown (hts (.classLink RX6 62 "java/lang/IllegalStateException") (by decide +kernel)) (hts (.initialized "java/lang/IllegalStateException") (by decide +kernel)) (fun w h => hts w (List.mem_cons_of_mem _ (List.mem_append_right _ h))) hE (zEt_139 hE.2.2.2) hP hD hK hS (by rw [hml]; exact hl.1) dX6_run_33 dX6_run_36 dX6_run_37 dX6_run_39 dX6_run_42 hxt (Nat.le_of_ble_eq_true rfl) (Nat.le_of_ble_eq_true rfl) (Nat.le_of_ble_eq_true rfl) (Nat.le_of_ble_eq_true rfl) hlocks (fun t hB hF => ⟨(), trivial, ⟨(Or.inr ⟨rfl, by unfold kRun; rw [if_neg (fun z9 => z9.elim c1 (fun z8 => z8 c2)), if_pos (fun z9 => c5 (by rw [ev4, ev3]; exact z9))]⟩), hB⟩, hF⟩) hS.2.2 (Nat.le_of_ble_eq_true rfl) (Nat.le_of_ble_eq_true rfl)
    · skip
      exact zthrowA hx hb hlt hown (hts (.classLink RX6 55 "java/lang/IllegalArgumentException") (by decide +kernel)) (hts (.initialized "java/lang/IllegalArgumentException") (by decide +kernel)) (fun w h => hts w (List.mem_cons_of_mem _ (List.mem_append_left _ (List.mem_append_right _ h)))) hE (zEt_136 hE.2.2.2) hP hD hK hS (by rw [hml]; exact hl.1) dX6_run_12 dX6_run_15 dX6_run_16 dX6_run_18 dX6_run_21 hxt (Nat.le_of_ble_eq_true rfl) (Nat.le_of_ble_eq_true rfl) (Nat.le_of_ble_eq_true rfl) (Nat.le_of_ble_eq_true rfl) hlocks (fun t hB hF => ⟨(), trivial, ⟨(Or.inl ⟨rfl, if_pos (Or.inr c2)⟩), hB⟩, hF⟩) hS.2.2 (Nat.le_of_ble_eq_true rfl) (Nat.le_of_ble_eq_true rfl)
