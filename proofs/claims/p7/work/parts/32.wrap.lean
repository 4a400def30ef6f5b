set_option maxHeartbeats 4000000 in
set_option maxRecDepth 100000 in
theorem w_L_frame (l : Launch) (hlt : l.stackTraces = false) (dC : Nat → ClassId) (dI : Nat → Nat → Nat) (cy : Nat → ClassId) (G : zG) (S : zS) (sz : Nat) (x f n sc ia na d ka va : Nat) (id b v e1 : Int32) (hX : zX G S x f n sc ia na d ka va)  : Met l yL_frame wsL_frame ({ frames := 7, cells := 3, slots := 25, locals := 106 }) (zPy dC dI cy [.ref x, .int id, .int b, .int v, .int e1] G S sz) (va_Qi (fun (k9 : Int32) (u : zG × zS) => (k9 = 0 ∧ (∃ q k t j i : Nat, ∃ w1 : Int32, q ∉ G.1 ∧ k ∉ (zGn G q 1 0).1 ∧ t ∉ (zGn (zGn G q 1 0) k 9 8).1 ∧ j < 62 ∧ i < 8 ∧ id = nI j ∧ v = nI i ∧ kFrame (S.1 x 4) id b v = 0 ∧ w1 = zenh e1 j ∧ u = (zGn (zGn (zGn G q 1 0) k 9 8) t 8 8, zpq (zFi (zSn S q) q k t id b v w1) f j (some q)))) ∨ (k9 = 1 ∧ (kFrame (S.1 x 4) id b v = 1) ∧ u = (G, S)) ∨ (k9 = 2 ∧ (kFrame (S.1 x 4) id b v = 2) ∧ u = (G, S))) (fun u => zB dC dI cy (zA cy G S sz) u.1 u.2) (zA cy G S sz)) 3 25 (zA cy G S sz) := by
  refine va_MetW (cc := cL_frame) (maxL := 6) (ret := (some .int)) (hh := [(0, 9, 12, 13), (0, 9, 16, 15)]) (by decide) rfl ?_
  intro p e s m args below meth c s₁ B hml hv
  obtain ⟨rfl, ⟨⟨hsz, hP, hK, hD0, hN⟩, hE⟩, hNc⟩ := hv
  have hx := B.exec
  have hb := B.bytes
  have hr := B.returns
  have hts := atoms_spec (ws := wsL_frame) B.pre
  have hown : s.vm.findClass RL = some m.cls := findClass_of_methodNamed B.named
  have hlocks := B.notSynchronized
  have htb := vx_table (x := yL_frame) B (hts _ List.mem_cons_self)
  subst hsz
  have hD : va_D (zA cy G S s.heap.size) (zW cy G S) := hD0.self
  generalize hAe : zA cy G S s.heap.size = A at hD hE ⊢
  have hA : ∀ q : Nat, s.heap.size ≤ q → A q := fun q h => by rw [← hAe]; exact Or.inr h
  have hS : va_S A s.heap s.heap [] := va_S.rf
  have hl := lv_entry ([.ref x, .int id, .int b, .int v, .int e1]) (n := 6) (Nat.le_of_ble_eq_true rfl)
  rw [lg_entry_eq]
  generalize (lg_sl ([.ref x, .int id, .int b, .int v, .int e1]) ++ List.replicate (6 - (lg_sl ([.ref x, .int id, .int b, .int v, .int e1])).length) Slot.unset).toArray = ls at hl ⊢
  have hl : lv_has ls 6 [(0, .ref x), (1, .int id), (2, .int b), (3, .int v), (4, .int e1)] := hl
  refine lv_aload_n hx hb dL_frame_0 rfl (lv_at hl 0 rfl) ?_
  refine lv_iload_n hx hb dL_frame_1 rfl (lv_at hl 1 rfl) ?_
  refine lv_iload_n hx hb dL_frame_2 rfl (lv_at hl 2 rfl) ?_
  refine lv_iload_n hx hb dL_frame_3 rfl (lv_at hl 3 rfl) ?_
  refine lv_iload hx hb dL_frame_4 (lv_at hl 4 rfl) ?_
  refine zcallXV (vx_runV (As := [.int id, .int b, .int v, .int e1]) (rest := []) ⟨hx, hb, hml, hown, hts⟩ (x_X6_frame l hlt dC dI cy G S s.heap.size x f n sc ia na d ka va id b v e1 hX) (cwV 4 hts gL_frame_X6_frame rfl rfl rfl (by decide +kernel) ⟨Nat.le_of_ble_eq_true rfl, Nat.le_of_ble_eq_true rfl⟩) (zpreVx hK hP hD hN hE hS hA (zrecv6 hK hP hX.1)) rfl rfl hl.1 rfl (lv_room (Nat.le_of_ble_eq_true rfl)) dL_frame_6 ⟨Nat.le_of_ble_eq_true rfl, Nat.le_of_ble_eq_true rfl⟩) hS hD hA (fun E ce q9 H locs hxp hP hD hS hc1 hc2 hc3 => ?_) (fun u1 H locs hw hP hD hS => ?_)
  · rcases hxp with ⟨rfl, hk9⟩ | ⟨rfl, hk9⟩
    · skip
      refine vx_catch (name := "java/lang/IllegalArgumentException") hown [] ⟨0, 9, 12, 13⟩ [⟨0, 9, 16, 15⟩] (by rw [htb]; rfl) (fun z hz => absurd hz List.not_mem_nil) (by decide) (by decide) (hts (.classLink RL 13 "java/lang/IllegalArgumentException") (by decide +kernel)) (va_tabs rfl rfl hE.2.2.1.2.2.2.1) hc1 hc2 hc3 ?_
      refine lv_astore (lv' := [(5, .ref q9), (0, .ref x), (1, .int id), (2, .int b), (3, .int v), (4, .int e1)]) hx hb dL_frame_12 hl (by decide) rfl (fun ls hl => ?_)
      refine lv_iconst (v := 1) hx hb dL_frame_14 (by decide) ?_
      refine W.widen (k := 3) (n := 25) (Nat.le_of_ble_eq_true rfl) (Nat.le_of_ble_eq_true rfl) ?_
      exact W.iret (v := 1) hx hb hr (fun t ht hW => ⟨⟨1, (G, S), rfl, Or.inr (Or.inl ⟨rfl, hk9, rfl⟩), by rw [ht]; exact hP, va_K.moved hW.alike hK, hD⟩, hS.F ht⟩) hS.2.2 dL_frame_15
    · skip
      refine vx_catch (name := "java/lang/IllegalStateException") hown [⟨0, 9, 12, 13⟩] ⟨0, 9, 16, 15⟩ [] (by rw [htb]; rfl) (fun z hz => by rw [List.mem_singleton.mp hz]; exact Or.inr ⟨by decide, "java/lang/IllegalArgumentException", hts (.classLink RL 13 "java/lang/IllegalArgumentException") (by decide +kernel), hNc⟩) (by decide) (by decide) (hts (.classLink RL 15 "java/lang/IllegalStateException") (by decide +kernel)) (va_tabs rfl rfl hE.2.2.1.2.2.2.2) hc1 hc2 hc3 ?_
      refine lv_astore (lv' := [(5, .ref q9), (0, .ref x), (1, .int id), (2, .int b), (3, .int v), (4, .int e1)]) hx hb dL_frame_16 hl (by decide) rfl (fun ls hl => ?_)
      refine lv_iconst (v := 2) hx hb dL_frame_18 (by decide) ?_
      refine W.widen (k := 3) (n := 25) (Nat.le_of_ble_eq_true rfl) (Nat.le_of_ble_eq_true rfl) ?_
      exact W.iret (v := 2) hx hb hr (fun t ht hW => ⟨⟨2, (G, S), rfl, Or.inr (Or.inr ⟨rfl, hk9, rfl⟩), by rw [ht]; exact hP, va_K.moved hW.alike hK, hD⟩, hS.F ht⟩) hS.2.2 dL_frame_19
  · skip
    refine lv_goto (tgt := 20) hx hb dL_frame_9 (by decide) ?_
    refine lv_iconst (v := 0) hx hb dL_frame_20 (by decide) ?_
    refine W.widen (k := 3) (n := 25) (Nat.le_of_ble_eq_true rfl) (Nat.le_of_ble_eq_true rfl) ?_
    exact W.iret (v := 0) hx hb hr (fun t ht hW => ⟨⟨0, u1, rfl, Or.inl ⟨rfl, hw⟩, by rw [ht]; exact hP, va_K.moved hW.alike hK, hD⟩, hS.F ht⟩) hS.2.2 dL_frame_21
set_option maxHeartbeats 4000000 in
set_option maxRecDepth 100000 in
theorem w_L_listen (l : Launch) (hlt : l.stackTraces = false) (dC : Nat → ClassId) (dI : Nat → Nat → Nat) (cy : Nat → ClassId) (G : zG) (S : zS) (sz : Nat) (x f n sc ia na d ka va : Nat) (v id b : Int32) (o : Nat) (hX : zX G S x f n sc ia na d ka va)  (ho : zO G o 9) (hol : G.2.2 o = 1) : Met l yL_listen wsL_listen ({ frames := 7, cells := 1, slots := 6, locals := 107 }) (zPy dC dI cy [.ref x, .int v, .int id, .int b, .ref o] G S sz) (va_Qi (fun (k9 : Int32) S' => (k9 = 0 ∧ (∃ (r : Int32) (T9 : zS) (w : Int64), (∃ y ka' ta' j, zfo S f id (some y) ∧ zFr G S y ka' ta' ∧ j < 8 ∧ v = nI j ∧ kListen v (zfv S (some y)) = 0 ∧ ((r = 1 ∧ zheard (S.1 y 6) (nI j)) ∨ (r = 0 ∧ ¬ zheard (S.1 y 6) (nI j))) ∧ ((¬ b = 0 ∧ ((zheard (S.1 y 6) (nI j) ∧ T9 = S) ∨ (¬ zheard (S.1 y 6) (nI j) ∧ T9 = zpi (zpj (zpi S y 6 (S.1 y 6 ||| (1 <<< (nI j &&& 31)))) ka' j 0) ta' j 0))) ∨ (b = 0 ∧ T9 = zpi S y 6 (S.1 y 6 &&& ((1 <<< (nI j &&& 31)) ^^^ (-1)))))) ∧ S' = zpj T9 o 0 w ∧ ((¬ r = 0 ∧ w = 1) ∨ (r = 0 ∧ w = 0)))) ∨ (k9 = 1 ∧ (∃ q, zfo S f id q ∧ kListen v (zfv S q) = 1) ∧ S' = S)) (zB dC dI cy (zA cy G S sz) G) (zA cy G S sz)) 1 6 (zA cy G S sz) := by
  refine va_MetW (cc := cL_listen) (maxL := 6) (ret := (some .int)) (hh := [(0, 19, 22, 13)]) (by decide) rfl ?_
  intro p e s m args below meth c s₁ B hml hv
  obtain ⟨rfl, ⟨⟨hsz, hP, hK, hD0, hN⟩, hE⟩, hNc⟩ := hv
  have hx := B.exec
  have hb := B.bytes
  have hr := B.returns
  have hts := atoms_spec (ws := wsL_listen) B.pre
  have hown : s.vm.findClass RL = some m.cls := findClass_of_methodNamed B.named
  have hlocks := B.notSynchronized
  have htb := vx_table (x := yL_listen) B (hts _ List.mem_cons_self)
  subst hsz
  have hD : va_D (zA cy G S s.heap.size) (zW cy G S) := hD0.self
  generalize hAe : zA cy G S s.heap.size = A at hD hE ⊢
  have hA : ∀ q : Nat, s.heap.size ≤ q → A q := fun q h => by rw [← hAe]; exact Or.inr h
  have hS : va_S A s.heap s.heap [] := va_S.rf
  have hl := lv_entry ([.ref x, .int v, .int id, .int b, .ref o]) (n := 6) (Nat.le_of_ble_eq_true rfl)
  rw [lg_entry_eq]
  generalize (lg_sl ([.ref x, .int v, .int id, .int b, .ref o]) ++ List.replicate (6 - (lg_sl ([.ref x, .int v, .int id, .int b, .ref o])).length) Slot.unset).toArray = ls at hl ⊢
  have hl : lv_has ls 6 [(0, .ref x), (1, .int v), (2, .int id), (3, .int b), (4, .ref o)] := hl
  refine lv_aload hx hb dL_listen_0 (lv_at hl 4 rfl) ?_
  refine lv_iconst (v := 0) hx hb dL_listen_2 (by decide) ?_
  refine lv_aload_n hx hb dL_listen_3 rfl (lv_at hl 0 rfl) ?_
  refine lv_iload_n hx hb dL_listen_4 rfl (lv_at hl 1 rfl) ?_
  refine lv_iload_n hx hb dL_listen_5 rfl (lv_at hl 2 rfl) ?_
  refine lv_iload_n hx hb dL_listen_6 rfl (lv_at hl 3 rfl) ?_
  refine zcallXi (vx_runV (As := [.int v, .int id, .int b]) (rest := [.int 0, .ref o]) ⟨hx, hb, hml, hown, hts⟩ (x_X6_listen l hlt dC dI cy G S s.heap.size x f n sc ia na d ka va v id b hX) (cwV 3 hts gL_listen_X6_listen rfl rfl rfl (by decide +kernel) ⟨Nat.le_of_ble_eq_true rfl, Nat.le_of_ble_eq_true rfl⟩) (zpreVx hK hP hD hN hE hS hA (zrecv6 hK hP hX.1)) rfl rfl hl.1 rfl (lv_room (Nat.le_of_ble_eq_true rfl)) dL_listen_7 ⟨Nat.le_of_ble_eq_true rfl, Nat.le_of_ble_eq_true rfl⟩) hS hD hA (fun E ce q9 H locs hxp hP hD hS hc1 hc2 hc3 => ?_) (fun r1 S1 H locs hw hP hD hS => ?_)
  · obtain ⟨rfl, hk9⟩ := hxp
    refine vx_catch (name := "java/lang/IllegalArgumentException") hown [] ⟨0, 19, 22, 13⟩ [] (by rw [htb]; rfl) (fun z hz => absurd hz List.not_mem_nil) (by decide) (by decide) (hts (.classLink RL 13 "java/lang/IllegalArgumentException") (by decide +kernel)) (va_tabs rfl rfl hE.2.2.1.2.2.2.1) hc1 hc2 hc3 ?_
    refine lv_astore (lv' := [(5, .ref q9), (0, .ref x), (1, .int v), (2, .int id), (3, .int b), (4, .ref o)]) hx hb dL_listen_22 hl (by decide) rfl (fun ls hl => ?_)
    refine lv_iconst (v := 1) hx hb dL_listen_24 (by decide) ?_
    refine W.widen (k := 1) (n := 6) (Nat.le_of_ble_eq_true rfl) (Nat.le_of_ble_eq_true rfl) ?_
    exact W.iret (v := 1) hx hb hr (fun t ht hW => ⟨⟨1, S, rfl, Or.inr ⟨rfl, hk9, rfl⟩, by rw [ht]; exact hP, va_K.moved hW.alike hK, hD⟩, hS.F ht⟩) hS.2.2 dL_listen_25
  · skip
    refine lv_if_eq (tgt := 17) hx hb dL_listen_10 (by decide) (fun c1 => ?_) (fun c1 => ?_)
    · skip
      refine lv_lconst (v := 0) hx hb dL_listen_17 (by decide) ?_
      refine zlast (x := 0) hx hb hK hP hD hS ho hol (by unfold vp_in; decide) dL_listen_18 (fun H locs hP hD hS => ?_)
      rw [show (0 : Int32).toNatClampNeg = 0 from rfl] at hP hD
      refine lv_goto (tgt := 26) hx hb dL_listen_19 (by decide) ?_
      refine lv_iconst (v := 0) hx hb dL_listen_26 (by decide) ?_
      refine W.widen (k := 1) (n := 6) (Nat.le_of_ble_eq_true rfl) (Nat.le_of_ble_eq_true rfl) ?_
      exact W.iret (v := 0) hx hb hr (fun t ht hW => ⟨⟨0, (zpj S1 o 0 0), rfl, Or.inl ⟨rfl, r1, S1, 0, hw, rfl, Or.inr ⟨c1, rfl⟩⟩, by rw [ht]; exact hP, va_K.moved hW.alike hK, hD⟩, hS.F ht⟩) hS.2.2 dL_listen_27
    · skip
      refine lv_lconst (v := 1) hx hb dL_listen_13 (by decide) ?_
      refine lv_goto (tgt := 18) hx hb dL_listen_14 (by decide) ?_
      refine zlast (x := 1) hx hb hK hP hD hS ho hol (by unfold vp_in; decide) dL_listen_18 (fun H locs hP hD hS => ?_)
      rw [show (0 : Int32).toNatClampNeg = 0 from rfl] at hP hD
      refine lv_goto (tgt := 26) hx hb dL_listen_19 (by decide) ?_
      refine lv_iconst (v := 0) hx hb dL_listen_26 (by decide) ?_
      refine W.widen (k := 1) (n := 6) (Nat.le_of_ble_eq_true rfl) (Nat.le_of_ble_eq_true rfl) ?_
      exact W.iret (v := 0) hx hb hr (fun t ht hW => ⟨⟨0, (zpj S1 o 0 1), rfl, Or.inl ⟨rfl, r1, S1, 1, hw, rfl, Or.inl ⟨c1, rfl⟩⟩, by rw [ht]; exact hP, va_K.moved hW.alike hK, hD⟩, hS.F ht⟩) hS.2.2 dL_listen_27
set_option maxHeartbeats 4000000 in
set_option maxRecDepth 100000 in
theorem w_L_status (l : Launch) (hlt : l.stackTraces = false) (dC : Nat → ClassId) (dI : Nat → Nat → Nat) (cy : Nat → ClassId) (G : zG) (S : zS) (sz : Nat) (x f n sc ia na d ka va : Nat) (v id b k : Int32) (hX : zX G S x f n sc ia na d ka va)  : Met l yL_status wsL_status ({ frames := 7, cells := 1, slots := 6, locals := 107 }) (zPy dC dI cy [.ref x, .int v, .int id, .int b, .int k] G S sz) (va_Qi (fun (k9 : Int32) S' => (k9 = 0 ∧ (∃ q, zfo S f id q ∧ kStatus v (zfv S q) b k = 0 ∧ zSt G S S')) ∨ (k9 = 1 ∧ (∃ q, zfo S f id q ∧ kStatus v (zfv S q) b k = 1) ∧ S' = S)) (zB dC dI cy (zA cy G S sz) G) (zA cy G S sz)) 1 6 (zA cy G S sz) := by
  refine va_MetW (cc := cL_status) (maxL := 6) (ret := (some .int)) (hh := [(0, 9, 12, 13)]) (by decide) rfl ?_
  intro p e s m args below meth c s₁ B hml hv
  obtain ⟨rfl, ⟨⟨hsz, hP, hK, hD0, hN⟩, hE⟩, hNc⟩ := hv
  have hx := B.exec
  have hb := B.bytes
  have hr := B.returns
  have hts := atoms_spec (ws := wsL_status) B.pre
  have hown : s.vm.findClass RL = some m.cls := findClass_of_methodNamed B.named
  have hlocks := B.notSynchronized
  have htb := vx_table (x := yL_status) B (hts _ List.mem_cons_self)
  subst hsz
  have hD : va_D (zA cy G S s.heap.size) (zW cy G S) := hD0.self
  generalize hAe : zA cy G S s.heap.size = A at hD hE ⊢
  have hA : ∀ q : Nat, s.heap.size ≤ q → A q := fun q h => by rw [← hAe]; exact Or.inr h
  have hS : va_S A s.heap s.heap [] := va_S.rf
  have hl := lv_entry ([.ref x, .int v, .int id, .int b, .int k]) (n := 6) (Nat.le_of_ble_eq_true rfl)
  rw [lg_entry_eq]
  generalize (lg_sl ([.ref x, .int v, .int id, .int b, .int k]) ++ List.replicate (6 - (lg_sl ([.ref x, .int v, .int id, .int b, .int k])).length) Slot.unset).toArray = ls at hl ⊢
  have hl : lv_has ls 6 [(0, .ref x), (1, .int v), (2, .int id), (3, .int b), (4, .int k)] := hl
  refine lv_aload_n hx hb dL_status_0 rfl (lv_at hl 0 rfl) ?_
  refine lv_iload_n hx hb dL_status_1 rfl (lv_at hl 1 rfl) ?_
  refine lv_iload_n hx hb dL_status_2 rfl (lv_at hl 2 rfl) ?_
  refine lv_iload_n hx hb dL_status_3 rfl (lv_at hl 3 rfl) ?_
  refine lv_iload hx hb dL_status_4 (lv_at hl 4 rfl) ?_
  refine zcallXv (vx_runV (As := [.int v, .int id, .int b, .int k]) (rest := []) ⟨hx, hb, hml, hown, hts⟩ (x_X6_status l hlt dC dI cy G S s.heap.size x f n sc ia na d ka va v id b k hX) (cwV 4 hts gL_status_X6_status rfl rfl rfl (by decide +kernel) ⟨Nat.le_of_ble_eq_true rfl, Nat.le_of_ble_eq_true rfl⟩) (zpreVx hK hP hD hN hE hS hA (zrecv6 hK hP hX.1)) rfl rfl hl.1 rfl (lv_room (Nat.le_of_ble_eq_true rfl)) dL_status_6 ⟨Nat.le_of_ble_eq_true rfl, Nat.le_of_ble_eq_true rfl⟩) hS hD hA (fun E ce q9 H locs hxp hP hD hS hc1 hc2 hc3 => ?_) (fun S1 H locs hw hP hD hS => ?_)
  · obtain ⟨rfl, hk9⟩ := hxp
    refine vx_catch (name := "java/lang/IllegalArgumentException") hown [] ⟨0, 9, 12, 13⟩ [] (by rw [htb]; rfl) (fun z hz => absurd hz List.not_mem_nil) (by decide) (by decide) (hts (.classLink RL 13 "java/lang/IllegalArgumentException") (by decide +kernel)) (va_tabs rfl rfl hE.2.2.1.2.2.2.1) hc1 hc2 hc3 ?_
    refine lv_astore (lv' := [(5, .ref q9), (0, .ref x), (1, .int v), (2, .int id), (3, .int b), (4, .int k)]) hx hb dL_status_12 hl (by decide) rfl (fun ls hl => ?_)
    refine lv_iconst (v := 1) hx hb dL_status_14 (by decide) ?_
    refine W.widen (k := 1) (n := 6) (Nat.le_of_ble_eq_true rfl) (Nat.le_of_ble_eq_true rfl) ?_
    exact W.iret (v := 1) hx hb hr (fun t ht hW => ⟨⟨1, S, rfl, Or.inr ⟨rfl, hk9, rfl⟩, by rw [ht]; exact hP, va_K.moved hW.alike hK, hD⟩, hS.F ht⟩) hS.2.2 dL_status_15
  · skip
    refine lv_goto (tgt := 16) hx hb dL_status_9 (by decide) ?_
    refine lv_iconst (v := 0) hx hb dL_status_16 (by decide) ?_
    refine W.widen (k := 1) (n := 6) (Nat.le_of_ble_eq_true rfl) (Nat.le_of_ble_eq_true rfl) ?_
    exact W.iret (v := 0) hx hb hr (fun t ht hW => ⟨⟨0, S1, rfl, Or.inl ⟨rfl, hw⟩, by rw [ht]; exact hP, va_K.moved hW.alike hK, hD⟩, hS.F ht⟩) hS.2.2 dL_status_17
set_option maxHeartbeats 4000000 in
set_option maxRecDepth 100000 in
theorem w_L_space (l : Launch) (hlt : l.stackTraces = false) (dC : Nat → ClassId) (dI : Nat → Nat → Nat) (cy : Nat → ClassId) (G : zG) (S : zS) (sz : Nat) (x f n sc ia na d ka va : Nat) (v b : Int32) (o : Nat) (hX : zX G S x f n sc ia na d ka va)  (ho : zO G o 9) (hol : G.2.2 o = 1) : Met l yL_space wsL_space ({ frames := 7, cells := 1, slots := 6, locals := 104 }) (zPy dC dI cy [.ref x, .int v, .int b, .ref o] G S sz) (va_Qi (fun (k9 : Int32) S' => (k9 = 0 ∧ (∃ (r : Int32) (T9 : zS) (w : Int64), (kSpace v b = 0 ∧ ∃ j nd i q, j < 8 ∧ v = nI j ∧ S.2.2 n j = some nd ∧ zNd G S nd i q ∧ r = S.1 nd 3 ∧ T9 = zpi S nd 3 b) ∧ S' = zpj T9 o 0 w ∧ w = r.toInt64)) ∨ (k9 = 1 ∧ (kSpace v b = 1) ∧ S' = S)) (zB dC dI cy (zA cy G S sz) G) (zA cy G S sz)) 1 6 (zA cy G S sz) := by
  refine va_MetW (cc := cL_space) (maxL := 5) (ret := (some .int)) (hh := [(0, 10, 13, 13)]) (by decide) rfl ?_
  intro p e s m args below meth c s₁ B hml hv
  obtain ⟨rfl, ⟨⟨hsz, hP, hK, hD0, hN⟩, hE⟩, hNc⟩ := hv
  have hx := B.exec
  have hb := B.bytes
  have hr := B.returns
  have hts := atoms_spec (ws := wsL_space) B.pre
  have hown : s.vm.findClass RL = some m.cls := findClass_of_methodNamed B.named
  have hlocks := B.notSynchronized
  have htb := vx_table (x := yL_space) B (hts _ List.mem_cons_self)
  subst hsz
  have hD : va_D (zA cy G S s.heap.size) (zW cy G S) := hD0.self
  generalize hAe : zA cy G S s.heap.size = A at hD hE ⊢
  have hA : ∀ q : Nat, s.heap.size ≤ q → A q := fun q h => by rw [← hAe]; exact Or.inr h
  have hS : va_S A s.heap s.heap [] := va_S.rf
  have hl := lv_entry ([.ref x, .int v, .int b, .ref o]) (n := 5) (Nat.le_of_ble_eq_true rfl)
  rw [lg_entry_eq]
  generalize (lg_sl ([.ref x, .int v, .int b, .ref o]) ++ List.replicate (5 - (lg_sl ([.ref x, .int v, .int b, .ref o])).length) Slot.unset).toArray = ls at hl ⊢
  have hl : lv_has ls 5 [(0, .ref x), (1, .int v), (2, .int b), (3, .ref o)] := hl
  refine lv_aload_n hx hb dL_space_0 rfl (lv_at hl 3 rfl) ?_
  refine lv_iconst (v := 0) hx hb dL_space_1 (by decide) ?_
  refine lv_aload_n hx hb dL_space_2 rfl (lv_at hl 0 rfl) ?_
  refine lv_iload_n hx hb dL_space_3 rfl (lv_at hl 1 rfl) ?_
  refine lv_iload_n hx hb dL_space_4 rfl (lv_at hl 2 rfl) ?_
  refine zcallXi (vx_runV (As := [.int v, .int b]) (rest := [.int 0, .ref o]) ⟨hx, hb, hml, hown, hts⟩ (x_X6_space l hlt dC dI cy G S s.heap.size x f n sc ia na d ka va v b hX) (cwV 2 hts gL_space_X6_space rfl rfl rfl (by decide +kernel) ⟨Nat.le_of_ble_eq_true rfl, Nat.le_of_ble_eq_true rfl⟩) (zpreVx hK hP hD hN hE hS hA (zrecv6 hK hP hX.1)) rfl rfl hl.1 rfl (lv_room (Nat.le_of_ble_eq_true rfl)) dL_space_5 ⟨Nat.le_of_ble_eq_true rfl, Nat.le_of_ble_eq_true rfl⟩) hS hD hA (fun E ce q9 H locs hxp hP hD hS hc1 hc2 hc3 => ?_) (fun r1 S1 H locs hw hP hD hS => ?_)
  · obtain ⟨rfl, hk9⟩ := hxp
    refine vx_catch (name := "java/lang/IllegalArgumentException") hown [] ⟨0, 10, 13, 13⟩ [] (by rw [htb]; rfl) (fun z hz => absurd hz List.not_mem_nil) (by decide) (by decide) (hts (.classLink RL 13 "java/lang/IllegalArgumentException") (by decide +kernel)) (va_tabs rfl rfl hE.2.2.1.2.2.2.1) hc1 hc2 hc3 ?_
    refine lv_astore (lv' := [(4, .ref q9), (0, .ref x), (1, .int v), (2, .int b), (3, .ref o)]) hx hb dL_space_13 hl (by decide) rfl (fun ls hl => ?_)
    refine lv_iconst (v := 1) hx hb dL_space_15 (by decide) ?_
    refine W.widen (k := 1) (n := 6) (Nat.le_of_ble_eq_true rfl) (Nat.le_of_ble_eq_true rfl) ?_
    exact W.iret (v := 1) hx hb hr (fun t ht hW => ⟨⟨1, S, rfl, Or.inr ⟨rfl, hk9, rfl⟩, by rw [ht]; exact hP, va_K.moved hW.alike hK, hD⟩, hS.F ht⟩) hS.2.2 dL_space_16
  · skip
    refine lv_i2l hx hb dL_space_8 rfl ?_
    refine lv_topl (fun v1 ev1 => ?_)
    refine zlast (x := v1) hx hb hK hP hD hS ho hol (by unfold vp_in; decide) dL_space_9 (fun H locs hP hD hS => ?_)
    rw [show (0 : Int32).toNatClampNeg = 0 from rfl] at hP hD
    refine lv_goto (tgt := 17) hx hb dL_space_10 (by decide) ?_
    refine lv_iconst (v := 0) hx hb dL_space_17 (by decide) ?_
    refine W.widen (k := 1) (n := 6) (Nat.le_of_ble_eq_true rfl) (Nat.le_of_ble_eq_true rfl) ?_
    exact W.iret (v := 0) hx hb hr (fun t ht hW => ⟨⟨0, (zpj S1 o 0 v1), rfl, Or.inl ⟨rfl, r1, S1, v1, hw, rfl, ev1⟩, by rw [ht]; exact hP, va_K.moved hW.alike hK, hD⟩, hS.F ht⟩) hS.2.2 dL_space_18
set_option maxHeartbeats 4000000 in
set_option maxRecDepth 100000 in
theorem w_L_slot (l : Launch) (hlt : l.stackTraces = false) (dC : Nat → ClassId) (dI : Nat → Nat → Nat) (cy : Nat → ClassId) (G : zG) (S : zS) (sz : Nat) (x f n sc ia na d ka va : Nat) (id b : Int32) (o : Nat) (hX : zX G S x f n sc ia na d ka va) (hsl : ∃ q, q ≤ 16 ∧ S.1 sc 2 = nI q) (ho : zO G o 9) (hol : G.2.2 o = 1) : Met l yL_slot wsL_slot ({ frames := 7, cells := 1, slots := 6, locals := 104 }) (zPy dC dI cy [.ref x, .int id, .int b, .ref o] G S sz) (va_Qi (fun (k9 : Int32) S' => (k9 = 0 ∧ (∃ (r : Int32) (T9 : zS) (w : Int64), (∃ q, zfo S f id q ∧ kSlot (S.1 x 4) (S.1 sc 2) (zfv S q) b = 0 ∧ r = S.1 sc 2 ∧ ∃ T, zSt G S T ∧ T9 = zpi T sc 2 (S.1 sc 2 + 1)) ∧ S' = zpj T9 o 0 w ∧ w = r.toInt64)) ∨ (k9 = 1 ∧ (∃ q, zfo S f id q ∧ kSlot (S.1 x 4) (S.1 sc 2) (zfv S q) b = 1) ∧ S' = S) ∨ (k9 = 2 ∧ (∃ q, zfo S f id q ∧ kSlot (S.1 x 4) (S.1 sc 2) (zfv S q) b = 2) ∧ S' = S)) (zB dC dI cy (zA cy G S sz) G) (zA cy G S sz)) 1 6 (zA cy G S sz) := by
  refine va_MetW (cc := cL_slot) (maxL := 5) (ret := (some .int)) (hh := [(0, 10, 13, 13), (0, 10, 17, 15)]) (by decide) rfl ?_
  intro p e s m args below meth c s₁ B hml hv
  obtain ⟨rfl, ⟨⟨hsz, hP, hK, hD0, hN⟩, hE⟩, hNc⟩ := hv
  have hx := B.exec
  have hb := B.bytes
  have hr := B.returns
  have hts := atoms_spec (ws := wsL_slot) B.pre
  have hown : s.vm.findClass RL = some m.cls := findClass_of_methodNamed B.named
  have hlocks := B.notSynchronized
  have htb := vx_table (x := yL_slot) B (hts _ List.mem_cons_self)
  subst hsz
  have hD : va_D (zA cy G S s.heap.size) (zW cy G S) := hD0.self
  generalize hAe : zA cy G S s.heap.size = A at hD hE ⊢
  have hA : ∀ q : Nat, s.heap.size ≤ q → A q := fun q h => by rw [← hAe]; exact Or.inr h
  have hS : va_S A s.heap s.heap [] := va_S.rf
  have hl := lv_entry ([.ref x, .int id, .int b, .ref o]) (n := 5) (Nat.le_of_ble_eq_true rfl)
  rw [lg_entry_eq]
  generalize (lg_sl ([.ref x, .int id, .int b, .ref o]) ++ List.replicate (5 - (lg_sl ([.ref x, .int id, .int b, .ref o])).length) Slot.unset).toArray = ls at hl ⊢
  have hl : lv_has ls 5 [(0, .ref x), (1, .int id), (2, .int b), (3, .ref o)] := hl
  refine lv_aload_n hx hb dL_slot_0 rfl (lv_at hl 3 rfl) ?_
  refine lv_iconst (v := 0) hx hb dL_slot_1 (by decide) ?_
  refine lv_aload_n hx hb dL_slot_2 rfl (lv_at hl 0 rfl) ?_
  refine lv_iload_n hx hb dL_slot_3 rfl (lv_at hl 1 rfl) ?_
  refine lv_iload_n hx hb dL_slot_4 rfl (lv_at hl 2 rfl) ?_
  refine zcallXi (vx_runV (As := [.int id, .int b]) (rest := [.int 0, .ref o]) ⟨hx, hb, hml, hown, hts⟩ (x_X6_slot l hlt dC dI cy G S s.heap.size x f n sc ia na d ka va id b hX hsl) (cwV 2 hts gL_slot_X6_slot rfl rfl rfl (by decide +kernel) ⟨Nat.le_of_ble_eq_true rfl, Nat.le_of_ble_eq_true rfl⟩) (zpreVx hK hP hD hN hE hS hA (zrecv6 hK hP hX.1)) rfl rfl hl.1 rfl (lv_room (Nat.le_of_ble_eq_true rfl)) dL_slot_5 ⟨Nat.le_of_ble_eq_true rfl, Nat.le_of_ble_eq_true rfl⟩) hS hD hA (fun E ce q9 H locs hxp hP hD hS hc1 hc2 hc3 => ?_) (fun r1 S1 H locs hw hP hD hS => ?_)
  · rcases hxp with ⟨rfl, hk9⟩ | ⟨rfl, hk9⟩
    · skip
      refine vx_catch (name := "java/lang/IllegalArgumentException") hown [] ⟨0, 10, 13, 13⟩ [⟨0, 10, 17, 15⟩] (by rw [htb]; rfl) (fun z hz => absurd hz List.not_mem_nil) (by decide) (by decide) (hts (.classLink RL 13 "java/lang/IllegalArgumentException") (by decide +kernel)) (va_tabs rfl rfl hE.2.2.1.2.2.2.1) hc1 hc2 hc3 ?_
      refine lv_astore (lv' := [(4, .ref q9), (0, .ref x), (1, .int id), (2, .int b), (3, .ref o)]) hx hb dL_slot_13 hl (by decide) rfl (fun ls hl => ?_)
      refine lv_iconst (v := 1) hx hb dL_slot_15 (by decide) ?_
      refine W.widen (k := 1) (n := 6) (Nat.le_of_ble_eq_true rfl) (Nat.le_of_ble_eq_true rfl) ?_
      exact W.iret (v := 1) hx hb hr (fun t ht hW => ⟨⟨1, S, rfl, Or.inr (Or.inl ⟨rfl, hk9, rfl⟩), by rw [ht]; exact hP, va_K.moved hW.alike hK, hD⟩, hS.F ht⟩) hS.2.2 dL_slot_16
    · skip
      refine vx_catch (name := "java/lang/IllegalStateException") hown [⟨0, 10, 13, 13⟩] ⟨0, 10, 17, 15⟩ [] (by rw [htb]; rfl) (fun z hz => by rw [List.mem_singleton.mp hz]; exact Or.inr ⟨by decide, "java/lang/IllegalArgumentException", hts (.classLink RL 13 "java/lang/IllegalArgumentException") (by decide +kernel), hNc⟩) (by decide) (by decide) (hts (.classLink RL 15 "java/lang/IllegalStateException") (by decide +kernel)) (va_tabs rfl rfl hE.2.2.1.2.2.2.2) hc1 hc2 hc3 ?_
      refine lv_astore (lv' := [(4, .ref q9), (0, .ref x), (1, .int id), (2, .int b), (3, .ref o)]) hx hb dL_slot_17 hl (by decide) rfl (fun ls hl => ?_)
      refine lv_iconst (v := 2) hx hb dL_slot_19 (by decide) ?_
      refine W.widen (k := 1) (n := 6) (Nat.le_of_ble_eq_true rfl) (Nat.le_of_ble_eq_true rfl) ?_
      exact W.iret (v := 2) hx hb hr (fun t ht hW => ⟨⟨2, S, rfl, Or.inr (Or.inr ⟨rfl, hk9, rfl⟩), by rw [ht]; exact hP, va_K.moved hW.alike hK, hD⟩, hS.F ht⟩) hS.2.2 dL_slot_20
  · skip
    refine lv_i2l hx hb dL_slot_8 rfl ?_
    refine lv_topl (fun v1 ev1 => ?_)
    refine zlast (x := v1) hx hb hK hP hD hS ho hol (by unfold vp_in; decide) dL_slot_9 (fun H locs hP hD hS => ?_)
    rw [show (0 : Int32).toNatClampNeg = 0 from rfl] at hP hD
    refine lv_goto (tgt := 21) hx hb dL_slot_10 (by decide) ?_
    refine lv_iconst (v := 0) hx hb dL_slot_21 (by decide) ?_
    refine W.widen (k := 1) (n := 6) (Nat.le_of_ble_eq_true rfl) (Nat.le_of_ble_eq_true rfl) ?_
    exact W.iret (v := 0) hx hb hr (fun t ht hW => ⟨⟨0, (zpj S1 o 0 v1), rfl, Or.inl ⟨rfl, r1, S1, v1, hw, rfl, ev1⟩, by rw [ht]; exact hP, va_K.moved hW.alike hK, hD⟩, hS.F ht⟩) hS.2.2 dL_slot_22
set_option maxHeartbeats 4000000 in
set_option maxRecDepth 100000 in
theorem w_L_write (l : Launch) (hlt : l.stackTraces = false) (dC : Nat → ClassId) (dI : Nat → Nat → Nat) (cy : Nat → ClassId) (G : zG) (S : zS) (sz : Nat) (x f n sc ia na d ka va : Nat) (id b v : Int32) (o : Nat) (hX : zX G S x f n sc ia na d ka va)  (ho : zO G o 9) (hol : G.2.2 o = 1) : Met l yL_write wsL_write ({ frames := 7, cells := 1, slots := 6, locals := 106 }) (zPy dC dI cy [.ref x, .int id, .int b, .int v, .ref o] G S sz) (va_Qi (fun (k9 : Int32) S' => (k9 = 0 ∧ (∃ (r : Int32) (T9 : zS) (w : Int64), (∃ y, zfo S f id (some y) ∧ zO G y 1 ∧ kWrite (zfv S (some y)) b v = 0 ∧ r = zbyte (S.2.1 y 5) b ∧ T9 = zpj S y 5 (S.2.1 y 5 ^^^ ((zbyte (S.2.1 y 5) b ^^^ v).toInt64 <<< ((8 * b).toInt64 &&& 63)))) ∧ S' = zpj T9 o 0 w ∧ w = r.toInt64)) ∨ (k9 = 1 ∧ (∃ q, zfo S f id q ∧ kWrite (zfv S q) b v = 1) ∧ S' = S)) (zB dC dI cy (zA cy G S sz) G) (zA cy G S sz)) 1 6 (zA cy G S sz) := by
  refine va_MetW (cc := cL_write) (maxL := 6) (ret := (some .int)) (hh := [(0, 12, 15, 13)]) (by decide) rfl ?_
  intro p e s m args below meth c s₁ B hml hv
  obtain ⟨rfl, ⟨⟨hsz, hP, hK, hD0, hN⟩, hE⟩, hNc⟩ := hv
  have hx := B.exec
  have hb := B.bytes
  have hr := B.returns
  have hts := atoms_spec (ws := wsL_write) B.pre
  have hown : s.vm.findClass RL = some m.cls := findClass_of_methodNamed B.named
  have hlocks := B.notSynchronized
  have htb := vx_table (x := yL_write) B (hts _ List.mem_cons_self)
  subst hsz
  have hD : va_D (zA cy G S s.heap.size) (zW cy G S) := hD0.self
  generalize hAe : zA cy G S s.heap.size = A at hD hE ⊢
  have hA : ∀ q : Nat, s.heap.size ≤ q → A q := fun q h => by rw [← hAe]; exact Or.inr h
  have hS : va_S A s.heap s.heap [] := va_S.rf
  have hl := lv_entry ([.ref x, .int id, .int b, .int v, .ref o]) (n := 6) (Nat.le_of_ble_eq_true rfl)
  rw [lg_entry_eq]
  generalize (lg_sl ([.ref x, .int id, .int b, .int v, .ref o]) ++ List.replicate (6 - (lg_sl ([.ref x, .int id, .int b, .int v, .ref o])).length) Slot.unset).toArray = ls at hl ⊢
  have hl : lv_has ls 6 [(0, .ref x), (1, .int id), (2, .int b), (3, .int v), (4, .ref o)] := hl
  refine lv_aload hx hb dL_write_0 (lv_at hl 4 rfl) ?_
  refine lv_iconst (v := 0) hx hb dL_write_2 (by decide) ?_
  refine lv_aload_n hx hb dL_write_3 rfl (lv_at hl 0 rfl) ?_
  refine lv_iload_n hx hb dL_write_4 rfl (lv_at hl 1 rfl) ?_
  refine lv_iload_n hx hb dL_write_5 rfl (lv_at hl 2 rfl) ?_
  refine lv_iload_n hx hb dL_write_6 rfl (lv_at hl 3 rfl) ?_
  refine zcallXi (vx_runV (As := [.int id, .int b, .int v]) (rest := [.int 0, .ref o]) ⟨hx, hb, hml, hown, hts⟩ (x_X6_write l hlt dC dI cy G S s.heap.size x f n sc ia na d ka va id b v hX) (cwV 3 hts gL_write_X6_write rfl rfl rfl (by decide +kernel) ⟨Nat.le_of_ble_eq_true rfl, Nat.le_of_ble_eq_true rfl⟩) (zpreVx hK hP hD hN hE hS hA (zrecv6 hK hP hX.1)) rfl rfl hl.1 rfl (lv_room (Nat.le_of_ble_eq_true rfl)) dL_write_7 ⟨Nat.le_of_ble_eq_true rfl, Nat.le_of_ble_eq_true rfl⟩) hS hD hA (fun E ce q9 H locs hxp hP hD hS hc1 hc2 hc3 => ?_) (fun r1 S1 H locs hw hP hD hS => ?_)
  · obtain ⟨rfl, hk9⟩ := hxp
    refine vx_catch (name := "java/lang/IllegalArgumentException") hown [] ⟨0, 12, 15, 13⟩ [] (by rw [htb]; rfl) (fun z hz => absurd hz List.not_mem_nil) (by decide) (by decide) (hts (.classLink RL 13 "java/lang/IllegalArgumentException") (by decide +kernel)) (va_tabs rfl rfl hE.2.2.1.2.2.2.1) hc1 hc2 hc3 ?_
    refine lv_astore (lv' := [(5, .ref q9), (0, .ref x), (1, .int id), (2, .int b), (3, .int v), (4, .ref o)]) hx hb dL_write_15 hl (by decide) rfl (fun ls hl => ?_)
    refine lv_iconst (v := 1) hx hb dL_write_17 (by decide) ?_
    refine W.widen (k := 1) (n := 6) (Nat.le_of_ble_eq_true rfl) (Nat.le_of_ble_eq_true rfl) ?_
    exact W.iret (v := 1) hx hb hr (fun t ht hW => ⟨⟨1, S, rfl, Or.inr ⟨rfl, hk9, rfl⟩, by rw [ht]; exact hP, va_K.moved hW.alike hK, hD⟩, hS.F ht⟩) hS.2.2 dL_write_18
  · skip
    refine lv_i2l hx hb dL_write_10 rfl ?_
    refine lv_topl (fun v1 ev1 => ?_)
    refine zlast (x := v1) hx hb hK hP hD hS ho hol (by unfold vp_in; decide) dL_write_11 (fun H locs hP hD hS => ?_)
    rw [show (0 : Int32).toNatClampNeg = 0 from rfl] at hP hD
    refine lv_goto (tgt := 19) hx hb dL_write_12 (by decide) ?_
    refine lv_iconst (v := 0) hx hb dL_write_19 (by decide) ?_
    refine W.widen (k := 1) (n := 6) (Nat.le_of_ble_eq_true rfl) (Nat.le_of_ble_eq_true rfl) ?_
    exact W.iret (v := 0) hx hb hr (fun t ht hW => ⟨⟨0, (zpj S1 o 0 v1), rfl, Or.inl ⟨rfl, r1, S1, v1, hw, rfl, ev1⟩, by rw [ht]; exact hP, va_K.moved hW.alike hK, hD⟩, hS.F ht⟩) hS.2.2 dL_write_20
set_option maxHeartbeats 4000000 in
set_option maxRecDepth 100000 in
theorem w_L_disturb (l : Launch) (hlt : l.stackTraces = false) (dC : Nat → ClassId) (dI : Nat → Nat → Nat) (cy : Nat → ClassId) (G : zG) (S : zS) (sz : Nat) (x f n sc ia na d ka va : Nat) (b v : Int32) (hX : zX G S x f n sc ia na d ka va)  : Met l yL_disturb wsL_disturb ({ frames := 7, cells := 1, slots := 6, locals := 104 }) (zPy dC dI cy [.ref x, .int b, .int v] G S sz) (va_Qi (fun (k9 : Int32) S' => (k9 = 0 ∧ (kDist b v (S.1 d 2) = 0 ∧ zSt G S S')) ∨ (k9 = 1 ∧ (kDist b v (S.1 d 2) = 1) ∧ S' = S) ∨ (k9 = 2 ∧ (kDist b v (S.1 d 2) = 2) ∧ S' = S)) (zB dC dI cy (zA cy G S sz) G) (zA cy G S sz)) 1 6 (zA cy G S sz) := by
  refine va_MetW (cc := cL_disturb) (maxL := 4) (ret := (some .int)) (hh := [(0, 6, 9, 13), (0, 6, 12, 15)]) (by decide) rfl ?_
  intro p e s m args below meth c s₁ B hml hv
  obtain ⟨rfl, ⟨⟨hsz, hP, hK, hD0, hN⟩, hE⟩, hNc⟩ := hv
  have hx := B.exec
  have hb := B.bytes
  have hr := B.returns
  have hts := atoms_spec (ws := wsL_disturb) B.pre
  have hown : s.vm.findClass RL = some m.cls := findClass_of_methodNamed B.named
  have hlocks := B.notSynchronized
  have htb := vx_table (x := yL_disturb) B (hts _ List.mem_cons_self)
  subst hsz
  have hD : va_D (zA cy G S s.heap.size) (zW cy G S) := hD0.self
  generalize hAe : zA cy G S s.heap.size = A at hD hE ⊢
  have hA : ∀ q : Nat, s.heap.size ≤ q → A q := fun q h => by rw [← hAe]; exact Or.inr h
  have hS : va_S A s.heap s.heap [] := va_S.rf
  have hl := lv_entry ([.ref x, .int b, .int v]) (n := 4) (Nat.le_of_ble_eq_true rfl)
  rw [lg_entry_eq]
  generalize (lg_sl ([.ref x, .int b, .int v]) ++ List.replicate (4 - (lg_sl ([.ref x, .int b, .int v])).length) Slot.unset).toArray = ls at hl ⊢
  have hl : lv_has ls 4 [(0, .ref x), (1, .int b), (2, .int v)] := hl
  refine lv_aload_n hx hb dL_disturb_0 rfl (lv_at hl 0 rfl) ?_
  refine lv_iload_n hx hb dL_disturb_1 rfl (lv_at hl 1 rfl) ?_
  refine lv_iload_n hx hb dL_disturb_2 rfl (lv_at hl 2 rfl) ?_
  refine zcallXv (vx_runV (As := [.int b, .int v]) (rest := []) ⟨hx, hb, hml, hown, hts⟩ (x_X6_disturb l hlt dC dI cy G S s.heap.size x f n sc ia na d ka va b v hX) (cwV 2 hts gL_disturb_X6_disturb rfl rfl rfl (by decide +kernel) ⟨Nat.le_of_ble_eq_true rfl, Nat.le_of_ble_eq_true rfl⟩) (zpreVx hK hP hD hN hE hS hA (zrecv6 hK hP hX.1)) rfl rfl hl.1 rfl (lv_room (Nat.le_of_ble_eq_true rfl)) dL_disturb_3 ⟨Nat.le_of_ble_eq_true rfl, Nat.le_of_ble_eq_true rfl⟩) hS hD hA (fun E ce q9 H locs hxp hP hD hS hc1 hc2 hc3 => ?_) (fun S1 H locs hw hP hD hS => ?_)
  · rcases hxp with ⟨rfl, hk9⟩ | ⟨rfl, hk9⟩
    · skip
      refine vx_catch (name := "java/lang/IllegalArgumentException") hown [] ⟨0, 6, 9, 13⟩ [⟨0, 6, 12, 15⟩] (by rw [htb]; rfl) (fun z hz => absurd hz List.not_mem_nil) (by decide) (by decide) (hts (.classLink RL 13 "java/lang/IllegalArgumentException") (by decide +kernel)) (va_tabs rfl rfl hE.2.2.1.2.2.2.1) hc1 hc2 hc3 ?_
      refine lv_astore_n (lv' := [(3, .ref q9), (0, .ref x), (1, .int b), (2, .int v)]) hx hb dL_disturb_9 rfl hl (by decide) rfl (fun ls hl => ?_)
      refine lv_iconst (v := 1) hx hb dL_disturb_10 (by decide) ?_
      refine W.widen (k := 1) (n := 6) (Nat.le_of_ble_eq_true rfl) (Nat.le_of_ble_eq_true rfl) ?_
      exact W.iret (v := 1) hx hb hr (fun t ht hW => ⟨⟨1, S, rfl, Or.inr (Or.inl ⟨rfl, hk9, rfl⟩), by rw [ht]; exact hP, va_K.moved hW.alike hK, hD⟩, hS.F ht⟩) hS.2.2 dL_disturb_11
    · skip
      refine vx_catch (name := "java/lang/IllegalStateException") hown [⟨0, 6, 9, 13⟩] ⟨0, 6, 12, 15⟩ [] (by rw [htb]; rfl) (fun z hz => by rw [List.mem_singleton.mp hz]; exact Or.inr ⟨by decide, "java/lang/IllegalArgumentException", hts (.classLink RL 13 "java/lang/IllegalArgumentException") (by decide +kernel), hNc⟩) (by decide) (by decide) (hts (.classLink RL 15 "java/lang/IllegalStateException") (by decide +kernel)) (va_tabs rfl rfl hE.2.2.1.2.2.2.2) hc1 hc2 hc3 ?_
      refine lv_astore_n (lv' := [(3, .ref q9), (0, .ref x), (1, .int b), (2, .int v)]) hx hb dL_disturb_12 rfl hl (by decide) rfl (fun ls hl => ?_)
      refine lv_iconst (v := 2) hx hb dL_disturb_13 (by decide) ?_
      refine W.widen (k := 1) (n := 6) (Nat.le_of_ble_eq_true rfl) (Nat.le_of_ble_eq_true rfl) ?_
      exact W.iret (v := 2) hx hb hr (fun t ht hW => ⟨⟨2, S, rfl, Or.inr (Or.inr ⟨rfl, hk9, rfl⟩), by rw [ht]; exact hP, va_K.moved hW.alike hK, hD⟩, hS.F ht⟩) hS.2.2 dL_disturb_14
  · skip
    refine lv_goto (tgt := 15) hx hb dL_disturb_6 (by decide) ?_
    refine lv_iconst (v := 0) hx hb dL_disturb_15 (by decide) ?_
    refine W.widen (k := 1) (n := 6) (Nat.le_of_ble_eq_true rfl) (Nat.le_of_ble_eq_true rfl) ?_
    exact W.iret (v := 0) hx hb hr (fun t ht hW => ⟨⟨0, S1, rfl, Or.inl ⟨rfl, hw⟩, by rw [ht]; exact hP, va_K.moved hW.alike hK, hD⟩, hS.F ht⟩) hS.2.2 dL_disturb_16
set_option maxHeartbeats 4000000 in
set_option maxRecDepth 100000 in
theorem w_L_wake (l : Launch) (hlt : l.stackTraces = false) (dC : Nat → ClassId) (dI : Nat → Nat → Nat) (cy : Nat → ClassId) (G : zG) (S : zS) (sz : Nat) (x f n sc ia na d ka va : Nat) (v : Int32) (hX : zX G S x f n sc ia na d ka va)  : Met l yL_wake wsL_wake ({ frames := 7, cells := 1, slots := 6, locals := 103 }) (zPy dC dI cy [.ref x, .int v] G S sz) (va_Qi (fun (k9 : Int32) S' => (k9 = 0 ∧ (kWake v = 0 ∧ zSt G S S')) ∨ (k9 = 1 ∧ (kWake v = 1) ∧ S' = S)) (zB dC dI cy (zA cy G S sz) G) (zA cy G S sz)) 1 6 (zA cy G S sz) := by
  refine va_MetW (cc := cL_wake) (maxL := 3) (ret := (some .int)) (hh := [(0, 5, 8, 13)]) (by decide) rfl ?_
  intro p e s m args below meth c s₁ B hml hv
  obtain ⟨rfl, ⟨⟨hsz, hP, hK, hD0, hN⟩, hE⟩, hNc⟩ := hv
  have hx := B.exec
  have hb := B.bytes
  have hr := B.returns
  have hts := atoms_spec (ws := wsL_wake) B.pre
  have hown : s.vm.findClass RL = some m.cls := findClass_of_methodNamed B.named
  have hlocks := B.notSynchronized
  have htb := vx_table (x := yL_wake) B (hts _ List.mem_cons_self)
  subst hsz
  have hD : va_D (zA cy G S s.heap.size) (zW cy G S) := hD0.self
  generalize hAe : zA cy G S s.heap.size = A at hD hE ⊢
  have hA : ∀ q : Nat, s.heap.size ≤ q → A q := fun q h => by rw [← hAe]; exact Or.inr h
  have hS : va_S A s.heap s.heap [] := va_S.rf
  have hl := lv_entry ([.ref x, .int v]) (n := 3) (Nat.le_of_ble_eq_true rfl)
  rw [lg_entry_eq]
  generalize (lg_sl ([.ref x, .int v]) ++ List.replicate (3 - (lg_sl ([.ref x, .int v])).length) Slot.unset).toArray = ls at hl ⊢
  have hl : lv_has ls 3 [(0, .ref x), (1, .int v)] := hl
  refine lv_aload_n hx hb dL_wake_0 rfl (lv_at hl 0 rfl) ?_
  refine lv_iload_n hx hb dL_wake_1 rfl (lv_at hl 1 rfl) ?_
  refine zcallXv (vx_runV (As := [.int v]) (rest := []) ⟨hx, hb, hml, hown, hts⟩ (x_X6_wake l hlt dC dI cy G S s.heap.size x f n sc ia na d ka va v hX) (cwV 1 hts gL_wake_X6_wake rfl rfl rfl (by decide +kernel) ⟨Nat.le_of_ble_eq_true rfl, Nat.le_of_ble_eq_true rfl⟩) (zpreVx hK hP hD hN hE hS hA (zrecv6 hK hP hX.1)) rfl rfl hl.1 rfl (lv_room (Nat.le_of_ble_eq_true rfl)) dL_wake_2 ⟨Nat.le_of_ble_eq_true rfl, Nat.le_of_ble_eq_true rfl⟩) hS hD hA (fun E ce q9 H locs hxp hP hD hS hc1 hc2 hc3 => ?_) (fun S1 H locs hw hP hD hS => ?_)
  · obtain ⟨rfl, hk9⟩ := hxp
    refine vx_catch (name := "java/lang/IllegalArgumentException") hown [] ⟨0, 5, 8, 13⟩ [] (by rw [htb]; rfl) (fun z hz => absurd hz List.not_mem_nil) (by decide) (by decide) (hts (.classLink RL 13 "java/lang/IllegalArgumentException") (by decide +kernel)) (va_tabs rfl rfl hE.2.2.1.2.2.2.1) hc1 hc2 hc3 ?_
    refine lv_astore_n (lv' := [(2, .ref q9), (0, .ref x), (1, .int v)]) hx hb dL_wake_8 rfl hl (by decide) rfl (fun ls hl => ?_)
    refine lv_iconst (v := 1) hx hb dL_wake_9 (by decide) ?_
    refine W.widen (k := 1) (n := 6) (Nat.le_of_ble_eq_true rfl) (Nat.le_of_ble_eq_true rfl) ?_
    exact W.iret (v := 1) hx hb hr (fun t ht hW => ⟨⟨1, S, rfl, Or.inr ⟨rfl, hk9, rfl⟩, by rw [ht]; exact hP, va_K.moved hW.alike hK, hD⟩, hS.F ht⟩) hS.2.2 dL_wake_10
  · skip
    refine lv_goto (tgt := 11) hx hb dL_wake_5 (by decide) ?_
    refine lv_iconst (v := 0) hx hb dL_wake_11 (by decide) ?_
    refine W.widen (k := 1) (n := 6) (Nat.le_of_ble_eq_true rfl) (Nat.le_of_ble_eq_true rfl) ?_
    exact W.iret (v := 0) hx hb hr (fun t ht hW => ⟨⟨0, S1, rfl, Or.inl ⟨rfl, hw⟩, by rw [ht]; exact hP, va_K.moved hW.alike hK, hD⟩, hS.F ht⟩) hS.2.2 dL_wake_12
set_option maxHeartbeats 4000000 in
set_option maxRecDepth 100000 in
theorem w_L_run (l : Launch) (hlt : l.stackTraces = false) (dC : Nat → ClassId) (dI : Nat → Nat → Nat) (cy : Nat → ClassId) (G : zG) (S : zS) (sz : Nat) (x f n sc ia na d ka va : Nat) (v : Int32) (o : Nat) (hX : zX G S x f n sc ia na d ka va)  (ho : zO G o 9) (hol : G.2.2 o = 1) : Met l yL_run wsL_run ({ frames := 7, cells := 1, slots := 6, locals := 163 }) (zPy dC dI cy [.ref x, .int v, .ref o] G S sz) (va_Qi (fun (k9 : Int32) S' => (k9 = 0 ∧ (∃ (r : Int32) (T9 : zS) (w : Int64), (kRun (S.1 x 4) v = 0 ∧ zSu G x S T9 ∧ zX G T9 x f n sc ia na d ka va ∧ T9.1 x 4 = S.1 x 4 + v ∧ r = T9.1 x 4) ∧ S' = zpj T9 o 0 w ∧ w = r.toInt64)) ∨ (k9 = 1 ∧ (kRun (S.1 x 4) v = 1) ∧ S' = S) ∨ (k9 = 2 ∧ (kRun (S.1 x 4) v = 2) ∧ S' = S)) (zB dC dI cy (zA cy G S sz) G) (zA cy G S sz)) 1 6 (zA cy G S sz) := by
  refine va_MetW (cc := cL_run) (maxL := 4) (ret := (some .int)) (hh := [(0, 9, 12, 13), (0, 9, 15, 15)]) (by decide) rfl ?_
  intro p e s m args below meth c s₁ B hml hv
  obtain ⟨rfl, ⟨⟨hsz, hP, hK, hD0, hN⟩, hE⟩, hNc⟩ := hv
  have hx := B.exec
  have hb := B.bytes
  have hr := B.returns
  have hts := atoms_spec (ws := wsL_run) B.pre
  have hown : s.vm.findClass RL = some m.cls := findClass_of_methodNamed B.named
  have hlocks := B.notSynchronized
  have htb := vx_table (x := yL_run) B (hts _ List.mem_cons_self)
  subst hsz
  have hD : va_D (zA cy G S s.heap.size) (zW cy G S) := hD0.self
  generalize hAe : zA cy G S s.heap.size = A at hD hE ⊢
  have hA : ∀ q : Nat, s.heap.size ≤ q → A q := fun q h => by rw [← hAe]; exact Or.inr h
  have hS : va_S A s.heap s.heap [] := va_S.rf
  have hl := lv_entry ([.ref x, .int v, .ref o]) (n := 4) (Nat.le_of_ble_eq_true rfl)
  rw [lg_entry_eq]
  generalize (lg_sl ([.ref x, .int v, .ref o]) ++ List.replicate (4 - (lg_sl ([.ref x, .int v, .ref o])).length) Slot.unset).toArray = ls at hl ⊢
  have hl : lv_has ls 4 [(0, .ref x), (1, .int v), (2, .ref o)] := hl
  refine lv_aload_n hx hb dL_run_0 rfl (lv_at hl 2 rfl) ?_
  refine lv_iconst (v := 0) hx hb dL_run_1 (by decide) ?_
  refine lv_aload_n hx hb dL_run_2 rfl (lv_at hl 0 rfl) ?_
  refine lv_iload_n hx hb dL_run_3 rfl (lv_at hl 1 rfl) ?_
  refine zcallXi (vx_runV (As := [.int v]) (rest := [.int 0, .ref o]) ⟨hx, hb, hml, hown, hts⟩ (x_X6_run l hlt dC dI cy G S s.heap.size x f n sc ia na d ka va v hX) (cwV 1 hts gL_run_X6_run rfl rfl rfl (by decide +kernel) ⟨Nat.le_of_ble_eq_true rfl, Nat.le_of_ble_eq_true rfl⟩) (zpreVx hK hP hD hN hE hS hA (zrecv6 hK hP hX.1)) rfl rfl hl.1 rfl (lv_room (Nat.le_of_ble_eq_true rfl)) dL_run_4 ⟨Nat.le_of_ble_eq_true rfl, Nat.le_of_ble_eq_true rfl⟩) hS hD hA (fun E ce q9 H locs hxp hP hD hS hc1 hc2 hc3 => ?_) (fun r1 S1 H locs hw hP hD hS => ?_)
  · rcases hxp with ⟨rfl, hk9⟩ | ⟨rfl, hk9⟩
    · skip
      refine vx_catch (name := "java/lang/IllegalArgumentException") hown [] ⟨0, 9, 12, 13⟩ [⟨0, 9, 15, 15⟩] (by rw [htb]; rfl) (fun z hz => absurd hz List.not_mem_nil) (by decide) (by decide) (hts (.classLink RL 13 "java/lang/IllegalArgumentException") (by decide +kernel)) (va_tabs rfl rfl hE.2.2.1.2.2.2.1) hc1 hc2 hc3 ?_
      refine lv_astore_n (lv' := [(3, .ref q9), (0, .ref x), (1, .int v), (2, .ref o)]) hx hb dL_run_12 rfl hl (by decide) rfl (fun ls hl => ?_)
      refine lv_iconst (v := 1) hx hb dL_run_13 (by decide) ?_
      refine W.widen (k := 1) (n := 6) (Nat.le_of_ble_eq_true rfl) (Nat.le_of_ble_eq_true rfl) ?_
      exact W.iret (v := 1) hx hb hr (fun t ht hW => ⟨⟨1, S, rfl, Or.inr (Or.inl ⟨rfl, hk9, rfl⟩), by rw [ht]; exact hP, va_K.moved hW.alike hK, hD⟩, hS.F ht⟩) hS.2.2 dL_run_14
    · skip
      refine vx_catch (name := "java/lang/IllegalStateException") hown [⟨0, 9, 12, 13⟩] ⟨0, 9, 15, 15⟩ [] (by rw [htb]; rfl) (fun z hz => by rw [List.mem_singleton.mp hz]; exact Or.inr ⟨by decide, "java/lang/IllegalArgumentException", hts (.classLink RL 13 "java/lang/IllegalArgumentException") (by decide +kernel), hNc⟩) (by decide) (by decide) (hts (.classLink RL 15 "java/lang/IllegalStateException") (by decide +kernel)) (va_tabs rfl rfl hE.2.2.1.2.2.2.2) hc1 hc2 hc3 ?_
      refine lv_astore_n (lv' := [(3, .ref q9), (0, .ref x), (1, .int v), (2, .ref o)]) hx hb dL_run_15 rfl hl (by decide) rfl (fun ls hl => ?_)
      refine lv_iconst (v := 2) hx hb dL_run_16 (by decide) ?_
      refine W.widen (k := 1) (n := 6) (Nat.le_of_ble_eq_true rfl) (Nat.le_of_ble_eq_true rfl) ?_
      exact W.iret (v := 2) hx hb hr (fun t ht hW => ⟨⟨2, S, rfl, Or.inr (Or.inr ⟨rfl, hk9, rfl⟩), by rw [ht]; exact hP, va_K.moved hW.alike hK, hD⟩, hS.F ht⟩) hS.2.2 dL_run_17
  · skip
    refine lv_i2l hx hb dL_run_7 rfl ?_
    refine lv_topl (fun v1 ev1 => ?_)
    refine zlast (x := v1) hx hb hK hP hD hS ho hol (by unfold vp_in; decide) dL_run_8 (fun H locs hP hD hS => ?_)
    rw [show (0 : Int32).toNatClampNeg = 0 from rfl] at hP hD
    refine lv_goto (tgt := 18) hx hb dL_run_9 (by decide) ?_
    refine lv_iconst (v := 0) hx hb dL_run_18 (by decide) ?_
    refine W.widen (k := 1) (n := 6) (Nat.le_of_ble_eq_true rfl) (Nat.le_of_ble_eq_true rfl) ?_
    exact W.iret (v := 0) hx hb hr (fun t ht hW => ⟨⟨0, (zpj S1 o 0 v1), rfl, Or.inl ⟨rfl, r1, S1, v1, hw, rfl, ev1⟩, by rw [ht]; exact hP, va_K.moved hW.alike hK, hD⟩, hS.F ht⟩) hS.2.2 dL_run_19
set_option maxHeartbeats 4000000 in
set_option maxRecDepth 100000 in
theorem w_L_byteAt (l : Launch) (hlt : l.stackTraces = false) (dC : Nat → ClassId) (dI : Nat → Nat → Nat) (cy : Nat → ClassId) (G : zG) (S : zS) (sz : Nat) (x f n sc ia na d ka va : Nat) (v id b : Int32) (o : Nat) (hX : zX G S x f n sc ia na d ka va)  (ho : zO G o 9) (hol : G.2.2 o = 1) : Met l yL_byteAt wsL_byteAt ({ frames := 7, cells := 1, slots := 6, locals := 106 }) (zPy dC dI cy [.ref x, .int v, .int id, .int b, .ref o] G S sz) (va_Qi (fun (k9 : Int32) S' => (k9 = 0 ∧ (∃ (r : Int32) (T9 : zS) (w : Int64), (T9 = S ∧ ∃ y, zfo S f id (some y)) ∧ S' = zpj T9 o 0 w ∧ w = r.toInt64)) ∨ (k9 = 1 ∧ (True) ∧ S' = S)) (zB dC dI cy (zA cy G S sz) G) (zA cy G S sz)) 1 6 (zA cy G S sz) := by
  refine va_MetW (cc := cL_byteAt) (maxL := 6) (ret := (some .int)) (hh := [(0, 12, 15, 13)]) (by decide) rfl ?_
  intro p e s m args below meth c s₁ B hml hv
  obtain ⟨rfl, ⟨⟨hsz, hP, hK, hD0, hN⟩, hE⟩, hNc⟩ := hv
  have hx := B.exec
  have hb := B.bytes
  have hr := B.returns
  have hts := atoms_spec (ws := wsL_byteAt) B.pre
  have hown : s.vm.findClass RL = some m.cls := findClass_of_methodNamed B.named
  have hlocks := B.notSynchronized
  have htb := vx_table (x := yL_byteAt) B (hts _ List.mem_cons_self)
  subst hsz
  have hD : va_D (zA cy G S s.heap.size) (zW cy G S) := hD0.self
  generalize hAe : zA cy G S s.heap.size = A at hD hE ⊢
  have hA : ∀ q : Nat, s.heap.size ≤ q → A q := fun q h => by rw [← hAe]; exact Or.inr h
  have hS : va_S A s.heap s.heap [] := va_S.rf
  have hl := lv_entry ([.ref x, .int v, .int id, .int b, .ref o]) (n := 6) (Nat.le_of_ble_eq_true rfl)
  rw [lg_entry_eq]
  generalize (lg_sl ([.ref x, .int v, .int id, .int b, .ref o]) ++ List.replicate (6 - (lg_sl ([.ref x, .int v, .int id, .int b, .ref o])).length) Slot.unset).toArray = ls at hl ⊢
  have hl : lv_has ls 6 [(0, .ref x), (1, .int v), (2, .int id), (3, .int b), (4, .ref o)] := hl
  refine lv_aload hx hb dL_byteAt_0 (lv_at hl 4 rfl) ?_
  refine lv_iconst (v := 0) hx hb dL_byteAt_2 (by decide) ?_
  refine lv_aload_n hx hb dL_byteAt_3 rfl (lv_at hl 0 rfl) ?_
  refine lv_iload_n hx hb dL_byteAt_4 rfl (lv_at hl 1 rfl) ?_
  refine lv_iload_n hx hb dL_byteAt_5 rfl (lv_at hl 2 rfl) ?_
  refine lv_iload_n hx hb dL_byteAt_6 rfl (lv_at hl 3 rfl) ?_
  refine zcallXi (vx_runV (As := [.int v, .int id, .int b]) (rest := [.int 0, .ref o]) ⟨hx, hb, hml, hown, hts⟩ (x_X6_byteAt l hlt dC dI cy G S s.heap.size x f n sc ia na d ka va v id b hX) (cwV 3 hts gL_byteAt_X6_byteAt rfl rfl rfl (by decide +kernel) ⟨Nat.le_of_ble_eq_true rfl, Nat.le_of_ble_eq_true rfl⟩) (zpreVx hK hP hD hN hE hS hA (zrecv6 hK hP hX.1)) rfl rfl hl.1 rfl (lv_room (Nat.le_of_ble_eq_true rfl)) dL_byteAt_7 ⟨Nat.le_of_ble_eq_true rfl, Nat.le_of_ble_eq_true rfl⟩) hS hD hA (fun E ce q9 H locs hxp hP hD hS hc1 hc2 hc3 => ?_) (fun r1 S1 H locs hw hP hD hS => ?_)
  · obtain rfl := hxp
    refine vx_catch (name := "java/lang/IllegalArgumentException") hown [] ⟨0, 12, 15, 13⟩ [] (by rw [htb]; rfl) (fun z hz => absurd hz List.not_mem_nil) (by decide) (by decide) (hts (.classLink RL 13 "java/lang/IllegalArgumentException") (by decide +kernel)) (va_tabs rfl rfl hE.2.2.1.2.2.2.1) hc1 hc2 hc3 ?_
    refine lv_astore (lv' := [(5, .ref q9), (0, .ref x), (1, .int v), (2, .int id), (3, .int b), (4, .ref o)]) hx hb dL_byteAt_15 hl (by decide) rfl (fun ls hl => ?_)
    refine lv_iconst (v := 1) hx hb dL_byteAt_17 (by decide) ?_
    refine W.widen (k := 1) (n := 6) (Nat.le_of_ble_eq_true rfl) (Nat.le_of_ble_eq_true rfl) ?_
    exact W.iret (v := 1) hx hb hr (fun t ht hW => ⟨⟨1, S, rfl, Or.inr ⟨rfl, trivial, rfl⟩, by rw [ht]; exact hP, va_K.moved hW.alike hK, hD⟩, hS.F ht⟩) hS.2.2 dL_byteAt_18
  · skip
    refine lv_i2l hx hb dL_byteAt_10 rfl ?_
    refine lv_topl (fun v1 ev1 => ?_)
    refine zlast (x := v1) hx hb hK hP hD hS ho hol (by unfold vp_in; decide) dL_byteAt_11 (fun H locs hP hD hS => ?_)
    rw [show (0 : Int32).toNatClampNeg = 0 from rfl] at hP hD
    refine lv_goto (tgt := 19) hx hb dL_byteAt_12 (by decide) ?_
    refine lv_iconst (v := 0) hx hb dL_byteAt_19 (by decide) ?_
    refine W.widen (k := 1) (n := 6) (Nat.le_of_ble_eq_true rfl) (Nat.le_of_ble_eq_true rfl) ?_
    exact W.iret (v := 0) hx hb hr (fun t ht hW => ⟨⟨0, (zpj S1 o 0 v1), rfl, Or.inl ⟨rfl, r1, S1, v1, hw, rfl, ev1⟩, by rw [ht]; exact hP, va_K.moved hW.alike hK, hD⟩, hS.F ht⟩) hS.2.2 dL_byteAt_20
set_option maxHeartbeats 4000000 in
set_option maxRecDepth 100000 in
theorem w_L_taken (l : Launch) (hlt : l.stackTraces = false) (dC : Nat → ClassId) (dI : Nat → Nat → Nat) (cy : Nat → ClassId) (G : zG) (S : zS) (sz : Nat) (x f n sc ia na d ka va : Nat) (v id : Int32) (o : Nat) (hX : zX G S x f n sc ia na d ka va)  (ho : zO G o 9) (hol : G.2.2 o = 1) : Met l yL_taken wsL_taken ({ frames := 7, cells := 1, slots := 6, locals := 105 }) (zPy dC dI cy [.ref x, .int v, .int id, .ref o] G S sz) (va_Qi (fun (k9 : Int32) S' => (k9 = 0 ∧ (∃ (r : Int32) (T9 : zS) (w : Int64), (T9 = S ∧ ∃ y, zfo S f id (some y)) ∧ S' = zpj T9 o 0 w ∧ w = r.toInt64)) ∨ (k9 = 1 ∧ (True) ∧ S' = S)) (zB dC dI cy (zA cy G S sz) G) (zA cy G S sz)) 1 6 (zA cy G S sz) := by
  refine va_MetW (cc := cL_taken) (maxL := 5) (ret := (some .int)) (hh := [(0, 10, 13, 13)]) (by decide) rfl ?_
  intro p e s m args below meth c s₁ B hml hv
  obtain ⟨rfl, ⟨⟨hsz, hP, hK, hD0, hN⟩, hE⟩, hNc⟩ := hv
  have hx := B.exec
  have hb := B.bytes
  have hr := B.returns
  have hts := atoms_spec (ws := wsL_taken) B.pre
  have hown : s.vm.findClass RL = some m.cls := findClass_of_methodNamed B.named
  have hlocks := B.notSynchronized
  have htb := vx_table (x := yL_taken) B (hts _ List.mem_cons_self)
  subst hsz
  have hD : va_D (zA cy G S s.heap.size) (zW cy G S) := hD0.self
  generalize hAe : zA cy G S s.heap.size = A at hD hE ⊢
  have hA : ∀ q : Nat, s.heap.size ≤ q → A q := fun q h => by rw [← hAe]; exact Or.inr h
  have hS : va_S A s.heap s.heap [] := va_S.rf
  have hl := lv_entry ([.ref x, .int v, .int id, .ref o]) (n := 5) (Nat.le_of_ble_eq_true rfl)
  rw [lg_entry_eq]
  generalize (lg_sl ([.ref x, .int v, .int id, .ref o]) ++ List.replicate (5 - (lg_sl ([.ref x, .int v, .int id, .ref o])).length) Slot.unset).toArray = ls at hl ⊢
  have hl : lv_has ls 5 [(0, .ref x), (1, .int v), (2, .int id), (3, .ref o)] := hl
  refine lv_aload_n hx hb dL_taken_0 rfl (lv_at hl 3 rfl) ?_
  refine lv_iconst (v := 0) hx hb dL_taken_1 (by decide) ?_
  refine lv_aload_n hx hb dL_taken_2 rfl (lv_at hl 0 rfl) ?_
  refine lv_iload_n hx hb dL_taken_3 rfl (lv_at hl 1 rfl) ?_
  refine lv_iload_n hx hb dL_taken_4 rfl (lv_at hl 2 rfl) ?_
  refine zcallXi (vx_runV (As := [.int v, .int id]) (rest := [.int 0, .ref o]) ⟨hx, hb, hml, hown, hts⟩ (x_X6_taken l hlt dC dI cy G S s.heap.size x f n sc ia na d ka va v id hX) (cwV 2 hts gL_taken_X6_taken rfl rfl rfl (by decide +kernel) ⟨Nat.le_of_ble_eq_true rfl, Nat.le_of_ble_eq_true rfl⟩) (zpreVx hK hP hD hN hE hS hA (zrecv6 hK hP hX.1)) rfl rfl hl.1 rfl (lv_room (Nat.le_of_ble_eq_true rfl)) dL_taken_5 ⟨Nat.le_of_ble_eq_true rfl, Nat.le_of_ble_eq_true rfl⟩) hS hD hA (fun E ce q9 H locs hxp hP hD hS hc1 hc2 hc3 => ?_) (fun r1 S1 H locs hw hP hD hS => ?_)
  · obtain rfl := hxp
    refine vx_catch (name := "java/lang/IllegalArgumentException") hown [] ⟨0, 10, 13, 13⟩ [] (by rw [htb]; rfl) (fun z hz => absurd hz List.not_mem_nil) (by decide) (by decide) (hts (.classLink RL 13 "java/lang/IllegalArgumentException") (by decide +kernel)) (va_tabs rfl rfl hE.2.2.1.2.2.2.1) hc1 hc2 hc3 ?_
    refine lv_astore (lv' := [(4, .ref q9), (0, .ref x), (1, .int v), (2, .int id), (3, .ref o)]) hx hb dL_taken_13 hl (by decide) rfl (fun ls hl => ?_)
    refine lv_iconst (v := 1) hx hb dL_taken_15 (by decide) ?_
    refine W.widen (k := 1) (n := 6) (Nat.le_of_ble_eq_true rfl) (Nat.le_of_ble_eq_true rfl) ?_
    exact W.iret (v := 1) hx hb hr (fun t ht hW => ⟨⟨1, S, rfl, Or.inr ⟨rfl, trivial, rfl⟩, by rw [ht]; exact hP, va_K.moved hW.alike hK, hD⟩, hS.F ht⟩) hS.2.2 dL_taken_16
  · skip
    refine lv_i2l hx hb dL_taken_8 rfl ?_
    refine lv_topl (fun v1 ev1 => ?_)
    refine zlast (x := v1) hx hb hK hP hD hS ho hol (by unfold vp_in; decide) dL_taken_9 (fun H locs hP hD hS => ?_)
    rw [show (0 : Int32).toNatClampNeg = 0 from rfl] at hP hD
    refine lv_goto (tgt := 17) hx hb dL_taken_10 (by decide) ?_
    refine lv_iconst (v := 0) hx hb dL_taken_17 (by decide) ?_
    refine W.widen (k := 1) (n := 6) (Nat.le_of_ble_eq_true rfl) (Nat.le_of_ble_eq_true rfl) ?_
    exact W.iret (v := 0) hx hb hr (fun t ht hW => ⟨⟨0, (zpj S1 o 0 v1), rfl, Or.inl ⟨rfl, r1, S1, v1, hw, rfl, ev1⟩, by rw [ht]; exact hP, va_K.moved hW.alike hK, hD⟩, hS.F ht⟩) hS.2.2 dL_taken_18
set_option maxHeartbeats 4000000 in
set_option maxRecDepth 100000 in
theorem w_L_told (l : Launch) (hlt : l.stackTraces = false) (dC : Nat → ClassId) (dI : Nat → Nat → Nat) (cy : Nat → ClassId) (G : zG) (S : zS) (sz : Nat) (x f n sc ia na d ka va : Nat) (v k : Int32) (o : Nat) (hX : zX G S x f n sc ia na d ka va)  (ho : zO G o 9) (hol : G.2.2 o = 1) : Met l yL_told wsL_told ({ frames := 7, cells := 1, slots := 6, locals := 104 }) (zPy dC dI cy [.ref x, .int v, .int k, .ref o] G S sz) (va_Qi (fun (k9 : Int32) S' => (k9 = 0 ∧ (∃ (r : Int32) (T9 : zS) (w : Int64), (kTold v k = 0 ∧ T9 = S ∧ ∃ j nd i q, j < 8 ∧ v = nI j ∧ S.2.2 n j = some nd ∧ zNd G S nd i q ∧ r = ztell S nd k) ∧ S' = zpj T9 o 0 w ∧ w = r.toInt64)) ∨ (k9 = 1 ∧ (kTold v k = 1) ∧ S' = S)) (zB dC dI cy (zA cy G S sz) G) (zA cy G S sz)) 1 6 (zA cy G S sz) := by
  refine va_MetW (cc := cL_told) (maxL := 5) (ret := (some .int)) (hh := [(0, 10, 13, 13)]) (by decide) rfl ?_
  intro p e s m args below meth c s₁ B hml hv
  obtain ⟨rfl, ⟨⟨hsz, hP, hK, hD0, hN⟩, hE⟩, hNc⟩ := hv
  have hx := B.exec
  have hb := B.bytes
  have hr := B.returns
  have hts := atoms_spec (ws := wsL_told) B.pre
  have hown : s.vm.findClass RL = some m.cls := findClass_of_methodNamed B.named
  have hlocks := B.notSynchronized
  have htb := vx_table (x := yL_told) B (hts _ List.mem_cons_self)
  subst hsz
  have hD : va_D (zA cy G S s.heap.size) (zW cy G S) := hD0.self
  generalize hAe : zA cy G S s.heap.size = A at hD hE ⊢
  have hA : ∀ q : Nat, s.heap.size ≤ q → A q := fun q h => by rw [← hAe]; exact Or.inr h
  have hS : va_S A s.heap s.heap [] := va_S.rf
  have hl := lv_entry ([.ref x, .int v, .int k, .ref o]) (n := 5) (Nat.le_of_ble_eq_true rfl)
  rw [lg_entry_eq]
  generalize (lg_sl ([.ref x, .int v, .int k, .ref o]) ++ List.replicate (5 - (lg_sl ([.ref x, .int v, .int k, .ref o])).length) Slot.unset).toArray = ls at hl ⊢
  have hl : lv_has ls 5 [(0, .ref x), (1, .int v), (2, .int k), (3, .ref o)] := hl
  refine lv_aload_n hx hb dL_told_0 rfl (lv_at hl 3 rfl) ?_
  refine lv_iconst (v := 0) hx hb dL_told_1 (by decide) ?_
  refine lv_aload_n hx hb dL_told_2 rfl (lv_at hl 0 rfl) ?_
  refine lv_iload_n hx hb dL_told_3 rfl (lv_at hl 1 rfl) ?_
  refine lv_iload_n hx hb dL_told_4 rfl (lv_at hl 2 rfl) ?_
  refine zcallXi (vx_runV (As := [.int v, .int k]) (rest := [.int 0, .ref o]) ⟨hx, hb, hml, hown, hts⟩ (x_X6_told l hlt dC dI cy G S s.heap.size x f n sc ia na d ka va v k hX) (cwV 2 hts gL_told_X6_told rfl rfl rfl (by decide +kernel) ⟨Nat.le_of_ble_eq_true rfl, Nat.le_of_ble_eq_true rfl⟩) (zpreVx hK hP hD hN hE hS hA (zrecv6 hK hP hX.1)) rfl rfl hl.1 rfl (lv_room (Nat.le_of_ble_eq_true rfl)) dL_told_5 ⟨Nat.le_of_ble_eq_true rfl, Nat.le_of_ble_eq_true rfl⟩) hS hD hA (fun E ce q9 H locs hxp hP hD hS hc1 hc2 hc3 => ?_) (fun r1 S1 H locs hw hP hD hS => ?_)
  · obtain ⟨rfl, hk9⟩ := hxp
    refine vx_catch (name := "java/lang/IllegalArgumentException") hown [] ⟨0, 10, 13, 13⟩ [] (by rw [htb]; rfl) (fun z hz => absurd hz List.not_mem_nil) (by decide) (by decide) (hts (.classLink RL 13 "java/lang/IllegalArgumentException") (by decide +kernel)) (va_tabs rfl rfl hE.2.2.1.2.2.2.1) hc1 hc2 hc3 ?_
    refine lv_astore (lv' := [(4, .ref q9), (0, .ref x), (1, .int v), (2, .int k), (3, .ref o)]) hx hb dL_told_13 hl (by decide) rfl (fun ls hl => ?_)
    refine lv_iconst (v := 1) hx hb dL_told_15 (by decide) ?_
    refine W.widen (k := 1) (n := 6) (Nat.le_of_ble_eq_true rfl) (Nat.le_of_ble_eq_true rfl) ?_
    exact W.iret (v := 1) hx hb hr (fun t ht hW => ⟨⟨1, S, rfl, Or.inr ⟨rfl, hk9, rfl⟩, by rw [ht]; exact hP, va_K.moved hW.alike hK, hD⟩, hS.F ht⟩) hS.2.2 dL_told_16
  · skip
    refine lv_i2l hx hb dL_told_8 rfl ?_
    refine lv_topl (fun v1 ev1 => ?_)
    refine zlast (x := v1) hx hb hK hP hD hS ho hol (by unfold vp_in; decide) dL_told_9 (fun H locs hP hD hS => ?_)
    rw [show (0 : Int32).toNatClampNeg = 0 from rfl] at hP hD
    refine lv_goto (tgt := 17) hx hb dL_told_10 (by decide) ?_
    refine lv_iconst (v := 0) hx hb dL_told_17 (by decide) ?_
    refine W.widen (k := 1) (n := 6) (Nat.le_of_ble_eq_true rfl) (Nat.le_of_ble_eq_true rfl) ?_
    exact W.iret (v := 0) hx hb hr (fun t ht hW => ⟨⟨0, (zpj S1 o 0 v1), rfl, Or.inl ⟨rfl, r1, S1, v1, hw, rfl, ev1⟩, by rw [ht]; exact hP, va_K.moved hW.alike hK, hD⟩, hS.F ht⟩) hS.2.2 dL_told_18
set_option maxHeartbeats 4000000 in
set_option maxRecDepth 100000 in
theorem w_L_count (l : Launch) (hlt : l.stackTraces = false) (dC : Nat → ClassId) (dI : Nat → Nat → Nat) (cy : Nat → ClassId) (G : zG) (S : zS) (sz : Nat) (x f n sc ia na d ka va : Nat) (k : Int32) (o : Nat) (hX : zX G S x f n sc ia na d ka va)  (ho : zO G o 9) (hol : G.2.2 o = 1) : Met l yL_count wsL_count ({ frames := 7, cells := 1, slots := 6, locals := 103 }) (zPy dC dI cy [.ref x, .int k, .ref o] G S sz) (va_Qi (fun (k9 : Int32) S' => (k9 = 0 ∧ (∃ (r : Int32) (T9 : zS) (w : Int64), (kCount k = 0 ∧ T9 = S ∧ r = zcount S x sc d k) ∧ S' = zpj T9 o 0 w ∧ w = r.toInt64)) ∨ (k9 = 1 ∧ (kCount k = 1) ∧ S' = S)) (zB dC dI cy (zA cy G S sz) G) (zA cy G S sz)) 1 6 (zA cy G S sz) := by
  refine va_MetW (cc := cL_count) (maxL := 4) (ret := (some .int)) (hh := [(0, 9, 12, 13)]) (by decide) rfl ?_
  intro p e s m args below meth c s₁ B hml hv
  obtain ⟨rfl, ⟨⟨hsz, hP, hK, hD0, hN⟩, hE⟩, hNc⟩ := hv
  have hx := B.exec
  have hb := B.bytes
  have hr := B.returns
  have hts := atoms_spec (ws := wsL_count) B.pre
  have hown : s.vm.findClass RL = some m.cls := findClass_of_methodNamed B.named
  have hlocks := B.notSynchronized
  have htb := vx_table (x := yL_count) B (hts _ List.mem_cons_self)
  subst hsz
  have hD : va_D (zA cy G S s.heap.size) (zW cy G S) := hD0.self
  generalize hAe : zA cy G S s.heap.size = A at hD hE ⊢
  have hA : ∀ q : Nat, s.heap.size ≤ q → A q := fun q h => by rw [← hAe]; exact Or.inr h
  have hS : va_S A s.heap s.heap [] := va_S.rf
  have hl := lv_entry ([.ref x, .int k, .ref o]) (n := 4) (Nat.le_of_ble_eq_true rfl)
  rw [lg_entry_eq]
  generalize (lg_sl ([.ref x, .int k, .ref o]) ++ List.replicate (4 - (lg_sl ([.ref x, .int k, .ref o])).length) Slot.unset).toArray = ls at hl ⊢
  have hl : lv_has ls 4 [(0, .ref x), (1, .int k), (2, .ref o)] := hl
  refine lv_aload_n hx hb dL_count_0 rfl (lv_at hl 2 rfl) ?_
  refine lv_iconst (v := 0) hx hb dL_count_1 (by decide) ?_
  refine lv_aload_n hx hb dL_count_2 rfl (lv_at hl 0 rfl) ?_
  refine lv_iload_n hx hb dL_count_3 rfl (lv_at hl 1 rfl) ?_
  refine zcallXi (vx_runV (As := [.int k]) (rest := [.int 0, .ref o]) ⟨hx, hb, hml, hown, hts⟩ (x_X6_count l hlt dC dI cy G S s.heap.size x f n sc ia na d ka va k hX) (cwV 1 hts gL_count_X6_count rfl rfl rfl (by decide +kernel) ⟨Nat.le_of_ble_eq_true rfl, Nat.le_of_ble_eq_true rfl⟩) (zpreVx hK hP hD hN hE hS hA (zrecv6 hK hP hX.1)) rfl rfl hl.1 rfl (lv_room (Nat.le_of_ble_eq_true rfl)) dL_count_4 ⟨Nat.le_of_ble_eq_true rfl, Nat.le_of_ble_eq_true rfl⟩) hS hD hA (fun E ce q9 H locs hxp hP hD hS hc1 hc2 hc3 => ?_) (fun r1 S1 H locs hw hP hD hS => ?_)
  · obtain ⟨rfl, hk9⟩ := hxp
    refine vx_catch (name := "java/lang/IllegalArgumentException") hown [] ⟨0, 9, 12, 13⟩ [] (by rw [htb]; rfl) (fun z hz => absurd hz List.not_mem_nil) (by decide) (by decide) (hts (.classLink RL 13 "java/lang/IllegalArgumentException") (by decide +kernel)) (va_tabs rfl rfl hE.2.2.1.2.2.2.1) hc1 hc2 hc3 ?_
    refine lv_astore_n (lv' := [(3, .ref q9), (0, .ref x), (1, .int k), (2, .ref o)]) hx hb dL_count_12 rfl hl (by decide) rfl (fun ls hl => ?_)
    refine lv_iconst (v := 1) hx hb dL_count_13 (by decide) ?_
    refine W.widen (k := 1) (n := 6) (Nat.le_of_ble_eq_true rfl) (Nat.le_of_ble_eq_true rfl) ?_
    exact W.iret (v := 1) hx hb hr (fun t ht hW => ⟨⟨1, S, rfl, Or.inr ⟨rfl, hk9, rfl⟩, by rw [ht]; exact hP, va_K.moved hW.alike hK, hD⟩, hS.F ht⟩) hS.2.2 dL_count_14
  · skip
    refine lv_i2l hx hb dL_count_7 rfl ?_
    refine lv_topl (fun v1 ev1 => ?_)
    refine zlast (x := v1) hx hb hK hP hD hS ho hol (by unfold vp_in; decide) dL_count_8 (fun H locs hP hD hS => ?_)
    rw [show (0 : Int32).toNatClampNeg = 0 from rfl] at hP hD
    refine lv_goto (tgt := 15) hx hb dL_count_9 (by decide) ?_
    refine lv_iconst (v := 0) hx hb dL_count_15 (by decide) ?_
    refine W.widen (k := 1) (n := 6) (Nat.le_of_ble_eq_true rfl) (Nat.le_of_ble_eq_true rfl) ?_
    exact W.iret (v := 0) hx hb hr (fun t ht hW => ⟨⟨0, (zpj S1 o 0 v1), rfl, Or.inl ⟨rfl, r1, S1, v1, hw, rfl, ev1⟩, by rw [ht]; exact hP, va_K.moved hW.alike hK, hD⟩, hS.F ht⟩) hS.2.2 dL_count_16
set_option maxHeartbeats 4000000 in
set_option maxRecDepth 100000 in
theorem w_L_line (l : Launch) (hlt : l.stackTraces = false) (dC : Nat → ClassId) (dI : Nat → Nat → Nat) (cy : Nat → ClassId) (G : zG) (S : zS) (sz : Nat) (x f n sc ia na d ka va : Nat) (b : Int32) (o : Nat) (hX : zX G S x f n sc ia na d ka va)  (ho : zO G o 9) (hol : G.2.2 o = 1) : Met l yL_line wsL_line ({ frames := 7, cells := 1, slots := 6, locals := 103 }) (zPy dC dI cy [.ref x, .int b, .ref o] G S sz) (va_Qi (fun (k9 : Int32) S' => (k9 = 0 ∧ (∃ (r : Int32) (T9 : zS) (w : Int64), (kLine b = 0 ∧ T9 = S ∧ r = ((S.2.1 x 6).toUInt64 >>> ((b - 1).toInt64.toUInt64 &&& Int64.toUInt64 63)).toInt64.toInt32 &&& 1) ∧ S' = zpj T9 o 0 w ∧ w = r.toInt64)) ∨ (k9 = 1 ∧ (kLine b = 1) ∧ S' = S)) (zB dC dI cy (zA cy G S sz) G) (zA cy G S sz)) 1 6 (zA cy G S sz) := by
  refine va_MetW (cc := cL_line) (maxL := 4) (ret := (some .int)) (hh := [(0, 9, 12, 13)]) (by decide) rfl ?_
  intro p e s m args below meth c s₁ B hml hv
  obtain ⟨rfl, ⟨⟨hsz, hP, hK, hD0, hN⟩, hE⟩, hNc⟩ := hv
  have hx := B.exec
  have hb := B.bytes
  have hr := B.returns
  have hts := atoms_spec (ws := wsL_line) B.pre
  have hown : s.vm.findClass RL = some m.cls := findClass_of_methodNamed B.named
  have hlocks := B.notSynchronized
  have htb := vx_table (x := yL_line) B (hts _ List.mem_cons_self)
  subst hsz
  have hD : va_D (zA cy G S s.heap.size) (zW cy G S) := hD0.self
  generalize hAe : zA cy G S s.heap.size = A at hD hE ⊢
  have hA : ∀ q : Nat, s.heap.size ≤ q → A q := fun q h => by rw [← hAe]; exact Or.inr h
  have hS : va_S A s.heap s.heap [] := va_S.rf
  have hl := lv_entry ([.ref x, .int b, .ref o]) (n := 4) (Nat.le_of_ble_eq_true rfl)
  rw [lg_entry_eq]
  generalize (lg_sl ([.ref x, .int b, .ref o]) ++ List.replicate (4 - (lg_sl ([.ref x, .int b, .ref o])).length) Slot.unset).toArray = ls at hl ⊢
  have hl : lv_has ls 4 [(0, .ref x), (1, .int b), (2, .ref o)] := hl
  refine lv_aload_n hx hb dL_line_0 rfl (lv_at hl 2 rfl) ?_
  refine lv_iconst (v := 0) hx hb dL_line_1 (by decide) ?_
  refine lv_aload_n hx hb dL_line_2 rfl (lv_at hl 0 rfl) ?_
  refine lv_iload_n hx hb dL_line_3 rfl (lv_at hl 1 rfl) ?_
  refine zcallXi (vx_runV (As := [.int b]) (rest := [.int 0, .ref o]) ⟨hx, hb, hml, hown, hts⟩ (x_X6_line l hlt dC dI cy G S s.heap.size x f n sc ia na d ka va b hX) (cwV 1 hts gL_line_X6_line rfl rfl rfl (by decide +kernel) ⟨Nat.le_of_ble_eq_true rfl, Nat.le_of_ble_eq_true rfl⟩) (zpreVx hK hP hD hN hE hS hA (zrecv6 hK hP hX.1)) rfl rfl hl.1 rfl (lv_room (Nat.le_of_ble_eq_true rfl)) dL_line_4 ⟨Nat.le_of_ble_eq_true rfl, Nat.le_of_ble_eq_true rfl⟩) hS hD hA (fun E ce q9 H locs hxp hP hD hS hc1 hc2 hc3 => ?_) (fun r1 S1 H locs hw hP hD hS => ?_)
  · obtain ⟨rfl, hk9⟩ := hxp
    refine vx_catch (name := "java/lang/IllegalArgumentException") hown [] ⟨0, 9, 12, 13⟩ [] (by rw [htb]; rfl) (fun z hz => absurd hz List.not_mem_nil) (by decide) (by decide) (hts (.classLink RL 13 "java/lang/IllegalArgumentException") (by decide +kernel)) (va_tabs rfl rfl hE.2.2.1.2.2.2.1) hc1 hc2 hc3 ?_
    refine lv_astore_n (lv' := [(3, .ref q9), (0, .ref x), (1, .int b), (2, .ref o)]) hx hb dL_line_12 rfl hl (by decide) rfl (fun ls hl => ?_)
    refine lv_iconst (v := 1) hx hb dL_line_13 (by decide) ?_
    refine W.widen (k := 1) (n := 6) (Nat.le_of_ble_eq_true rfl) (Nat.le_of_ble_eq_true rfl) ?_
    exact W.iret (v := 1) hx hb hr (fun t ht hW => ⟨⟨1, S, rfl, Or.inr ⟨rfl, hk9, rfl⟩, by rw [ht]; exact hP, va_K.moved hW.alike hK, hD⟩, hS.F ht⟩) hS.2.2 dL_line_14
  · skip
    refine lv_i2l hx hb dL_line_7 rfl ?_
    refine lv_topl (fun v1 ev1 => ?_)
    refine zlast (x := v1) hx hb hK hP hD hS ho hol (by unfold vp_in; decide) dL_line_8 (fun H locs hP hD hS => ?_)
    rw [show (0 : Int32).toNatClampNeg = 0 from rfl] at hP hD
    refine lv_goto (tgt := 15) hx hb dL_line_9 (by decide) ?_
    refine lv_iconst (v := 0) hx hb dL_line_15 (by decide) ?_
    refine W.widen (k := 1) (n := 6) (Nat.le_of_ble_eq_true rfl) (Nat.le_of_ble_eq_true rfl) ?_
    exact W.iret (v := 0) hx hb hr (fun t ht hW => ⟨⟨0, (zpj S1 o 0 v1), rfl, Or.inl ⟨rfl, r1, S1, v1, hw, rfl, ev1⟩, by rw [ht]; exact hP, va_K.moved hW.alike hK, hD⟩, hS.F ht⟩) hS.2.2 dL_line_16
set_option maxHeartbeats 4000000 in
set_option maxRecDepth 100000 in
theorem w_L_checks (l : Launch) (hlt : l.stackTraces = false) (dC : Nat → ClassId) (dI : Nat → Nat → Nat) (cy : Nat → ClassId) (G : zG) (S : zS) (sz : Nat) (x f n sc ia na d ka va : Nat) (id : Int32) (o : Nat) (hX : zX G S x f n sc ia na d ka va)  (ho : zO G o 9) (hol : G.2.2 o = 1) : Met l yL_checks wsL_checks ({ frames := 7, cells := 1, slots := 6, locals := 104 }) (zPy dC dI cy [.ref x, .int id, .ref o] G S sz) (va_Qi (fun (k9 : Int32) S' => (k9 = 0 ∧ (∃ (r : Int32) (T9 : zS) (w : Int64), (T9 = S ∧ ∃ y n' : Nat, zfo S f id (some y) ∧ n' ≤ 8 ∧ S.1 y 1 = nI n' ∧ r = S.1 y 3 + 256 * (255 - zsum (zbl (S.2.1 y 5)) (if S.1 y 4 = 0 then 0 else S.1 y 3) n')) ∧ S' = zpj T9 o 0 w ∧ w = r.toInt64)) ∨ (k9 = 1 ∧ (zfo S f id none) ∧ S' = S)) (zB dC dI cy (zA cy G S sz) G) (zA cy G S sz)) 1 6 (zA cy G S sz) := by
  refine va_MetW (cc := cL_checks) (maxL := 4) (ret := (some .int)) (hh := [(0, 9, 12, 13)]) (by decide) rfl ?_
  intro p e s m args below meth c s₁ B hml hv
  obtain ⟨rfl, ⟨⟨hsz, hP, hK, hD0, hN⟩, hE⟩, hNc⟩ := hv
  have hx := B.exec
  have hb := B.bytes
  have hr := B.returns
  have hts := atoms_spec (ws := wsL_checks) B.pre
  have hown : s.vm.findClass RL = some m.cls := findClass_of_methodNamed B.named
  have hlocks := B.notSynchronized
  have htb := vx_table (x := yL_checks) B (hts _ List.mem_cons_self)
  subst hsz
  have hD : va_D (zA cy G S s.heap.size) (zW cy G S) := hD0.self
  generalize hAe : zA cy G S s.heap.size = A at hD hE ⊢
  have hA : ∀ q : Nat, s.heap.size ≤ q → A q := fun q h => by rw [← hAe]; exact Or.inr h
  have hS : va_S A s.heap s.heap [] := va_S.rf
  have hl := lv_entry ([.ref x, .int id, .ref o]) (n := 4) (Nat.le_of_ble_eq_true rfl)
  rw [lg_entry_eq]
  generalize (lg_sl ([.ref x, .int id, .ref o]) ++ List.replicate (4 - (lg_sl ([.ref x, .int id, .ref o])).length) Slot.unset).toArray = ls at hl ⊢
  have hl : lv_has ls 4 [(0, .ref x), (1, .int id), (2, .ref o)] := hl
  refine lv_aload_n hx hb dL_checks_0 rfl (lv_at hl 2 rfl) ?_
  refine lv_iconst (v := 0) hx hb dL_checks_1 (by decide) ?_
  refine lv_aload_n hx hb dL_checks_2 rfl (lv_at hl 0 rfl) ?_
  refine lv_iload_n hx hb dL_checks_3 rfl (lv_at hl 1 rfl) ?_
  refine zcallXi (vx_runV (As := [.int id]) (rest := [.int 0, .ref o]) ⟨hx, hb, hml, hown, hts⟩ (x_X6_checks l hlt dC dI cy G S s.heap.size x f n sc ia na d ka va id hX) (cwV 1 hts gL_checks_X6_checks rfl rfl rfl (by decide +kernel) ⟨Nat.le_of_ble_eq_true rfl, Nat.le_of_ble_eq_true rfl⟩) (zpreVx hK hP hD hN hE hS hA (zrecv6 hK hP hX.1)) rfl rfl hl.1 rfl (lv_room (Nat.le_of_ble_eq_true rfl)) dL_checks_4 ⟨Nat.le_of_ble_eq_true rfl, Nat.le_of_ble_eq_true rfl⟩) hS hD hA (fun E ce q9 H locs hxp hP hD hS hc1 hc2 hc3 => ?_) (fun r1 S1 H locs hw hP hD hS => ?_)
  · obtain ⟨rfl, hk9⟩ := hxp
    refine vx_catch (name := "java/lang/IllegalArgumentException") hown [] ⟨0, 9, 12, 13⟩ [] (by rw [htb]; rfl) (fun z hz => absurd hz List.not_mem_nil) (by decide) (by decide) (hts (.classLink RL 13 "java/lang/IllegalArgumentException") (by decide +kernel)) (va_tabs rfl rfl hE.2.2.1.2.2.2.1) hc1 hc2 hc3 ?_
    refine lv_astore_n (lv' := [(3, .ref q9), (0, .ref x), (1, .int id), (2, .ref o)]) hx hb dL_checks_12 rfl hl (by decide) rfl (fun ls hl => ?_)
    refine lv_iconst (v := 1) hx hb dL_checks_13 (by decide) ?_
    refine W.widen (k := 1) (n := 6) (Nat.le_of_ble_eq_true rfl) (Nat.le_of_ble_eq_true rfl) ?_
    exact W.iret (v := 1) hx hb hr (fun t ht hW => ⟨⟨1, S, rfl, Or.inr ⟨rfl, hk9, rfl⟩, by rw [ht]; exact hP, va_K.moved hW.alike hK, hD⟩, hS.F ht⟩) hS.2.2 dL_checks_14
  · skip
    refine lv_i2l hx hb dL_checks_7 rfl ?_
    refine lv_topl (fun v1 ev1 => ?_)
    refine zlast (x := v1) hx hb hK hP hD hS ho hol (by unfold vp_in; decide) dL_checks_8 (fun H locs hP hD hS => ?_)
    rw [show (0 : Int32).toNatClampNeg = 0 from rfl] at hP hD
    refine lv_goto (tgt := 15) hx hb dL_checks_9 (by decide) ?_
    refine lv_iconst (v := 0) hx hb dL_checks_15 (by decide) ?_
    refine W.widen (k := 1) (n := 6) (Nat.le_of_ble_eq_true rfl) (Nat.le_of_ble_eq_true rfl) ?_
    exact W.iret (v := 0) hx hb hr (fun t ht hW => ⟨⟨0, (zpj S1 o 0 v1), rfl, Or.inl ⟨rfl, r1, S1, v1, hw, rfl, ev1⟩, by rw [ht]; exact hP, va_K.moved hW.alike hK, hD⟩, hS.F ht⟩) hS.2.2 dL_checks_16
