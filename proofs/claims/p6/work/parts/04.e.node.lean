set_option maxHeartbeats 4000000 in
set_option maxRecDepth 100000 in
theorem c_X3_answer_0 (l : Launch) (dC : Nat → ClassId) (dI : Nat → Nat → Nat) (cy : Nat → ClassId) (G : zG) (S : zS) (sz : Nat) (a i r : Nat) (hNd : zNd G S a i r) : Met l yX3_answer wsX3_answer ({ frames := 0, cells := 0, slots := 0, locals := 0 }) (zP dC dI cy [.ref a, .null] G S sz) (va_Qv (fun S' => zSt G S S') (zB dC dI cy (zA cy G S sz) G) (zA cy G S sz)) 0 0 (zA cy G S sz) := by
  refine Met.ofW (cc := cX3_answer) (maxL := 2) (ret := none) (by decide) rfl ?_
  intro p e s m args below meth c s₁ B hml hv
  obtain ⟨rfl, hsz, hP, hK, hD0, hN⟩ := hv
  have hx := B.exec
  have hb := B.bytes
  have hr := B.returns
  have hts := atoms_spec (ws := wsX3_answer) B.pre
  have hown : s.vm.findClass RX3 = some m.cls := findClass_of_methodNamed B.named
  have hlocks := B.notSynchronized
  subst hsz
  have hD : va_D (zA cy G S s.heap.size) (zW cy G S) := hD0.self
  generalize hAe : zA cy G S s.heap.size = A at hD ⊢
  have hA : ∀ q : Nat, s.heap.size ≤ q → A q := fun q h => by rw [← hAe]; exact Or.inr h
  have hS : va_S A s.heap s.heap [] := va_S.rf
  have hst := zSt.refl G S
  have hl := lv_entry ([.ref a, .null]) (n := 2) (Nat.le_of_ble_eq_true rfl)
  rw [lg_entry_eq]
  generalize (lg_sl ([.ref a, .null]) ++ List.replicate (2 - (lg_sl ([.ref a, .null])).length) Slot.unset).toArray = ls at hl ⊢
  have hl : lv_has ls 2 [(0, .ref a), (1, .null)] := hl
  have hi3 : ∀ w ∈ wsX30, w ∈ wsX3_answer := by decide +kernel
  refine lv_aload_nN hx hb dX3_answer_0 rfl (lv_at hl 1 rfl) ?_
  refine lv_ifnonnullN hx hb dX3_answer_1 ?_
  refine lv_aload_n hx hb dX3_answer_4 rfl (lv_at hl 0 rfl) ?_
  refine lv_iconst (v := 1) hx hb dX3_answer_5 (by decide) ?_
  refine zputi (ci := 3) (v := 1) (ty := .int) (C := RX3) (T := TX3) (N := 15) hx hb hts hi3 tyX3 tyX3_ok nmX3 hown hK hP hD hS hNd.1 rfl rfl 6 (by decide) (hts (.fieldLink RX3 36 "LinCluster$Node" "at" "I") (by decide +kernel)) (fun _ h9 => h9) rfl (by decide +kernel) rfl rfl (Nat.le_of_ble_eq_true rfl) rfl dX3_answer_6 (fun H locs hP hD hS => ?_)
  have hst := hst.pi (k := 6) (v := 1) hNd.1.2 rfl
  refine lv_goto (tgt := 80) hx hb dX3_answer_9 (by decide) ?_
  exact W.vret hx hb hr (fun t ht hW => ⟨⟨(zpi S a 6 1), rfl, hst, by rw [ht]; exact hP, va_K.moved hW.alike hK, hD⟩, hS.F ht⟩) hS.2.2 dX3_answer_80
set_option maxHeartbeats 4000000 in
set_option maxRecDepth 100000 in
theorem c_X3_answer (l : Launch) (dC : Nat → ClassId) (dI : Nat → Nat → Nat) (cy : Nat → ClassId) (G : zG) (S : zS) (sz : Nat) (a i r : Nat) (y ka ta : Nat) (hNd : zNd G S a i r) (hF : zFr G S y ka ta) : Met l yX3_answer wsX3_answer ({ frames := 2, cells := 0, slots := 0, locals := 50 }) (zP dC dI cy [.ref a, .ref y] G S sz) (va_Qv (fun S' => zSt G S S') (zB dC dI cy (zA cy G S sz) G) (zA cy G S sz)) 0 0 (zA cy G S sz) := by
  refine Met.ofW (cc := cX3_answer) (maxL := 2) (ret := none) (by decide) rfl ?_
  intro p e s m args below meth c s₁ B hml hv
  obtain ⟨rfl, hsz, hP, hK, hD0, hN⟩ := hv
  have hx := B.exec
  have hb := B.bytes
  have hr := B.returns
  have hts := atoms_spec (ws := wsX3_answer) B.pre
  have hown : s.vm.findClass RX3 = some m.cls := findClass_of_methodNamed B.named
  have hlocks := B.notSynchronized
  subst hsz
  have hD : va_D (zA cy G S s.heap.size) (zW cy G S) := hD0.self
  generalize hAe : zA cy G S s.heap.size = A at hD ⊢
  have hA : ∀ q : Nat, s.heap.size ≤ q → A q := fun q h => by rw [← hAe]; exact Or.inr h
  have hS : va_S A s.heap s.heap [] := va_S.rf
  have hst := zSt.refl G S
  have hl := lv_entry ([.ref a, .ref y]) (n := 2) (Nat.le_of_ble_eq_true rfl)
  rw [lg_entry_eq]
  generalize (lg_sl ([.ref a, .ref y]) ++ List.replicate (2 - (lg_sl ([.ref a, .ref y])).length) Slot.unset).toArray = ls at hl ⊢
  have hl : lv_has ls 2 [(0, .ref a), (1, .ref y)] := hl
  have hi1 : ∀ w ∈ wsX10, w ∈ wsX3_answer := by decide +kernel
  have hi3 : ∀ w ∈ wsX30, w ∈ wsX3_answer := by decide +kernel
  refine lv_aload_n hx hb dX3_answer_0 rfl (lv_at hl 1 rfl) ?_
  refine lv_ifnonnull (tgt := 12) hx hb dX3_answer_1 (by decide) ?_
  refine lv_aload_n hx hb dX3_answer_12 rfl (lv_at hl 1 rfl) ?_
  refine zget (ci := 1) (C := RX1) (T := TX1) (N := 9) hx hb hts hi1 hown hK hP hF.1 rfl rfl 2 (by decide) (hts (.fieldLink RX3 113 "LinCluster$Frame" "publisher" "I") (by decide +kernel)) (fun _ h9 => h9) rfl dX3_answer_13 ?_
  refine lv_topi (fun v1 ev1 => ?_)
  refine lv_aload_n hx hb dX3_answer_16 rfl (lv_at hl 0 rfl) ?_
  refine zget (ci := 3) (C := RX3) (T := TX3) (N := 15) hx hb hts hi3 hown hK hP hNd.1 rfl rfl 0 (by decide) (hts (.fieldLink RX3 64 "LinCluster$Node" "number" "I") (by decide +kernel)) (fun _ h9 => h9) rfl dX3_answer_17 ?_
  refine lv_topi (fun v2 ev2 => ?_)
  refine lv_icmp_ne (tgt := 48) hx hb dX3_answer_20 (by decide) (fun c3 => ?_) (fun c3 => ?_)
  · skip
    refine lv_aload_n hx hb dX3_answer_48 rfl (lv_at hl 1 rfl) ?_
    refine lv_aload_n hx hb dX3_answer_49 rfl (lv_at hl 0 rfl) ?_
    refine zget (ci := 3) (C := RX3) (T := TX3) (N := 15) hx hb hts hi3 hown hK hP hNd.1 rfl rfl 0 (by decide) (hts (.fieldLink RX3 64 "LinCluster$Node" "number" "I") (by decide +kernel)) (fun _ h9 => h9) rfl dX3_answer_50 ?_
    refine lv_topi (fun v4 ev4 => ?_)
    refine vp_callSi (va_Run.run (va_runV (As := [.int v4]) (rest := []) ⟨hx, hb, hml, hown, hts⟩ (c_X1_isHeardBy l dC dI cy G S s.heap.size y v4 hF.1) (cwV 1 hts gX3_answer_X1_isHeardBy rfl rfl rfl (by decide +kernel) ⟨Nat.le_of_ble_eq_true rfl, Nat.le_of_ble_eq_true rfl⟩) (zpreV hK hP hD hN (zrecv1 hK hP hF.1)) rfl rfl hl.1 rfl (lv_room (Nat.le_of_ble_eq_true rfl)) dX3_answer_53 ⟨Nat.le_of_ble_eq_true rfl, Nat.le_of_ble_eq_true rfl⟩)) (fun r5 hr5 => ?_)
    refine lv_if_eq (tgt := 75) hx hb dX3_answer_56 (by decide) (fun c6 => ?_) (fun c6 => ?_)
    · skip
      refine lv_aload_n hx hb dX3_answer_75 rfl (lv_at hl 0 rfl) ?_
      refine lv_iconst (v := 1) hx hb dX3_answer_76 (by decide) ?_
      refine zputi (ci := 3) (v := 1) (ty := .int) (C := RX3) (T := TX3) (N := 15) hx hb hts hi3 tyX3 tyX3_ok nmX3 hown hK hP hD hS hNd.1 rfl rfl 6 (by decide) (hts (.fieldLink RX3 36 "LinCluster$Node" "at" "I") (by decide +kernel)) (fun _ h9 => h9) rfl (by decide +kernel) rfl rfl (Nat.le_of_ble_eq_true rfl) rfl dX3_answer_77 (fun H locs hP hD hS => ?_)
      have hst := hst.pi (k := 6) (v := 1) hNd.1.2 rfl
      exact W.vret hx hb hr (fun t ht hW => ⟨⟨(zpi S a 6 1), rfl, hst, by rw [ht]; exact hP, va_K.moved hW.alike hK, hD⟩, hS.F ht⟩) hS.2.2 dX3_answer_80
    · skip
      refine lv_aload_n hx hb dX3_answer_59 rfl (lv_at hl 0 rfl) ?_
      refine zget (ci := 3) (C := RX3) (T := TX3) (N := 15) hx hb hts hi3 hown hK hP hNd.1 rfl rfl 2 (by decide) (hts (.fieldLink RX3 21 "LinCluster$Node" "response" "LLinCluster$Response;") (by decide +kernel)) (fun _ h9 => h9) (v := .ref r) (congrArg (fun z => some (va_rf z)) ((hst.nd hNd).2.2.1)) dX3_answer_60 ?_
      refine lv_aload_n hx hb dX3_answer_63 rfl (lv_at hl 1 rfl) ?_
      refine zcallv (va_runV (As := [.ref y]) (rest := []) ⟨hx, hb, hml, hown, hts⟩ (c_X4_beginTaking l dC dI cy G S s.heap.size r y ka ta  hNd.2.2.2.2 (hst.fr hF)) (cwV 1 hts gX3_answer_X4_beginTaking rfl rfl rfl (by decide +kernel) ⟨Nat.le_of_ble_eq_true rfl, Nat.le_of_ble_eq_true rfl⟩) (zpreV hK hP hD hN (zrecv4 hK hP hNd.2.2.2.2)) rfl rfl hl.1 rfl (lv_room (Nat.le_of_ble_eq_true rfl)) dX3_answer_64 ⟨Nat.le_of_ble_eq_true rfl, Nat.le_of_ble_eq_true rfl⟩) hS hD hA (fun S8 H locs hr7 hP hD hS => ?_)
      have hst := hst.trans hr7
      refine lv_aload_n hx hb dX3_answer_67 rfl (lv_at hl 0 rfl) ?_
      refine lv_iconst (v := 5) hx hb dX3_answer_68 (by decide) ?_
      refine zputi (ci := 3) (v := 5) (ty := .int) (C := RX3) (T := TX3) (N := 15) hx hb hts hi3 tyX3 tyX3_ok nmX3 hown hK hP hD hS hNd.1 rfl rfl 6 (by decide) (hts (.fieldLink RX3 36 "LinCluster$Node" "at" "I") (by decide +kernel)) (fun _ h9 => h9) rfl (by decide +kernel) rfl rfl (Nat.le_of_ble_eq_true rfl) rfl dX3_answer_69 (fun H locs hP hD hS => ?_)
      have hst := hst.pi (k := 6) (v := 5) hNd.1.2 rfl
      refine lv_goto (tgt := 80) hx hb dX3_answer_72 (by decide) ?_
      exact W.vret hx hb hr (fun t ht hW => ⟨⟨(zpi S8 a 6 5), rfl, hst, by rw [ht]; exact hP, va_K.moved hW.alike hK, hD⟩, hS.F ht⟩) hS.2.2 dX3_answer_80
  · skip
    refine lv_aload_n hx hb dX3_answer_23 rfl (lv_at hl 0 rfl) ?_
    refine zget (ci := 3) (C := RX3) (T := TX3) (N := 15) hx hb hts hi3 hown hK hP hNd.1 rfl rfl 2 (by decide) (hts (.fieldLink RX3 21 "LinCluster$Node" "response" "LLinCluster$Response;") (by decide +kernel)) (fun _ h9 => h9) (v := .ref r) (congrArg (fun z => some (va_rf z)) ((hst.nd hNd).2.2.1)) dX3_answer_24 ?_
    refine lv_aload_n hx hb dX3_answer_27 rfl (lv_at hl 1 rfl) ?_
    refine lv_aload_n hx hb dX3_answer_28 rfl (lv_at hl 0 rfl) ?_
    refine lv_aload_n hx hb dX3_answer_29 rfl (lv_at hl 1 rfl) ?_
    refine vp_callSl (va_Run.run (va_runV (As := [.ref y]) (rest := [.ref y, .ref r]) ⟨hx, hb, hml, hown, hts⟩ (c_X3_bytesToSay l dC dI cy G S s.heap.size a i r y ka ta (hst.nd hNd) (hst.fr hF)) (cwV 1 hts gX3_answer_X3_bytesToSay rfl rfl rfl (by decide +kernel) ⟨Nat.le_of_ble_eq_true rfl, Nat.le_of_ble_eq_true rfl⟩) (zpreV hK hP hD hN (zrecv3 hK hP hNd.1)) rfl rfl hl.1 rfl (lv_room (Nat.le_of_ble_eq_true rfl)) dX3_answer_30 ⟨Nat.le_of_ble_eq_true rfl, Nat.le_of_ble_eq_true rfl⟩)) (fun r9 hr9 => ?_)
    refine lv_aload_n hx hb dX3_answer_33 rfl (lv_at hl 0 rfl) ?_
    refine zget (ci := 3) (C := RX3) (T := TX3) (N := 15) hx hb hts hi3 hown hK hP hNd.1 rfl rfl 3 (by decide) (hts (.fieldLink RX3 25 "LinCluster$Node" "space" "I") (by decide +kernel)) (fun _ h9 => h9) rfl dX3_answer_34 ?_
    refine lv_topi (fun v10 ev10 => ?_)
    refine zcallv (va_runV (As := [.ref y, .long r9, .int v10]) (rest := []) ⟨hx, hb, hml, hown, hts⟩ (c_X4_beginSaying l dC dI cy G S s.heap.size r y ka ta r9 v10 hNd.2.2.2.2 (hst.fr hF)) (cwV 3 hts gX3_answer_X4_beginSaying rfl rfl rfl (by decide +kernel) ⟨Nat.le_of_ble_eq_true rfl, Nat.le_of_ble_eq_true rfl⟩) (zpreV hK hP hD hN (zrecv4 hK hP hNd.2.2.2.2)) rfl rfl hl.1 rfl (lv_room (Nat.le_of_ble_eq_true rfl)) dX3_answer_37 ⟨Nat.le_of_ble_eq_true rfl, Nat.le_of_ble_eq_true rfl⟩) hS hD hA (fun S12 H locs hr11 hP hD hS => ?_)
    have hst := hst.trans hr11
    refine lv_aload_n hx hb dX3_answer_40 rfl (lv_at hl 0 rfl) ?_
    refine lv_iconst (v := 4) hx hb dX3_answer_41 (by decide) ?_
    refine zputi (ci := 3) (v := 4) (ty := .int) (C := RX3) (T := TX3) (N := 15) hx hb hts hi3 tyX3 tyX3_ok nmX3 hown hK hP hD hS hNd.1 rfl rfl 6 (by decide) (hts (.fieldLink RX3 36 "LinCluster$Node" "at" "I") (by decide +kernel)) (fun _ h9 => h9) rfl (by decide +kernel) rfl rfl (Nat.le_of_ble_eq_true rfl) rfl dX3_answer_42 (fun H locs hP hD hS => ?_)
    have hst := hst.pi (k := 6) (v := 4) hNd.1.2 rfl
    refine lv_goto (tgt := 80) hx hb dX3_answer_45 (by decide) ?_
    exact W.vret hx hb hr (fun t ht hW => ⟨⟨(zpi S12 a 6 4), rfl, hst, by rw [ht]; exact hP, va_K.moved hW.alike hK, hD⟩, hS.F ht⟩) hS.2.2 dX3_answer_80
set_option maxHeartbeats 4000000 in
set_option maxRecDepth 100000 in
theorem c_X3_rest (l : Launch) (dC : Nat → ClassId) (dI : Nat → Nat → Nat) (cy : Nat → ClassId) (G : zG) (S : zS) (sz : Nat) (a i r : Nat) (hNd : zNd G S a i r) (hRf : zRf G S) : Met l yX3_rest wsX3_rest ({ frames := 1, cells := 0, slots := 0, locals := 20 }) (zP dC dI cy [.ref a] G S sz) (va_Qv (fun S' => zSt G S S') (zB dC dI cy (zA cy G S sz) G) (zA cy G S sz)) 0 0 (zA cy G S sz) := by
  refine Met.ofW (cc := cX3_rest) (maxL := 1) (ret := none) (by decide) rfl ?_
  intro p e s m args below meth c s₁ B hml hv
  obtain ⟨rfl, hsz, hP, hK, hD0, hN⟩ := hv
  have hx := B.exec
  have hb := B.bytes
  have hr := B.returns
  have hts := atoms_spec (ws := wsX3_rest) B.pre
  have hown : s.vm.findClass RX3 = some m.cls := findClass_of_methodNamed B.named
  have hlocks := B.notSynchronized
  subst hsz
  have hD : va_D (zA cy G S s.heap.size) (zW cy G S) := hD0.self
  generalize hAe : zA cy G S s.heap.size = A at hD ⊢
  have hA : ∀ q : Nat, s.heap.size ≤ q → A q := fun q h => by rw [← hAe]; exact Or.inr h
  have hS : va_S A s.heap s.heap [] := va_S.rf
  have hst := zSt.refl G S
  have hl := lv_entry ([.ref a]) (n := 1) (Nat.le_of_ble_eq_true rfl)
  rw [lg_entry_eq]
  generalize (lg_sl ([.ref a]) ++ List.replicate (1 - (lg_sl ([.ref a])).length) Slot.unset).toArray = ls at hl ⊢
  have hl : lv_has ls 1 [(0, .ref a)] := hl
  have hi3 : ∀ w ∈ wsX30, w ∈ wsX3_rest := by decide +kernel
  refine lv_aload_n hx hb dX3_rest_0 rfl (lv_at hl 0 rfl) ?_
  refine lv_aload_n hx hb dX3_rest_1 rfl (lv_at hl 0 rfl) ?_
  refine zget (ci := 3) (C := RX3) (T := TX3) (N := 15) hx hb hts hi3 hown hK hP hNd.1 rfl rfl 2 (by decide) (hts (.fieldLink RX3 21 "LinCluster$Node" "response" "LLinCluster$Response;") (by decide +kernel)) (fun _ h9 => h9) (v := .ref r) (congrArg (fun z => some (va_rf z)) ((hst.nd hNd).2.2.1)) dX3_rest_2 ?_
  refine vp_callSi (va_Run.run (va_runV (As := []) (rest := [.ref a]) ⟨hx, hb, hml, hown, hts⟩ (c_X4_sendsToSleep l dC dI cy G S s.heap.size r hNd.2.2.2.2 (hst.rf hRf)) (cwV 0 hts gX3_rest_X4_sendsToSleep rfl rfl rfl (by decide +kernel) ⟨Nat.le_of_ble_eq_true rfl, Nat.le_of_ble_eq_true rfl⟩) (zpreV hK hP hD hN (zrecv4 hK hP hNd.2.2.2.2)) rfl rfl hl.1 rfl (lv_room (Nat.le_of_ble_eq_true rfl)) dX3_rest_5 ⟨Nat.le_of_ble_eq_true rfl, Nat.le_of_ble_eq_true rfl⟩)) (fun r1 hr1 => ?_)
  refine lv_if_eq (tgt := 15) hx hb dX3_rest_8 (by decide) (fun c2 => ?_) (fun c2 => ?_)
  · skip
    refine lv_iconst (v := 1) hx hb dX3_rest_15 (by decide) ?_
    refine zputi (ci := 3) (v := 1) (ty := .int) (C := RX3) (T := TX3) (N := 15) hx hb hts hi3 tyX3 tyX3_ok nmX3 hown hK hP hD hS hNd.1 rfl rfl 6 (by decide) (hts (.fieldLink RX3 36 "LinCluster$Node" "at" "I") (by decide +kernel)) (fun _ h9 => h9) rfl (by decide +kernel) rfl rfl (Nat.le_of_ble_eq_true rfl) rfl dX3_rest_16 (fun H locs hP hD hS => ?_)
    have hst := hst.pi (k := 6) (v := 1) hNd.1.2 rfl
    exact W.vret hx hb hr (fun t ht hW => ⟨⟨(zpi S a 6 1), rfl, hst, by rw [ht]; exact hP, va_K.moved hW.alike hK, hD⟩, hS.F ht⟩) hS.2.2 dX3_rest_19
  · skip
    refine lv_iconst (v := 0) hx hb dX3_rest_11 (by decide) ?_
    refine lv_goto (tgt := 16) hx hb dX3_rest_12 (by decide) ?_
    refine zputi (ci := 3) (v := 0) (ty := .int) (C := RX3) (T := TX3) (N := 15) hx hb hts hi3 tyX3 tyX3_ok nmX3 hown hK hP hD hS hNd.1 rfl rfl 6 (by decide) (hts (.fieldLink RX3 36 "LinCluster$Node" "at" "I") (by decide +kernel)) (fun _ h9 => h9) rfl (by decide +kernel) rfl rfl (Nat.le_of_ble_eq_true rfl) rfl dX3_rest_16 (fun H locs hP hD hS => ?_)
    have hst := hst.pi (k := 6) (v := 0) hNd.1.2 rfl
    exact W.vret hx hb hr (fun t ht hW => ⟨⟨(zpi S a 6 0), rfl, hst, by rw [ht]; exact hP, va_K.moved hW.alike hK, hD⟩, hS.F ht⟩) hS.2.2 dX3_rest_19
set_option maxHeartbeats 4000000 in
set_option maxRecDepth 100000 in
theorem c_X3_finishSaying (l : Launch) (dC : Nat → ClassId) (dI : Nat → Nat → Nat) (cy : Nat → ClassId) (G : zG) (S : zS) (sz : Nat) (a i r : Nat) (hNd : zNd G S a i r) (hRf : zRf G S) : Met l yX3_finishSaying wsX3_finishSaying ({ frames := 2, cells := 0, slots := 0, locals := 40 }) (zP dC dI cy [.ref a] G S sz) (va_Qv (fun S' => zSt G S S') (zB dC dI cy (zA cy G S sz) G) (zA cy G S sz)) 0 0 (zA cy G S sz) := by
  refine Met.ofW (cc := cX3_finishSaying) (maxL := 1) (ret := none) (by decide) rfl ?_
  intro p e s m args below meth c s₁ B hml hv
  obtain ⟨rfl, hsz, hP, hK, hD0, hN⟩ := hv
  have hx := B.exec
  have hb := B.bytes
  have hr := B.returns
  have hts := atoms_spec (ws := wsX3_finishSaying) B.pre
  have hown : s.vm.findClass RX3 = some m.cls := findClass_of_methodNamed B.named
  have hlocks := B.notSynchronized
  subst hsz
  have hD : va_D (zA cy G S s.heap.size) (zW cy G S) := hD0.self
  generalize hAe : zA cy G S s.heap.size = A at hD ⊢
  have hA : ∀ q : Nat, s.heap.size ≤ q → A q := fun q h => by rw [← hAe]; exact Or.inr h
  have hS : va_S A s.heap s.heap [] := va_S.rf
  have hst := zSt.refl G S
  have hl := lv_entry ([.ref a]) (n := 1) (Nat.le_of_ble_eq_true rfl)
  rw [lg_entry_eq]
  generalize (lg_sl ([.ref a]) ++ List.replicate (1 - (lg_sl ([.ref a])).length) Slot.unset).toArray = ls at hl ⊢
  have hl : lv_has ls 1 [(0, .ref a)] := hl
  have hi3 : ∀ w ∈ wsX30, w ∈ wsX3_finishSaying := by decide +kernel
  have hi4 : ∀ w ∈ wsX40, w ∈ wsX3_finishSaying := by decide +kernel
  refine lv_aload_n hx hb dX3_finishSaying_0 rfl (lv_at hl 0 rfl) ?_
  refine lv_dup hx hb dX3_finishSaying_1 rfl ?_
  refine zget (ci := 3) (C := RX3) (T := TX3) (N := 15) hx hb hts hi3 hown hK hP hNd.1 rfl rfl 12 (by decide) (hts (.fieldLink RX3 55 "LinCluster$Node" "responsesSaid" "I") (by decide +kernel)) (fun _ h9 => h9) rfl dX3_finishSaying_2 ?_
  refine lv_topi (fun v1 ev1 => ?_)
  refine lv_iconst (v := 1) hx hb dX3_finishSaying_5 (by decide) ?_
  refine lv_iadd hx hb dX3_finishSaying_6 ?_
  refine lv_topi (fun v2 ev2 => ?_)
  refine zputi (ci := 3) (v := v2) (ty := .int) (C := RX3) (T := TX3) (N := 15) hx hb hts hi3 tyX3 tyX3_ok nmX3 hown hK hP hD hS hNd.1 rfl rfl 12 (by decide) (hts (.fieldLink RX3 55 "LinCluster$Node" "responsesSaid" "I") (by decide +kernel)) (fun _ h9 => h9) rfl (by decide +kernel) rfl rfl (Nat.le_of_ble_eq_true rfl) rfl dX3_finishSaying_7 (fun H locs hP hD hS => ?_)
  have hst := hst.pi (k := 12) (v := v2) hNd.1.2 rfl
  refine lv_aload_n hx hb dX3_finishSaying_10 rfl (lv_at hl 0 rfl) ?_
  refine zget (ci := 3) (C := RX3) (T := TX3) (N := 15) hx hb hts hi3 hown hK hP hNd.1 rfl rfl 2 (by decide) (hts (.fieldLink RX3 21 "LinCluster$Node" "response" "LLinCluster$Response;") (by decide +kernel)) (fun _ h9 => h9) (v := .ref r) (congrArg (fun z => some (va_rf z)) ((hst.nd hNd).2.2.1)) dX3_finishSaying_11 ?_
  refine zget (ci := 4) (C := RX4) (T := TX4) (N := 7) hx hb hts hi4 hown hK hP hNd.2.2.2.2 rfl rfl 0 (by decide) (hts (.fieldLink RX3 148 "LinCluster$Response" "frame" "LLinCluster$Frame;") (by decide +kernel)) (fun _ h9 => h9) rfl dX3_finishSaying_14 ?_
  refine lv_aload_n hx hb dX3_finishSaying_17 rfl (lv_at hl 0 rfl) ?_
  refine zget (ci := 3) (C := RX3) (T := TX3) (N := 15) hx hb hts hi3 hown hK hP hNd.1 rfl rfl 4 (by decide) (hts (.fieldLink RX3 29 "LinCluster$Node" "statusFrame" "LLinCluster$Frame;") (by decide +kernel)) (fun _ h9 => h9) rfl dX3_finishSaying_18 ?_
  refine lv_acmp_ne (rx := ((zpi S a 12 v2).2.2 r 0)) (ry := ((zpi S a 12 v2).2.2 a 4)) (tgt := 29) hx hb dX3_finishSaying_21 (by decide) (fun c3 => ?_) (fun c3 => ?_)
  · skip
    refine lv_aload_n hx hb dX3_finishSaying_29 rfl (lv_at hl 0 rfl) ?_
    refine zcallv (va_runV (As := []) (rest := []) ⟨hx, hb, hml, hown, hts⟩ (c_X3_rest l dC dI cy G (zpi S a 12 v2) H.size a i r  (hst.nd hNd) (hst.rf hRf)) (cwV 0 hts gX3_finishSaying_X3_rest rfl rfl rfl (by decide +kernel) ⟨Nat.le_of_ble_eq_true rfl, Nat.le_of_ble_eq_true rfl⟩) (zpreV hK hP hD hN (zrecv3 hK hP hNd.1)) rfl rfl hl.1 rfl (lv_room (Nat.le_of_ble_eq_true rfl)) dX3_finishSaying_30 ⟨Nat.le_of_ble_eq_true rfl, Nat.le_of_ble_eq_true rfl⟩) hS hD hA (fun S5 H locs hr4 hP hD hS => ?_)
    have hst := hst.trans hr4
    exact W.vret hx hb hr (fun t ht hW => ⟨⟨S5, rfl, hst, by rw [ht]; exact hP, va_K.moved hW.alike hK, hD⟩, hS.F ht⟩) hS.2.2 dX3_finishSaying_33
  · skip
    refine lv_aload_n hx hb dX3_finishSaying_24 rfl (lv_at hl 0 rfl) ?_
    refine lv_iconst (v := 0) hx hb dX3_finishSaying_25 (by decide) ?_
    refine zputi (ci := 3) (v := 0) (ty := .boolean) (C := RX3) (T := TX3) (N := 15) hx hb hts hi3 tyX3 tyX3_ok nmX3 hown hK hP hD hS hNd.1 rfl rfl 10 (by decide) (hts (.fieldLink RX3 49 "LinCluster$Node" "error" "Z") (by decide +kernel)) (fun _ h9 => h9) rfl (by decide +kernel) rfl rfl (Nat.le_of_ble_eq_true rfl) rfl dX3_finishSaying_26 (fun H locs hP hD hS => ?_)
    have hst := hst.pi (k := 10) (v := 0) hNd.1.2 rfl
    refine lv_aload_n hx hb dX3_finishSaying_29 rfl (lv_at hl 0 rfl) ?_
    refine zcallv (va_runV (As := []) (rest := []) ⟨hx, hb, hml, hown, hts⟩ (c_X3_rest l dC dI cy G (zpi (zpi S a 12 v2) a 10 0) H.size a i r  (hst.nd hNd) (hst.rf hRf)) (cwV 0 hts gX3_finishSaying_X3_rest rfl rfl rfl (by decide +kernel) ⟨Nat.le_of_ble_eq_true rfl, Nat.le_of_ble_eq_true rfl⟩) (zpreV hK hP hD hN (zrecv3 hK hP hNd.1)) rfl rfl hl.1 rfl (lv_room (Nat.le_of_ble_eq_true rfl)) dX3_finishSaying_30 ⟨Nat.le_of_ble_eq_true rfl, Nat.le_of_ble_eq_true rfl⟩) hS hD hA (fun S7 H locs hr6 hP hD hS => ?_)
    have hst := hst.trans hr6
    exact W.vret hx hb hr (fun t ht hW => ⟨⟨S7, rfl, hst, by rw [ht]; exact hP, va_K.moved hW.alike hK, hD⟩, hS.F ht⟩) hS.2.2 dX3_finishSaying_33
set_option maxHeartbeats 4000000 in
set_option maxRecDepth 100000 in
theorem c_X3_compare (l : Launch) (dC : Nat → ClassId) (dI : Nat → Nat → Nat) (cy : Nat → ClassId) (G : zG) (S : zS) (sz : Nat) (a i r : Nat) (n : Int32) (hNd : zNd G S a i r) (hRf : zRf G S) : Met l yX3_compare wsX3_compare ({ frames := 3, cells := 0, slots := 0, locals := 60 }) (zP dC dI cy [.ref a, .int n] G S sz) (va_Qv (fun S' => zSt G S S') (zB dC dI cy (zA cy G S sz) G) (zA cy G S sz)) 0 0 (zA cy G S sz) := by
  refine Met.ofW (cc := cX3_compare) (maxL := 2) (ret := none) (by decide) rfl ?_
  intro p e s m args below meth c s₁ B hml hv
  obtain ⟨rfl, hsz, hP, hK, hD0, hN⟩ := hv
  have hx := B.exec
  have hb := B.bytes
  have hr := B.returns
  have hts := atoms_spec (ws := wsX3_compare) B.pre
  have hown : s.vm.findClass RX3 = some m.cls := findClass_of_methodNamed B.named
  have hlocks := B.notSynchronized
  subst hsz
  have hD : va_D (zA cy G S s.heap.size) (zW cy G S) := hD0.self
  generalize hAe : zA cy G S s.heap.size = A at hD ⊢
  have hA : ∀ q : Nat, s.heap.size ≤ q → A q := fun q h => by rw [← hAe]; exact Or.inr h
  have hS : va_S A s.heap s.heap [] := va_S.rf
  have hst := zSt.refl G S
  have hl := lv_entry ([.ref a, .int n]) (n := 2) (Nat.le_of_ble_eq_true rfl)
  rw [lg_entry_eq]
  generalize (lg_sl ([.ref a, .int n]) ++ List.replicate (2 - (lg_sl ([.ref a, .int n])).length) Slot.unset).toArray = ls at hl ⊢
  have hl : lv_has ls 2 [(0, .ref a), (1, .int n)] := hl
  have hi3 : ∀ w ∈ wsX30, w ∈ wsX3_compare := by decide +kernel
  have hi4 : ∀ w ∈ wsX40, w ∈ wsX3_compare := by decide +kernel
  refine lv_iload_n hx hb dX3_compare_0 rfl (lv_at hl 1 rfl) ?_
  refine lv_aload_n hx hb dX3_compare_1 rfl (lv_at hl 0 rfl) ?_
  refine zget (ci := 3) (C := RX3) (T := TX3) (N := 15) hx hb hts hi3 hown hK hP hNd.1 rfl rfl 2 (by decide) (hts (.fieldLink RX3 21 "LinCluster$Node" "response" "LLinCluster$Response;") (by decide +kernel)) (fun _ h9 => h9) (v := .ref r) (congrArg (fun z => some (va_rf z)) ((hst.nd hNd).2.2.1)) dX3_compare_2 ?_
  refine vp_callSi (va_Run.run (va_runV (As := []) (rest := [.int n]) ⟨hx, hb, hml, hown, hts⟩ (c_X4_bitToSay l dC dI cy G S s.heap.size r  hNd.2.2.2.2) (cwV 0 hts gX3_compare_X4_bitToSay rfl rfl rfl (by decide +kernel) ⟨Nat.le_of_ble_eq_true rfl, Nat.le_of_ble_eq_true rfl⟩) (zpreV hK hP hD hN (zrecv4 hK hP hNd.2.2.2.2)) rfl rfl hl.1 rfl (lv_room (Nat.le_of_ble_eq_true rfl)) dX3_compare_5 ⟨Nat.le_of_ble_eq_true rfl, Nat.le_of_ble_eq_true rfl⟩)) (fun r1 hr1 => ?_)
  refine lv_icmp_eq (tgt := 21) hx hb dX3_compare_8 (by decide) (fun c2 => ?_) (fun c2 => ?_)
  · skip
    refine lv_aload_n hx hb dX3_compare_21 rfl (lv_at hl 0 rfl) ?_
    refine zget (ci := 3) (C := RX3) (T := TX3) (N := 15) hx hb hts hi3 hown hK hP hNd.1 rfl rfl 2 (by decide) (hts (.fieldLink RX3 21 "LinCluster$Node" "response" "LLinCluster$Response;") (by decide +kernel)) (fun _ h9 => h9) (v := .ref r) (congrArg (fun z => some (va_rf z)) ((hst.nd hNd).2.2.1)) dX3_compare_22 ?_
    refine lv_dup hx hb dX3_compare_25 rfl ?_
    refine zget (ci := 4) (C := RX4) (T := TX4) (N := 7) hx hb hts hi4 hown hK hP hNd.2.2.2.2 rfl rfl 2 (by decide) (hts (.fieldLink RX3 139 "LinCluster$Response" "passed" "I") (by decide +kernel)) (fun _ h9 => h9) rfl dX3_compare_26 ?_
    refine lv_topi (fun v3 ev3 => ?_)
    refine lv_iconst (v := 1) hx hb dX3_compare_29 (by decide) ?_
    refine lv_iadd hx hb dX3_compare_30 ?_
    refine lv_topi (fun v4 ev4 => ?_)
    refine zputi (ci := 4) (v := v4) (ty := .int) (C := RX4) (T := TX4) (N := 7) hx hb hts hi4 tyX4 tyX4_ok nmX4 hown hK hP hD hS hNd.2.2.2.2 rfl rfl 2 (by decide) (hts (.fieldLink RX3 139 "LinCluster$Response" "passed" "I") (by decide +kernel)) (fun _ h9 => h9) rfl (by decide +kernel) rfl rfl (Nat.le_of_ble_eq_true rfl) rfl dX3_compare_31 (fun H locs hP hD hS => ?_)
    have hst := hst.pi (k := 2) (v := v4) hNd.2.2.2.2.2 rfl
    refine lv_aload_n hx hb dX3_compare_34 rfl (lv_at hl 0 rfl) ?_
    refine zget (ci := 3) (C := RX3) (T := TX3) (N := 15) hx hb hts hi3 hown hK hP hNd.1 rfl rfl 2 (by decide) (hts (.fieldLink RX3 21 "LinCluster$Node" "response" "LLinCluster$Response;") (by decide +kernel)) (fun _ h9 => h9) (v := .ref r) (congrArg (fun z => some (va_rf z)) ((hst.nd hNd).2.2.1)) dX3_compare_35 ?_
    refine vp_callSi (va_Run.run (va_runV (As := []) (rest := []) ⟨hx, hb, hml, hown, hts⟩ (c_X4_isSaid l dC dI cy G (zpi S r 2 v4) H.size r  hNd.2.2.2.2) (cwV 0 hts gX3_compare_X4_isSaid rfl rfl rfl (by decide +kernel) ⟨Nat.le_of_ble_eq_true rfl, Nat.le_of_ble_eq_true rfl⟩) (zpreV hK hP hD hN (zrecv4 hK hP hNd.2.2.2.2)) rfl rfl hl.1 rfl (lv_room (Nat.le_of_ble_eq_true rfl)) dX3_compare_38 ⟨Nat.le_of_ble_eq_true rfl, Nat.le_of_ble_eq_true rfl⟩)) (fun r5 hr5 => ?_)
    refine lv_if_eq (tgt := 48) hx hb dX3_compare_41 (by decide) (fun c6 => ?_) (fun c6 => ?_)
    · skip
      exact W.vret hx hb hr (fun t ht hW => ⟨⟨(zpi S r 2 v4), rfl, hst, by rw [ht]; exact hP, va_K.moved hW.alike hK, hD⟩, hS.F ht⟩) hS.2.2 dX3_compare_48
    · skip
      refine lv_aload_n hx hb dX3_compare_44 rfl (lv_at hl 0 rfl) ?_
      refine zcallv (va_runV (As := []) (rest := []) ⟨hx, hb, hml, hown, hts⟩ (c_X3_finishSaying l dC dI cy G (zpi S r 2 v4) H.size a i r  (hst.nd hNd) (hst.rf hRf)) (cwV 0 hts gX3_compare_X3_finishSaying rfl rfl rfl (by decide +kernel) ⟨Nat.le_of_ble_eq_true rfl, Nat.le_of_ble_eq_true rfl⟩) (zpreV hK hP hD hN (zrecv3 hK hP hNd.1)) rfl rfl hl.1 rfl (lv_room (Nat.le_of_ble_eq_true rfl)) dX3_compare_45 ⟨Nat.le_of_ble_eq_true rfl, Nat.le_of_ble_eq_true rfl⟩) hS hD hA (fun S8 H locs hr7 hP hD hS => ?_)
      have hst := hst.trans hr7
      exact W.vret hx hb hr (fun t ht hW => ⟨⟨S8, rfl, hst, by rw [ht]; exact hP, va_K.moved hW.alike hK, hD⟩, hS.F ht⟩) hS.2.2 dX3_compare_48
  · skip
    refine lv_aload_n hx hb dX3_compare_11 rfl (lv_at hl 0 rfl) ?_
    refine zcallv (va_runV (As := []) (rest := []) ⟨hx, hb, hml, hown, hts⟩ (c_X3_fail l dC dI cy G S s.heap.size a i r  (hst.nd hNd)) (cwV 0 hts gX3_compare_X3_fail rfl rfl rfl (by decide +kernel) ⟨Nat.le_of_ble_eq_true rfl, Nat.le_of_ble_eq_true rfl⟩) (zpreV hK hP hD hN (zrecv3 hK hP hNd.1)) rfl rfl hl.1 rfl (lv_room (Nat.le_of_ble_eq_true rfl)) dX3_compare_12 ⟨Nat.le_of_ble_eq_true rfl, Nat.le_of_ble_eq_true rfl⟩) hS hD hA (fun S10 H locs hr9 hP hD hS => ?_)
    have hst := hst.trans hr9
    refine lv_aload_n hx hb dX3_compare_15 rfl (lv_at hl 0 rfl) ?_
    refine lv_iconst (v := 1) hx hb dX3_compare_16 (by decide) ?_
    refine zputi (ci := 3) (v := 1) (ty := .int) (C := RX3) (T := TX3) (N := 15) hx hb hts hi3 tyX3 tyX3_ok nmX3 hown hK hP hD hS hNd.1 rfl rfl 6 (by decide) (hts (.fieldLink RX3 36 "LinCluster$Node" "at" "I") (by decide +kernel)) (fun _ h9 => h9) rfl (by decide +kernel) rfl rfl (Nat.le_of_ble_eq_true rfl) rfl dX3_compare_17 (fun H locs hP hD hS => ?_)
    have hst := hst.pi (k := 6) (v := 1) hNd.1.2 rfl
    exact W.vret hx hb hr (fun t ht hW => ⟨⟨(zpi S10 a 6 1), rfl, hst, by rw [ht]; exact hP, va_K.moved hW.alike hK, hD⟩, hS.F ht⟩) hS.2.2 dX3_compare_20
set_option maxHeartbeats 4000000 in
set_option maxRecDepth 100000 in
theorem c_X3_finishTaking (l : Launch) (dC : Nat → ClassId) (dI : Nat → Nat → Nat) (cy : Nat → ClassId) (G : zG) (S : zS) (sz : Nat) (a i r : Nat) (hNd : zNd G S a i r) (hRf : zRf G S) : Met l yX3_finishTaking wsX3_finishTaking ({ frames := 2, cells := 0, slots := 0, locals := 44 }) (zP dC dI cy [.ref a] G S sz) (va_Qv (fun S' => zSt G S S') (zB dC dI cy (zA cy G S sz) G) (zA cy G S sz)) 0 0 (zA cy G S sz) := by
  refine Met.ofW (cc := cX3_finishTaking) (maxL := 1) (ret := none) (by decide) rfl ?_
  intro p e s m args below meth c s₁ B hml hv
  obtain ⟨rfl, hsz, hP, hK, hD0, hN⟩ := hv
  have hx := B.exec
  have hb := B.bytes
  have hr := B.returns
  have hts := atoms_spec (ws := wsX3_finishTaking) B.pre
  have hown : s.vm.findClass RX3 = some m.cls := findClass_of_methodNamed B.named
  have hlocks := B.notSynchronized
  subst hsz
  have hD : va_D (zA cy G S s.heap.size) (zW cy G S) := hD0.self
  generalize hAe : zA cy G S s.heap.size = A at hD ⊢
  have hA : ∀ q : Nat, s.heap.size ≤ q → A q := fun q h => by rw [← hAe]; exact Or.inr h
  have hS : va_S A s.heap s.heap [] := va_S.rf
  have hst := zSt.refl G S
  have hl := lv_entry ([.ref a]) (n := 1) (Nat.le_of_ble_eq_true rfl)
  rw [lg_entry_eq]
  generalize (lg_sl ([.ref a]) ++ List.replicate (1 - (lg_sl ([.ref a])).length) Slot.unset).toArray = ls at hl ⊢
  have hl : lv_has ls 1 [(0, .ref a)] := hl
  have hi3 : ∀ w ∈ wsX30, w ∈ wsX3_finishTaking := by decide +kernel
  have hi4 : ∀ w ∈ wsX40, w ∈ wsX3_finishTaking := by decide +kernel
  refine lv_aload_n hx hb dX3_finishTaking_0 rfl (lv_at hl 0 rfl) ?_
  refine lv_dup hx hb dX3_finishTaking_1 rfl ?_
  refine zget (ci := 3) (C := RX3) (T := TX3) (N := 15) hx hb hts hi3 hown hK hP hNd.1 rfl rfl 13 (by decide) (hts (.fieldLink RX3 58 "LinCluster$Node" "responsesTaken" "I") (by decide +kernel)) (fun _ h9 => h9) rfl dX3_finishTaking_2 ?_
  refine lv_topi (fun v1 ev1 => ?_)
  refine lv_iconst (v := 1) hx hb dX3_finishTaking_5 (by decide) ?_
  refine lv_iadd hx hb dX3_finishTaking_6 ?_
  refine lv_topi (fun v2 ev2 => ?_)
  refine zputi (ci := 3) (v := v2) (ty := .int) (C := RX3) (T := TX3) (N := 15) hx hb hts hi3 tyX3 tyX3_ok nmX3 hown hK hP hD hS hNd.1 rfl rfl 13 (by decide) (hts (.fieldLink RX3 58 "LinCluster$Node" "responsesTaken" "I") (by decide +kernel)) (fun _ h9 => h9) rfl (by decide +kernel) rfl rfl (Nat.le_of_ble_eq_true rfl) rfl dX3_finishTaking_7 (fun H locs hP hD hS => ?_)
  have hst := hst.pi (k := 13) (v := v2) hNd.1.2 rfl
  refine lv_aload_n hx hb dX3_finishTaking_10 rfl (lv_at hl 0 rfl) ?_
  refine zget (ci := 3) (C := RX3) (T := TX3) (N := 15) hx hb hts hi3 hown hK hP hNd.1 rfl rfl 2 (by decide) (hts (.fieldLink RX3 21 "LinCluster$Node" "response" "LLinCluster$Response;") (by decide +kernel)) (fun _ h9 => h9) (v := .ref r) (congrArg (fun z => some (va_rf z)) ((hst.nd hNd).2.2.1)) dX3_finishTaking_11 ?_
  refine zget (ci := 4) (C := RX4) (T := TX4) (N := 7) hx hb hts hi4 hown hK hP hNd.2.2.2.2 rfl rfl 0 (by decide) (hts (.fieldLink RX3 148 "LinCluster$Response" "frame" "LLinCluster$Frame;") (by decide +kernel)) (fun _ h9 => h9) rfl dX3_finishTaking_14 ?_
  rcases hq4 : (zpi S a 13 v2).2.2 r 0 with _ | y3
  · refine W.eq (g2 := F0 m 17 ls [.null]) rfl ?_
    refine lv_ifnullN (tgt := 41) hx hb dX3_finishTaking_17 (by decide) ?_
    refine lv_aload_n hx hb dX3_finishTaking_41 rfl (lv_at hl 0 rfl) ?_
    refine zcallv (va_runV (As := []) (rest := []) ⟨hx, hb, hml, hown, hts⟩ (c_X3_rest l dC dI cy G (zpi S a 13 v2) H.size a i r  (hst.nd hNd) (hst.rf hRf)) (cwV 0 hts gX3_finishTaking_X3_rest rfl rfl rfl (by decide +kernel) ⟨Nat.le_of_ble_eq_true rfl, Nat.le_of_ble_eq_true rfl⟩) (zpreV hK hP hD hN (zrecv3 hK hP hNd.1)) rfl rfl hl.1 rfl (lv_room (Nat.le_of_ble_eq_true rfl)) dX3_finishTaking_42 ⟨Nat.le_of_ble_eq_true rfl, Nat.le_of_ble_eq_true rfl⟩) hS hD hA (fun S6 H locs hr5 hP hD hS => ?_)
    have hst := hst.trans hr5
    exact W.vret hx hb hr (fun t ht hW => ⟨⟨S6, rfl, hst, by rw [ht]; exact hP, va_K.moved hW.alike hK, hD⟩, hS.F ht⟩) hS.2.2 dX3_finishTaking_45
  · refine W.eq (g2 := F0 m 17 ls [.ref y3]) rfl ?_
    obtain ⟨k7, t8, hF9⟩ := hst.feb (hst.rf hRf r y3 hNd.2.2.2.2.2 hq4)
    refine lv_ifnull hx hb dX3_finishTaking_17 ?_
    refine lv_aload_n hx hb dX3_finishTaking_20 rfl (lv_at hl 0 rfl) ?_
    refine zget (ci := 3) (C := RX3) (T := TX3) (N := 15) hx hb hts hi3 hown hK hP hNd.1 rfl rfl 2 (by decide) (hts (.fieldLink RX3 21 "LinCluster$Node" "response" "LLinCluster$Response;") (by decide +kernel)) (fun _ h9 => h9) (v := .ref r) (congrArg (fun z => some (va_rf z)) ((hst.nd hNd).2.2.1)) dX3_finishTaking_21 ?_
    refine zget (ci := 4) (C := RX4) (T := TX4) (N := 7) hx hb hts hi4 hown hK hP hNd.2.2.2.2 rfl rfl 0 (by decide) (hts (.fieldLink RX3 148 "LinCluster$Response" "frame" "LLinCluster$Frame;") (by decide +kernel)) (fun _ h9 => h9) (v := .ref y3) (congrArg (fun z => some (va_rf z)) (hq4)) dX3_finishTaking_24 ?_
    refine lv_aload_n hx hb dX3_finishTaking_27 rfl (lv_at hl 0 rfl) ?_
    refine zget (ci := 3) (C := RX3) (T := TX3) (N := 15) hx hb hts hi3 hown hK hP hNd.1 rfl rfl 0 (by decide) (hts (.fieldLink RX3 64 "LinCluster$Node" "number" "I") (by decide +kernel)) (fun _ h9 => h9) rfl dX3_finishTaking_28 ?_
    refine lv_topi (fun v10 ev10 => ?_)
    refine lv_aload_n hx hb dX3_finishTaking_31 rfl (lv_at hl 0 rfl) ?_
    refine zget (ci := 3) (C := RX3) (T := TX3) (N := 15) hx hb hts hi3 hown hK hP hNd.1 rfl rfl 2 (by decide) (hts (.fieldLink RX3 21 "LinCluster$Node" "response" "LLinCluster$Response;") (by decide +kernel)) (fun _ h9 => h9) (v := .ref r) (congrArg (fun z => some (va_rf z)) ((hst.nd hNd).2.2.1)) dX3_finishTaking_32 ?_
    refine zget (ci := 4) (C := RX4) (T := TX4) (N := 7) hx hb hts hi4 hown hK hP hNd.2.2.2.2 rfl rfl 1 (by decide) (hts (.fieldLink RX3 169 "LinCluster$Response" "bytes" "J") (by decide +kernel)) (fun _ h9 => h9) rfl dX3_finishTaking_35 ?_
    refine lv_topl (fun v11 ev11 => ?_)
    refine zcallv (va_runV (As := [.int v10, .long v11]) (rest := []) ⟨hx, hb, hml, hown, hts⟩ (c_X1_keep l dC dI cy G (zpi S a 13 v2) H.size y3 k7 t8 v10 v11 (hst.fr hF9)) (cwV 2 hts gX3_finishTaking_X1_keep rfl rfl rfl (by decide +kernel) ⟨Nat.le_of_ble_eq_true rfl, Nat.le_of_ble_eq_true rfl⟩) (zpreV hK hP hD hN (zrecv1 hK hP hF9.1)) rfl rfl hl.1 rfl (lv_room (Nat.le_of_ble_eq_true rfl)) dX3_finishTaking_38 ⟨Nat.le_of_ble_eq_true rfl, Nat.le_of_ble_eq_true rfl⟩) hS hD hA (fun S13 H locs hr12 hP hD hS => ?_)
    have hst := hst.trans hr12
    refine lv_aload_n hx hb dX3_finishTaking_41 rfl (lv_at hl 0 rfl) ?_
    refine zcallv (va_runV (As := []) (rest := []) ⟨hx, hb, hml, hown, hts⟩ (c_X3_rest l dC dI cy G S13 H.size a i r  (hst.nd hNd) (hst.rf hRf)) (cwV 0 hts gX3_finishTaking_X3_rest rfl rfl rfl (by decide +kernel) ⟨Nat.le_of_ble_eq_true rfl, Nat.le_of_ble_eq_true rfl⟩) (zpreV hK hP hD hN (zrecv3 hK hP hNd.1)) rfl rfl hl.1 rfl (lv_room (Nat.le_of_ble_eq_true rfl)) dX3_finishTaking_42 ⟨Nat.le_of_ble_eq_true rfl, Nat.le_of_ble_eq_true rfl⟩) hS hD hA (fun S15 H locs hr14 hP hD hS => ?_)
    have hst := hst.trans hr14
    exact W.vret hx hb hr (fun t ht hW => ⟨⟨S15, rfl, hst, by rw [ht]; exact hP, va_K.moved hW.alike hK, hD⟩, hS.F ht⟩) hS.2.2 dX3_finishTaking_45
set_option maxHeartbeats 4000000 in
set_option maxRecDepth 100000 in
theorem c_X3_take (l : Launch) (dC : Nat → ClassId) (dI : Nat → Nat → Nat) (cy : Nat → ClassId) (G : zG) (S : zS) (sz : Nat) (a i r : Nat) (n : Int32) (hNd : zNd G S a i r) (hRf : zRf G S) : Met l yX3_take wsX3_take ({ frames := 3, cells := 0, slots := 0, locals := 64 }) (zP dC dI cy [.ref a, .int n] G S sz) (va_Qv (fun S' => zSt G S S') (zB dC dI cy (zA cy G S sz) G) (zA cy G S sz)) 0 0 (zA cy G S sz) := by
  refine Met.ofW (cc := cX3_take) (maxL := 3) (ret := none) (by decide) rfl ?_
  intro p e s m args below meth c s₁ B hml hv
  obtain ⟨rfl, hsz, hP, hK, hD0, hN⟩ := hv
  have hx := B.exec
  have hb := B.bytes
  have hr := B.returns
  have hts := atoms_spec (ws := wsX3_take) B.pre
  have hown : s.vm.findClass RX3 = some m.cls := findClass_of_methodNamed B.named
  have hlocks := B.notSynchronized
  subst hsz
  have hD : va_D (zA cy G S s.heap.size) (zW cy G S) := hD0.self
  generalize hAe : zA cy G S s.heap.size = A at hD ⊢
  have hA : ∀ q : Nat, s.heap.size ≤ q → A q := fun q h => by rw [← hAe]; exact Or.inr h
  have hS : va_S A s.heap s.heap [] := va_S.rf
  have hst := zSt.refl G S
  have hl := lv_entry ([.ref a, .int n]) (n := 3) (Nat.le_of_ble_eq_true rfl)
  rw [lg_entry_eq]
  generalize (lg_sl ([.ref a, .int n]) ++ List.replicate (3 - (lg_sl ([.ref a, .int n])).length) Slot.unset).toArray = ls at hl ⊢
  have hl : lv_has ls 3 [(0, .ref a), (1, .int n)] := hl
  have hi3 : ∀ w ∈ wsX30, w ∈ wsX3_take := by decide +kernel
  have hi4 : ∀ w ∈ wsX40, w ∈ wsX3_take := by decide +kernel
  refine lv_aload_n hx hb dX3_take_0 rfl (lv_at hl 0 rfl) ?_
  refine zget (ci := 3) (C := RX3) (T := TX3) (N := 15) hx hb hts hi3 hown hK hP hNd.1 rfl rfl 2 (by decide) (hts (.fieldLink RX3 21 "LinCluster$Node" "response" "LLinCluster$Response;") (by decide +kernel)) (fun _ h9 => h9) (v := .ref r) (congrArg (fun z => some (va_rf z)) ((hst.nd hNd).2.2.1)) dX3_take_1 ?_
  refine lv_dup hx hb dX3_take_4 rfl ?_
  refine zget (ci := 4) (C := RX4) (T := TX4) (N := 7) hx hb hts hi4 hown hK hP hNd.2.2.2.2 rfl rfl 2 (by decide) (hts (.fieldLink RX3 139 "LinCluster$Response" "passed" "I") (by decide +kernel)) (fun _ h9 => h9) rfl dX3_take_5 ?_
  refine lv_topi (fun v1 ev1 => ?_)
  refine lv_iconst (v := 1) hx hb dX3_take_8 (by decide) ?_
  refine lv_iadd hx hb dX3_take_9 ?_
  refine lv_topi (fun v2 ev2 => ?_)
  refine zputi (ci := 4) (v := v2) (ty := .int) (C := RX4) (T := TX4) (N := 7) hx hb hts hi4 tyX4 tyX4_ok nmX4 hown hK hP hD hS hNd.2.2.2.2 rfl rfl 2 (by decide) (hts (.fieldLink RX3 139 "LinCluster$Response" "passed" "I") (by decide +kernel)) (fun _ h9 => h9) rfl (by decide +kernel) rfl rfl (Nat.le_of_ble_eq_true rfl) rfl dX3_take_10 (fun H locs hP hD hS => ?_)
  have hst := hst.pi (k := 2) (v := v2) hNd.2.2.2.2.2 rfl
  refine lv_aload_n hx hb dX3_take_13 rfl (lv_at hl 0 rfl) ?_
  refine zget (ci := 3) (C := RX3) (T := TX3) (N := 15) hx hb hts hi3 hown hK hP hNd.1 rfl rfl 1 (by decide) (hts (.fieldLink RX3 12 "LinCluster$Node" "incoming" "LLinCluster$Incoming;") (by decide +kernel)) (fun _ h9 => h9) (v := .ref i) (congrArg (fun z => some (va_rf z)) ((hst.nd hNd).2.1)) dX3_take_14 ?_
  refine lv_iload_n hx hb dX3_take_17 rfl (lv_at hl 1 rfl) ?_
  refine zcalli (va_runV (As := [.int n]) (rest := []) ⟨hx, hb, hml, hown, hts⟩ (c_X2_add l dC dI cy G (zpi S r 2 v2) H.size i n hNd.2.2.2.1) (cwV 1 hts gX3_take_X2_add rfl rfl rfl (by decide +kernel) ⟨Nat.le_of_ble_eq_true rfl, Nat.le_of_ble_eq_true rfl⟩) (zpreV hK hP hD hN (zrecv2 hK hP hNd.2.2.2.1)) rfl rfl hl.1 rfl (lv_room (Nat.le_of_ble_eq_true rfl)) dX3_take_18 ⟨Nat.le_of_ble_eq_true rfl, Nat.le_of_ble_eq_true rfl⟩) hS hD hA (fun r3 S4 H locs hr3 hP hD hS => ?_)
  have hst := hst.trans hr3
  refine lv_istore_n (lv' := [(2, .int r3), (0, .ref a), (1, .int n)]) hx hb dX3_take_21 rfl hl (by decide) rfl (fun ls hl => ?_)
  refine lv_iload_n hx hb dX3_take_22 rfl (lv_at hl 0 rfl) ?_
  refine lv_if_lt (tgt := 34) hx hb dX3_take_23 (by decide) (fun c5 => ?_) (fun c5 => ?_)
  · skip
    refine lv_aload_n hx hb dX3_take_34 rfl (lv_at hl 1 rfl) ?_
    refine zget (ci := 3) (C := RX3) (T := TX3) (N := 15) hx hb hts hi3 hown hK hP hNd.1 rfl rfl 2 (by decide) (hts (.fieldLink RX3 21 "LinCluster$Node" "response" "LLinCluster$Response;") (by decide +kernel)) (fun _ h9 => h9) (v := .ref r) (congrArg (fun z => some (va_rf z)) ((hst.nd hNd).2.2.1)) dX3_take_35 ?_
    refine vp_callSi (va_Run.run (va_runV (As := []) (rest := []) ⟨hx, hb, hml, hown, hts⟩ (c_X4_isTaken l dC dI cy G S4 H.size r  hNd.2.2.2.2) (cwV 0 hts gX3_take_X4_isTaken rfl rfl rfl (by decide +kernel) ⟨Nat.le_of_ble_eq_true rfl, Nat.le_of_ble_eq_true rfl⟩) (zpreV hK hP hD hN (zrecv4 hK hP hNd.2.2.2.2)) rfl rfl hl.1 rfl (lv_room (Nat.le_of_ble_eq_true rfl)) dX3_take_38 ⟨Nat.le_of_ble_eq_true rfl, Nat.le_of_ble_eq_true rfl⟩)) (fun r6 hr6 => ?_)
    refine lv_if_eq (tgt := 61) hx hb dX3_take_41 (by decide) (fun c7 => ?_) (fun c7 => ?_)
    · skip
      refine lv_iload_n hx hb dX3_take_61 rfl (lv_at hl 0 rfl) ?_
      refine lv_bipush (v := (-2)) hx hb dX3_take_62 (by decide) ?_
      refine lv_icmp_eq (tgt := 87) hx hb dX3_take_64 (by decide) (fun c8 => ?_) (fun c8 => ?_)
      · skip
        refine lv_aload_n hx hb dX3_take_87 rfl (lv_at hl 1 rfl) ?_
        refine zcallv (va_runV (As := []) (rest := []) ⟨hx, hb, hml, hown, hts⟩ (c_X3_fail l dC dI cy G S4 H.size a i r  (hst.nd hNd)) (cwV 0 hts gX3_take_X3_fail rfl rfl rfl (by decide +kernel) ⟨Nat.le_of_ble_eq_true rfl, Nat.le_of_ble_eq_true rfl⟩) (zpreV hK hP hD hN (zrecv3 hK hP hNd.1)) rfl rfl hl.1 rfl (lv_room (Nat.le_of_ble_eq_true rfl)) dX3_take_88 ⟨Nat.le_of_ble_eq_true rfl, Nat.le_of_ble_eq_true rfl⟩) hS hD hA (fun S10 H locs hr9 hP hD hS => ?_)
        have hst := hst.trans hr9
        refine lv_aload_n hx hb dX3_take_91 rfl (lv_at hl 1 rfl) ?_
        refine lv_iconst (v := 1) hx hb dX3_take_92 (by decide) ?_
        refine zputi (ci := 3) (v := 1) (ty := .int) (C := RX3) (T := TX3) (N := 15) hx hb hts hi3 tyX3 tyX3_ok nmX3 hown hK hP hD hS hNd.1 rfl rfl 6 (by decide) (hts (.fieldLink RX3 36 "LinCluster$Node" "at" "I") (by decide +kernel)) (fun _ h9 => h9) rfl (by decide +kernel) rfl rfl (Nat.le_of_ble_eq_true rfl) rfl dX3_take_93 (fun H locs hP hD hS => ?_)
        have hst := hst.pi (k := 6) (v := 1) hNd.1.2 rfl
        exact W.vret hx hb hr (fun t ht hW => ⟨⟨(zpi S10 a 6 1), rfl, hst, by rw [ht]; exact hP, va_K.moved hW.alike hK, hD⟩, hS.F ht⟩) hS.2.2 dX3_take_96
      · skip
        refine lv_aload_n hx hb dX3_take_67 rfl (lv_at hl 1 rfl) ?_
        refine zget (ci := 3) (C := RX3) (T := TX3) (N := 15) hx hb hts hi3 hown hK hP hNd.1 rfl rfl 2 (by decide) (hts (.fieldLink RX3 21 "LinCluster$Node" "response" "LLinCluster$Response;") (by decide +kernel)) (fun _ h9 => h9) (v := .ref r) (congrArg (fun z => some (va_rf z)) ((hst.nd hNd).2.2.1)) dX3_take_68 ?_
        refine vp_callSi (va_Run.run (va_runV (As := []) (rest := []) ⟨hx, hb, hml, hown, hts⟩ (c_X4_isTaken l dC dI cy G S4 H.size r  hNd.2.2.2.2) (cwV 0 hts gX3_take_X4_isTaken rfl rfl rfl (by decide +kernel) ⟨Nat.le_of_ble_eq_true rfl, Nat.le_of_ble_eq_true rfl⟩) (zpreV hK hP hD hN (zrecv4 hK hP hNd.2.2.2.2)) rfl rfl hl.1 rfl (lv_room (Nat.le_of_ble_eq_true rfl)) dX3_take_71 ⟨Nat.le_of_ble_eq_true rfl, Nat.le_of_ble_eq_true rfl⟩)) (fun r11 hr11 => ?_)
        refine lv_if_ne (tgt := 87) hx hb dX3_take_74 (by decide) (fun c12 => ?_) (fun c12 => ?_)
        · skip
          refine lv_aload_n hx hb dX3_take_87 rfl (lv_at hl 1 rfl) ?_
          refine zcallv (va_runV (As := []) (rest := []) ⟨hx, hb, hml, hown, hts⟩ (c_X3_fail l dC dI cy G S4 H.size a i r  (hst.nd hNd)) (cwV 0 hts gX3_take_X3_fail rfl rfl rfl (by decide +kernel) ⟨Nat.le_of_ble_eq_true rfl, Nat.le_of_ble_eq_true rfl⟩) (zpreV hK hP hD hN (zrecv3 hK hP hNd.1)) rfl rfl hl.1 rfl (lv_room (Nat.le_of_ble_eq_true rfl)) dX3_take_88 ⟨Nat.le_of_ble_eq_true rfl, Nat.le_of_ble_eq_true rfl⟩) hS hD hA (fun S14 H locs hr13 hP hD hS => ?_)
          have hst := hst.trans hr13
          refine lv_aload_n hx hb dX3_take_91 rfl (lv_at hl 1 rfl) ?_
          refine lv_iconst (v := 1) hx hb dX3_take_92 (by decide) ?_
          refine zputi (ci := 3) (v := 1) (ty := .int) (C := RX3) (T := TX3) (N := 15) hx hb hts hi3 tyX3 tyX3_ok nmX3 hown hK hP hD hS hNd.1 rfl rfl 6 (by decide) (hts (.fieldLink RX3 36 "LinCluster$Node" "at" "I") (by decide +kernel)) (fun _ h9 => h9) rfl (by decide +kernel) rfl rfl (Nat.le_of_ble_eq_true rfl) rfl dX3_take_93 (fun H locs hP hD hS => ?_)
          have hst := hst.pi (k := 6) (v := 1) hNd.1.2 rfl
          exact W.vret hx hb hr (fun t ht hW => ⟨⟨(zpi S14 a 6 1), rfl, hst, by rw [ht]; exact hP, va_K.moved hW.alike hK, hD⟩, hS.F ht⟩) hS.2.2 dX3_take_96
        · skip
          refine lv_aload_n hx hb dX3_take_77 rfl (lv_at hl 1 rfl) ?_
          refine zget (ci := 3) (C := RX3) (T := TX3) (N := 15) hx hb hts hi3 hown hK hP hNd.1 rfl rfl 2 (by decide) (hts (.fieldLink RX3 21 "LinCluster$Node" "response" "LLinCluster$Response;") (by decide +kernel)) (fun _ h9 => h9) (v := .ref r) (congrArg (fun z => some (va_rf z)) ((hst.nd hNd).2.2.1)) dX3_take_78 ?_
          refine vp_callSi (va_Run.run (va_runV (As := []) (rest := []) ⟨hx, hb, hml, hown, hts⟩ (c_X4_isLate l dC dI cy G S4 H.size r  hNd.2.2.2.2) (cwV 0 hts gX3_take_X4_isLate rfl rfl rfl (by decide +kernel) ⟨Nat.le_of_ble_eq_true rfl, Nat.le_of_ble_eq_true rfl⟩) (zpreV hK hP hD hN (zrecv4 hK hP hNd.2.2.2.2)) rfl rfl hl.1 rfl (lv_room (Nat.le_of_ble_eq_true rfl)) dX3_take_81 ⟨Nat.le_of_ble_eq_true rfl, Nat.le_of_ble_eq_true rfl⟩)) (fun r15 hr15 => ?_)
          refine lv_if_eq (tgt := 96) hx hb dX3_take_84 (by decide) (fun c16 => ?_) (fun c16 => ?_)
          · skip
            exact W.vret hx hb hr (fun t ht hW => ⟨⟨S4, rfl, hst, by rw [ht]; exact hP, va_K.moved hW.alike hK, hD⟩, hS.F ht⟩) hS.2.2 dX3_take_96
          · skip
            refine lv_aload_n hx hb dX3_take_87 rfl (lv_at hl 1 rfl) ?_
            refine zcallv (va_runV (As := []) (rest := []) ⟨hx, hb, hml, hown, hts⟩ (c_X3_fail l dC dI cy G S4 H.size a i r  (hst.nd hNd)) (cwV 0 hts gX3_take_X3_fail rfl rfl rfl (by decide +kernel) ⟨Nat.le_of_ble_eq_true rfl, Nat.le_of_ble_eq_true rfl⟩) (zpreV hK hP hD hN (zrecv3 hK hP hNd.1)) rfl rfl hl.1 rfl (lv_room (Nat.le_of_ble_eq_true rfl)) dX3_take_88 ⟨Nat.le_of_ble_eq_true rfl, Nat.le_of_ble_eq_true rfl⟩) hS hD hA (fun S18 H locs hr17 hP hD hS => ?_)
            have hst := hst.trans hr17
            refine lv_aload_n hx hb dX3_take_91 rfl (lv_at hl 1 rfl) ?_
            refine lv_iconst (v := 1) hx hb dX3_take_92 (by decide) ?_
            refine zputi (ci := 3) (v := 1) (ty := .int) (C := RX3) (T := TX3) (N := 15) hx hb hts hi3 tyX3 tyX3_ok nmX3 hown hK hP hD hS hNd.1 rfl rfl 6 (by decide) (hts (.fieldLink RX3 36 "LinCluster$Node" "at" "I") (by decide +kernel)) (fun _ h9 => h9) rfl (by decide +kernel) rfl rfl (Nat.le_of_ble_eq_true rfl) rfl dX3_take_93 (fun H locs hP hD hS => ?_)
            have hst := hst.pi (k := 6) (v := 1) hNd.1.2 rfl
            exact W.vret hx hb hr (fun t ht hW => ⟨⟨(zpi S18 a 6 1), rfl, hst, by rw [ht]; exact hP, va_K.moved hW.alike hK, hD⟩, hS.F ht⟩) hS.2.2 dX3_take_96
    · skip
      refine lv_aload_n hx hb dX3_take_44 rfl (lv_at hl 1 rfl) ?_
      refine zget (ci := 3) (C := RX3) (T := TX3) (N := 15) hx hb hts hi3 hown hK hP hNd.1 rfl rfl 2 (by decide) (hts (.fieldLink RX3 21 "LinCluster$Node" "response" "LLinCluster$Response;") (by decide +kernel)) (fun _ h9 => h9) (v := .ref r) (congrArg (fun z => some (va_rf z)) ((hst.nd hNd).2.2.1)) dX3_take_45 ?_
      refine vp_callSi (va_Run.run (va_runV (As := []) (rest := []) ⟨hx, hb, hml, hown, hts⟩ (c_X4_isRight l dC dI cy G S4 H.size r hNd.2.2.2.2 (hst.rf hRf)) (cwV 0 hts gX3_take_X4_isRight rfl rfl rfl (by decide +kernel) ⟨Nat.le_of_ble_eq_true rfl, Nat.le_of_ble_eq_true rfl⟩) (zpreV hK hP hD hN (zrecv4 hK hP hNd.2.2.2.2)) rfl rfl hl.1 rfl (lv_room (Nat.le_of_ble_eq_true rfl)) dX3_take_48 ⟨Nat.le_of_ble_eq_true rfl, Nat.le_of_ble_eq_true rfl⟩)) (fun r19 hr19 => ?_)
      refine lv_if_eq (tgt := 61) hx hb dX3_take_51 (by decide) (fun c20 => ?_) (fun c20 => ?_)
      · skip
        refine lv_iload_n hx hb dX3_take_61 rfl (lv_at hl 0 rfl) ?_
        refine lv_bipush (v := (-2)) hx hb dX3_take_62 (by decide) ?_
        refine lv_icmp_eq (tgt := 87) hx hb dX3_take_64 (by decide) (fun c21 => ?_) (fun c21 => ?_)
        · skip
          refine lv_aload_n hx hb dX3_take_87 rfl (lv_at hl 1 rfl) ?_
          refine zcallv (va_runV (As := []) (rest := []) ⟨hx, hb, hml, hown, hts⟩ (c_X3_fail l dC dI cy G S4 H.size a i r  (hst.nd hNd)) (cwV 0 hts gX3_take_X3_fail rfl rfl rfl (by decide +kernel) ⟨Nat.le_of_ble_eq_true rfl, Nat.le_of_ble_eq_true rfl⟩) (zpreV hK hP hD hN (zrecv3 hK hP hNd.1)) rfl rfl hl.1 rfl (lv_room (Nat.le_of_ble_eq_true rfl)) dX3_take_88 ⟨Nat.le_of_ble_eq_true rfl, Nat.le_of_ble_eq_true rfl⟩) hS hD hA (fun S23 H locs hr22 hP hD hS => ?_)
          have hst := hst.trans hr22
          refine lv_aload_n hx hb dX3_take_91 rfl (lv_at hl 1 rfl) ?_
          refine lv_iconst (v := 1) hx hb dX3_take_92 (by decide) ?_
          refine zputi (ci := 3) (v := 1) (ty := .int) (C := RX3) (T := TX3) (N := 15) hx hb hts hi3 tyX3 tyX3_ok nmX3 hown hK hP hD hS hNd.1 rfl rfl 6 (by decide) (hts (.fieldLink RX3 36 "LinCluster$Node" "at" "I") (by decide +kernel)) (fun _ h9 => h9) rfl (by decide +kernel) rfl rfl (Nat.le_of_ble_eq_true rfl) rfl dX3_take_93 (fun H locs hP hD hS => ?_)
          have hst := hst.pi (k := 6) (v := 1) hNd.1.2 rfl
          exact W.vret hx hb hr (fun t ht hW => ⟨⟨(zpi S23 a 6 1), rfl, hst, by rw [ht]; exact hP, va_K.moved hW.alike hK, hD⟩, hS.F ht⟩) hS.2.2 dX3_take_96
        · skip
          refine lv_aload_n hx hb dX3_take_67 rfl (lv_at hl 1 rfl) ?_
          refine zget (ci := 3) (C := RX3) (T := TX3) (N := 15) hx hb hts hi3 hown hK hP hNd.1 rfl rfl 2 (by decide) (hts (.fieldLink RX3 21 "LinCluster$Node" "response" "LLinCluster$Response;") (by decide +kernel)) (fun _ h9 => h9) (v := .ref r) (congrArg (fun z => some (va_rf z)) ((hst.nd hNd).2.2.1)) dX3_take_68 ?_
          refine vp_callSi (va_Run.run (va_runV (As := []) (rest := []) ⟨hx, hb, hml, hown, hts⟩ (c_X4_isTaken l dC dI cy G S4 H.size r  hNd.2.2.2.2) (cwV 0 hts gX3_take_X4_isTaken rfl rfl rfl (by decide +kernel) ⟨Nat.le_of_ble_eq_true rfl, Nat.le_of_ble_eq_true rfl⟩) (zpreV hK hP hD hN (zrecv4 hK hP hNd.2.2.2.2)) rfl rfl hl.1 rfl (lv_room (Nat.le_of_ble_eq_true rfl)) dX3_take_71 ⟨Nat.le_of_ble_eq_true rfl, Nat.le_of_ble_eq_true rfl⟩)) (fun r24 hr24 => ?_)
          refine lv_if_ne (tgt := 87) hx hb dX3_take_74 (by decide) (fun c25 => ?_) (fun c25 => ?_)
          · skip
            refine lv_aload_n hx hb dX3_take_87 rfl (lv_at hl 1 rfl) ?_
            refine zcallv (va_runV (As := []) (rest := []) ⟨hx, hb, hml, hown, hts⟩ (c_X3_fail l dC dI cy G S4 H.size a i r  (hst.nd hNd)) (cwV 0 hts gX3_take_X3_fail rfl rfl rfl (by decide +kernel) ⟨Nat.le_of_ble_eq_true rfl, Nat.le_of_ble_eq_true rfl⟩) (zpreV hK hP hD hN (zrecv3 hK hP hNd.1)) rfl rfl hl.1 rfl (lv_room (Nat.le_of_ble_eq_true rfl)) dX3_take_88 ⟨Nat.le_of_ble_eq_true rfl, Nat.le_of_ble_eq_true rfl⟩) hS hD hA (fun S27 H locs hr26 hP hD hS => ?_)
            have hst := hst.trans hr26
            refine lv_aload_n hx hb dX3_take_91 rfl (lv_at hl 1 rfl) ?_
            refine lv_iconst (v := 1) hx hb dX3_take_92 (by decide) ?_
            refine zputi (ci := 3) (v := 1) (ty := .int) (C := RX3) (T := TX3) (N := 15) hx hb hts hi3 tyX3 tyX3_ok nmX3 hown hK hP hD hS hNd.1 rfl rfl 6 (by decide) (hts (.fieldLink RX3 36 "LinCluster$Node" "at" "I") (by decide +kernel)) (fun _ h9 => h9) rfl (by decide +kernel) rfl rfl (Nat.le_of_ble_eq_true rfl) rfl dX3_take_93 (fun H locs hP hD hS => ?_)
            have hst := hst.pi (k := 6) (v := 1) hNd.1.2 rfl
            exact W.vret hx hb hr (fun t ht hW => ⟨⟨(zpi S27 a 6 1), rfl, hst, by rw [ht]; exact hP, va_K.moved hW.alike hK, hD⟩, hS.F ht⟩) hS.2.2 dX3_take_96
          · skip
            refine lv_aload_n hx hb dX3_take_77 rfl (lv_at hl 1 rfl) ?_
            refine zget (ci := 3) (C := RX3) (T := TX3) (N := 15) hx hb hts hi3 hown hK hP hNd.1 rfl rfl 2 (by decide) (hts (.fieldLink RX3 21 "LinCluster$Node" "response" "LLinCluster$Response;") (by decide +kernel)) (fun _ h9 => h9) (v := .ref r) (congrArg (fun z => some (va_rf z)) ((hst.nd hNd).2.2.1)) dX3_take_78 ?_
            refine vp_callSi (va_Run.run (va_runV (As := []) (rest := []) ⟨hx, hb, hml, hown, hts⟩ (c_X4_isLate l dC dI cy G S4 H.size r  hNd.2.2.2.2) (cwV 0 hts gX3_take_X4_isLate rfl rfl rfl (by decide +kernel) ⟨Nat.le_of_ble_eq_true rfl, Nat.le_of_ble_eq_true rfl⟩) (zpreV hK hP hD hN (zrecv4 hK hP hNd.2.2.2.2)) rfl rfl hl.1 rfl (lv_room (Nat.le_of_ble_eq_true rfl)) dX3_take_81 ⟨Nat.le_of_ble_eq_true rfl, Nat.le_of_ble_eq_true rfl⟩)) (fun r28 hr28 => ?_)
            refine lv_if_eq (tgt := 96) hx hb dX3_take_84 (by decide) (fun c29 => ?_) (fun c29 => ?_)
            · skip
              exact W.vret hx hb hr (fun t ht hW => ⟨⟨S4, rfl, hst, by rw [ht]; exact hP, va_K.moved hW.alike hK, hD⟩, hS.F ht⟩) hS.2.2 dX3_take_96
            · skip
              refine lv_aload_n hx hb dX3_take_87 rfl (lv_at hl 1 rfl) ?_
              refine zcallv (va_runV (As := []) (rest := []) ⟨hx, hb, hml, hown, hts⟩ (c_X3_fail l dC dI cy G S4 H.size a i r  (hst.nd hNd)) (cwV 0 hts gX3_take_X3_fail rfl rfl rfl (by decide +kernel) ⟨Nat.le_of_ble_eq_true rfl, Nat.le_of_ble_eq_true rfl⟩) (zpreV hK hP hD hN (zrecv3 hK hP hNd.1)) rfl rfl hl.1 rfl (lv_room (Nat.le_of_ble_eq_true rfl)) dX3_take_88 ⟨Nat.le_of_ble_eq_true rfl, Nat.le_of_ble_eq_true rfl⟩) hS hD hA (fun S31 H locs hr30 hP hD hS => ?_)
              have hst := hst.trans hr30
              refine lv_aload_n hx hb dX3_take_91 rfl (lv_at hl 1 rfl) ?_
              refine lv_iconst (v := 1) hx hb dX3_take_92 (by decide) ?_
              refine zputi (ci := 3) (v := 1) (ty := .int) (C := RX3) (T := TX3) (N := 15) hx hb hts hi3 tyX3 tyX3_ok nmX3 hown hK hP hD hS hNd.1 rfl rfl 6 (by decide) (hts (.fieldLink RX3 36 "LinCluster$Node" "at" "I") (by decide +kernel)) (fun _ h9 => h9) rfl (by decide +kernel) rfl rfl (Nat.le_of_ble_eq_true rfl) rfl dX3_take_93 (fun H locs hP hD hS => ?_)
              have hst := hst.pi (k := 6) (v := 1) hNd.1.2 rfl
              exact W.vret hx hb hr (fun t ht hW => ⟨⟨(zpi S31 a 6 1), rfl, hst, by rw [ht]; exact hP, va_K.moved hW.alike hK, hD⟩, hS.F ht⟩) hS.2.2 dX3_take_96
      · skip
        refine lv_aload_n hx hb dX3_take_54 rfl (lv_at hl 1 rfl) ?_
        refine zcallv (va_runV (As := []) (rest := []) ⟨hx, hb, hml, hown, hts⟩ (c_X3_finishTaking l dC dI cy G S4 H.size a i r  (hst.nd hNd) (hst.rf hRf)) (cwV 0 hts gX3_take_X3_finishTaking rfl rfl rfl (by decide +kernel) ⟨Nat.le_of_ble_eq_true rfl, Nat.le_of_ble_eq_true rfl⟩) (zpreV hK hP hD hN (zrecv3 hK hP hNd.1)) rfl rfl hl.1 rfl (lv_room (Nat.le_of_ble_eq_true rfl)) dX3_take_55 ⟨Nat.le_of_ble_eq_true rfl, Nat.le_of_ble_eq_true rfl⟩) hS hD hA (fun S33 H locs hr32 hP hD hS => ?_)
        have hst := hst.trans hr32
        refine lv_goto (tgt := 96) hx hb dX3_take_58 (by decide) ?_
        exact W.vret hx hb hr (fun t ht hW => ⟨⟨S33, rfl, hst, by rw [ht]; exact hP, va_K.moved hW.alike hK, hD⟩, hS.F ht⟩) hS.2.2 dX3_take_96
  · skip
    refine lv_aload_n hx hb dX3_take_26 rfl (lv_at hl 1 rfl) ?_
    refine zget (ci := 3) (C := RX3) (T := TX3) (N := 15) hx hb hts hi3 hown hK hP hNd.1 rfl rfl 2 (by decide) (hts (.fieldLink RX3 21 "LinCluster$Node" "response" "LLinCluster$Response;") (by decide +kernel)) (fun _ h9 => h9) (v := .ref r) (congrArg (fun z => some (va_rf z)) ((hst.nd hNd).2.2.1)) dX3_take_27 ?_
    refine lv_iload_n hx hb dX3_take_30 rfl (lv_at hl 0 rfl) ?_
    refine zcallv (va_runV (As := [.int r3]) (rest := []) ⟨hx, hb, hml, hown, hts⟩ (c_X4_addCharacter l dC dI cy G S4 H.size r r3 hNd.2.2.2.2) (cwV 1 hts gX3_take_X4_addCharacter rfl rfl rfl (by decide +kernel) ⟨Nat.le_of_ble_eq_true rfl, Nat.le_of_ble_eq_true rfl⟩) (zpreV hK hP hD hN (zrecv4 hK hP hNd.2.2.2.2)) rfl rfl hl.1 rfl (lv_room (Nat.le_of_ble_eq_true rfl)) dX3_take_31 ⟨Nat.le_of_ble_eq_true rfl, Nat.le_of_ble_eq_true rfl⟩) hS hD hA (fun S35 H locs hr34 hP hD hS => ?_)
    have hst := hst.trans hr34
    refine lv_aload_n hx hb dX3_take_34 rfl (lv_at hl 1 rfl) ?_
    refine zget (ci := 3) (C := RX3) (T := TX3) (N := 15) hx hb hts hi3 hown hK hP hNd.1 rfl rfl 2 (by decide) (hts (.fieldLink RX3 21 "LinCluster$Node" "response" "LLinCluster$Response;") (by decide +kernel)) (fun _ h9 => h9) (v := .ref r) (congrArg (fun z => some (va_rf z)) ((hst.nd hNd).2.2.1)) dX3_take_35 ?_
    refine vp_callSi (va_Run.run (va_runV (As := []) (rest := []) ⟨hx, hb, hml, hown, hts⟩ (c_X4_isTaken l dC dI cy G S35 H.size r  hNd.2.2.2.2) (cwV 0 hts gX3_take_X4_isTaken rfl rfl rfl (by decide +kernel) ⟨Nat.le_of_ble_eq_true rfl, Nat.le_of_ble_eq_true rfl⟩) (zpreV hK hP hD hN (zrecv4 hK hP hNd.2.2.2.2)) rfl rfl hl.1 rfl (lv_room (Nat.le_of_ble_eq_true rfl)) dX3_take_38 ⟨Nat.le_of_ble_eq_true rfl, Nat.le_of_ble_eq_true rfl⟩)) (fun r36 hr36 => ?_)
    refine lv_if_eq (tgt := 61) hx hb dX3_take_41 (by decide) (fun c37 => ?_) (fun c37 => ?_)
    · skip
      refine lv_iload_n hx hb dX3_take_61 rfl (lv_at hl 0 rfl) ?_
      refine lv_bipush (v := (-2)) hx hb dX3_take_62 (by decide) ?_
      refine lv_icmp_eq (tgt := 87) hx hb dX3_take_64 (by decide) (fun c38 => ?_) (fun c38 => ?_)
      · skip
        refine lv_aload_n hx hb dX3_take_87 rfl (lv_at hl 1 rfl) ?_
        refine zcallv (va_runV (As := []) (rest := []) ⟨hx, hb, hml, hown, hts⟩ (c_X3_fail l dC dI cy G S35 H.size a i r  (hst.nd hNd)) (cwV 0 hts gX3_take_X3_fail rfl rfl rfl (by decide +kernel) ⟨Nat.le_of_ble_eq_true rfl, Nat.le_of_ble_eq_true rfl⟩) (zpreV hK hP hD hN (zrecv3 hK hP hNd.1)) rfl rfl hl.1 rfl (lv_room (Nat.le_of_ble_eq_true rfl)) dX3_take_88 ⟨Nat.le_of_ble_eq_true rfl, Nat.le_of_ble_eq_true rfl⟩) hS hD hA (fun S40 H locs hr39 hP hD hS => ?_)
        have hst := hst.trans hr39
        refine lv_aload_n hx hb dX3_take_91 rfl (lv_at hl 1 rfl) ?_
        refine lv_iconst (v := 1) hx hb dX3_take_92 (by decide) ?_
        refine zputi (ci := 3) (v := 1) (ty := .int) (C := RX3) (T := TX3) (N := 15) hx hb hts hi3 tyX3 tyX3_ok nmX3 hown hK hP hD hS hNd.1 rfl rfl 6 (by decide) (hts (.fieldLink RX3 36 "LinCluster$Node" "at" "I") (by decide +kernel)) (fun _ h9 => h9) rfl (by decide +kernel) rfl rfl (Nat.le_of_ble_eq_true rfl) rfl dX3_take_93 (fun H locs hP hD hS => ?_)
        have hst := hst.pi (k := 6) (v := 1) hNd.1.2 rfl
        exact W.vret hx hb hr (fun t ht hW => ⟨⟨(zpi S40 a 6 1), rfl, hst, by rw [ht]; exact hP, va_K.moved hW.alike hK, hD⟩, hS.F ht⟩) hS.2.2 dX3_take_96
      · skip
        refine lv_aload_n hx hb dX3_take_67 rfl (lv_at hl 1 rfl) ?_
        refine zget (ci := 3) (C := RX3) (T := TX3) (N := 15) hx hb hts hi3 hown hK hP hNd.1 rfl rfl 2 (by decide) (hts (.fieldLink RX3 21 "LinCluster$Node" "response" "LLinCluster$Response;") (by decide +kernel)) (fun _ h9 => h9) (v := .ref r) (congrArg (fun z => some (va_rf z)) ((hst.nd hNd).2.2.1)) dX3_take_68 ?_
        refine vp_callSi (va_Run.run (va_runV (As := []) (rest := []) ⟨hx, hb, hml, hown, hts⟩ (c_X4_isTaken l dC dI cy G S35 H.size r  hNd.2.2.2.2) (cwV 0 hts gX3_take_X4_isTaken rfl rfl rfl (by decide +kernel) ⟨Nat.le_of_ble_eq_true rfl, Nat.le_of_ble_eq_true rfl⟩) (zpreV hK hP hD hN (zrecv4 hK hP hNd.2.2.2.2)) rfl rfl hl.1 rfl (lv_room (Nat.le_of_ble_eq_true rfl)) dX3_take_71 ⟨Nat.le_of_ble_eq_true rfl, Nat.le_of_ble_eq_true rfl⟩)) (fun r41 hr41 => ?_)
        refine lv_if_ne (tgt := 87) hx hb dX3_take_74 (by decide) (fun c42 => ?_) (fun c42 => ?_)
        · skip
          refine lv_aload_n hx hb dX3_take_87 rfl (lv_at hl 1 rfl) ?_
          refine zcallv (va_runV (As := []) (rest := []) ⟨hx, hb, hml, hown, hts⟩ (c_X3_fail l dC dI cy G S35 H.size a i r  (hst.nd hNd)) (cwV 0 hts gX3_take_X3_fail rfl rfl rfl (by decide +kernel) ⟨Nat.le_of_ble_eq_true rfl, Nat.le_of_ble_eq_true rfl⟩) (zpreV hK hP hD hN (zrecv3 hK hP hNd.1)) rfl rfl hl.1 rfl (lv_room (Nat.le_of_ble_eq_true rfl)) dX3_take_88 ⟨Nat.le_of_ble_eq_true rfl, Nat.le_of_ble_eq_true rfl⟩) hS hD hA (fun S44 H locs hr43 hP hD hS => ?_)
          have hst := hst.trans hr43
          refine lv_aload_n hx hb dX3_take_91 rfl (lv_at hl 1 rfl) ?_
          refine lv_iconst (v := 1) hx hb dX3_take_92 (by decide) ?_
          refine zputi (ci := 3) (v := 1) (ty := .int) (C := RX3) (T := TX3) (N := 15) hx hb hts hi3 tyX3 tyX3_ok nmX3 hown hK hP hD hS hNd.1 rfl rfl 6 (by decide) (hts (.fieldLink RX3 36 "LinCluster$Node" "at" "I") (by decide +kernel)) (fun _ h9 => h9) rfl (by decide +kernel) rfl rfl (Nat.le_of_ble_eq_true rfl) rfl dX3_take_93 (fun H locs hP hD hS => ?_)
          have hst := hst.pi (k := 6) (v := 1) hNd.1.2 rfl
          exact W.vret hx hb hr (fun t ht hW => ⟨⟨(zpi S44 a 6 1), rfl, hst, by rw [ht]; exact hP, va_K.moved hW.alike hK, hD⟩, hS.F ht⟩) hS.2.2 dX3_take_96
        · skip
          refine lv_aload_n hx hb dX3_take_77 rfl (lv_at hl 1 rfl) ?_
          refine zget (ci := 3) (C := RX3) (T := TX3) (N := 15) hx hb hts hi3 hown hK hP hNd.1 rfl rfl 2 (by decide) (hts (.fieldLink RX3 21 "LinCluster$Node" "response" "LLinCluster$Response;") (by decide +kernel)) (fun _ h9 => h9) (v := .ref r) (congrArg (fun z => some (va_rf z)) ((hst.nd hNd).2.2.1)) dX3_take_78 ?_
          refine vp_callSi (va_Run.run (va_runV (As := []) (rest := []) ⟨hx, hb, hml, hown, hts⟩ (c_X4_isLate l dC dI cy G S35 H.size r  hNd.2.2.2.2) (cwV 0 hts gX3_take_X4_isLate rfl rfl rfl (by decide +kernel) ⟨Nat.le_of_ble_eq_true rfl, Nat.le_of_ble_eq_true rfl⟩) (zpreV hK hP hD hN (zrecv4 hK hP hNd.2.2.2.2)) rfl rfl hl.1 rfl (lv_room (Nat.le_of_ble_eq_true rfl)) dX3_take_81 ⟨Nat.le_of_ble_eq_true rfl, Nat.le_of_ble_eq_true rfl⟩)) (fun r45 hr45 => ?_)
          refine lv_if_eq (tgt := 96) hx hb dX3_take_84 (by decide) (fun c46 => ?_) (fun c46 => ?_)
          · skip
            exact W.vret hx hb hr (fun t ht hW => ⟨⟨S35, rfl, hst, by rw [ht]; exact hP, va_K.moved hW.alike hK, hD⟩, hS.F ht⟩) hS.2.2 dX3_take_96
          · skip
            refine lv_aload_n hx hb dX3_take_87 rfl (lv_at hl 1 rfl) ?_
            refine zcallv (va_runV (As := []) (rest := []) ⟨hx, hb, hml, hown, hts⟩ (c_X3_fail l dC dI cy G S35 H.size a i r  (hst.nd hNd)) (cwV 0 hts gX3_take_X3_fail rfl rfl rfl (by decide +kernel) ⟨Nat.le_of_ble_eq_true rfl, Nat.le_of_ble_eq_true rfl⟩) (zpreV hK hP hD hN (zrecv3 hK hP hNd.1)) rfl rfl hl.1 rfl (lv_room (Nat.le_of_ble_eq_true rfl)) dX3_take_88 ⟨Nat.le_of_ble_eq_true rfl, Nat.le_of_ble_eq_true rfl⟩) hS hD hA (fun S48 H locs hr47 hP hD hS => ?_)
            have hst := hst.trans hr47
            refine lv_aload_n hx hb dX3_take_91 rfl (lv_at hl 1 rfl) ?_
            refine lv_iconst (v := 1) hx hb dX3_take_92 (by decide) ?_
            refine zputi (ci := 3) (v := 1) (ty := .int) (C := RX3) (T := TX3) (N := 15) hx hb hts hi3 tyX3 tyX3_ok nmX3 hown hK hP hD hS hNd.1 rfl rfl 6 (by decide) (hts (.fieldLink RX3 36 "LinCluster$Node" "at" "I") (by decide +kernel)) (fun _ h9 => h9) rfl (by decide +kernel) rfl rfl (Nat.le_of_ble_eq_true rfl) rfl dX3_take_93 (fun H locs hP hD hS => ?_)
            have hst := hst.pi (k := 6) (v := 1) hNd.1.2 rfl
            exact W.vret hx hb hr (fun t ht hW => ⟨⟨(zpi S48 a 6 1), rfl, hst, by rw [ht]; exact hP, va_K.moved hW.alike hK, hD⟩, hS.F ht⟩) hS.2.2 dX3_take_96
    · skip
      refine lv_aload_n hx hb dX3_take_44 rfl (lv_at hl 1 rfl) ?_
      refine zget (ci := 3) (C := RX3) (T := TX3) (N := 15) hx hb hts hi3 hown hK hP hNd.1 rfl rfl 2 (by decide) (hts (.fieldLink RX3 21 "LinCluster$Node" "response" "LLinCluster$Response;") (by decide +kernel)) (fun _ h9 => h9) (v := .ref r) (congrArg (fun z => some (va_rf z)) ((hst.nd hNd).2.2.1)) dX3_take_45 ?_
      refine vp_callSi (va_Run.run (va_runV (As := []) (rest := []) ⟨hx, hb, hml, hown, hts⟩ (c_X4_isRight l dC dI cy G S35 H.size r hNd.2.2.2.2 (hst.rf hRf)) (cwV 0 hts gX3_take_X4_isRight rfl rfl rfl (by decide +kernel) ⟨Nat.le_of_ble_eq_true rfl, Nat.le_of_ble_eq_true rfl⟩) (zpreV hK hP hD hN (zrecv4 hK hP hNd.2.2.2.2)) rfl rfl hl.1 rfl (lv_room (Nat.le_of_ble_eq_true rfl)) dX3_take_48 ⟨Nat.le_of_ble_eq_true rfl, Nat.le_of_ble_eq_true rfl⟩)) (fun r49 hr49 => ?_)
      refine lv_if_eq (tgt := 61) hx hb dX3_take_51 (by decide) (fun c50 => ?_) (fun c50 => ?_)
      · skip
        refine lv_iload_n hx hb dX3_take_61 rfl (lv_at hl 0 rfl) ?_
        refine lv_bipush (v := (-2)) hx hb dX3_take_62 (by decide) ?_
        refine lv_icmp_eq (tgt := 87) hx hb dX3_take_64 (by decide) (fun c51 => ?_) (fun c51 => ?_)
        · skip
          refine lv_aload_n hx hb dX3_take_87 rfl (lv_at hl 1 rfl) ?_
          refine zcallv (va_runV (As := []) (rest := []) ⟨hx, hb, hml, hown, hts⟩ (c_X3_fail l dC dI cy G S35 H.size a i r  (hst.nd hNd)) (cwV 0 hts gX3_take_X3_fail rfl rfl rfl (by decide +kernel) ⟨Nat.le_of_ble_eq_true rfl, Nat.le_of_ble_eq_true rfl⟩) (zpreV hK hP hD hN (zrecv3 hK hP hNd.1)) rfl rfl hl.1 rfl (lv_room (Nat.le_of_ble_eq_true rfl)) dX3_take_88 ⟨Nat.le_of_ble_eq_true rfl, Nat.le_of_ble_eq_true rfl⟩) hS hD hA (fun S53 H locs hr52 hP hD hS => ?_)
          have hst := hst.trans hr52
          refine lv_aload_n hx hb dX3_take_91 rfl (lv_at hl 1 rfl) ?_
          refine lv_iconst (v := 1) hx hb dX3_take_92 (by decide) ?_
          refine zputi (ci := 3) (v := 1) (ty := .int) (C := RX3) (T := TX3) (N := 15) hx hb hts hi3 tyX3 tyX3_ok nmX3 hown hK hP hD hS hNd.1 rfl rfl 6 (by decide) (hts (.fieldLink RX3 36 "LinCluster$Node" "at" "I") (by decide +kernel)) (fun _ h9 => h9) rfl (by decide +kernel) rfl rfl (Nat.le_of_ble_eq_true rfl) rfl dX3_take_93 (fun H locs hP hD hS => ?_)
          have hst := hst.pi (k := 6) (v := 1) hNd.1.2 rfl
          exact W.vret hx hb hr (fun t ht hW => ⟨⟨(zpi S53 a 6 1), rfl, hst, by rw [ht]; exact hP, va_K.moved hW.alike hK, hD⟩, hS.F ht⟩) hS.2.2 dX3_take_96
        · skip
          refine lv_aload_n hx hb dX3_take_67 rfl (lv_at hl 1 rfl) ?_
          refine zget (ci := 3) (C := RX3) (T := TX3) (N := 15) hx hb hts hi3 hown hK hP hNd.1 rfl rfl 2 (by decide) (hts (.fieldLink RX3 21 "LinCluster$Node" "response" "LLinCluster$Response;") (by decide +kernel)) (fun _ h9 => h9) (v := .ref r) (congrArg (fun z => some (va_rf z)) ((hst.nd hNd).2.2.1)) dX3_take_68 ?_
          refine vp_callSi (va_Run.run (va_runV (As := []) (rest := []) ⟨hx, hb, hml, hown, hts⟩ (c_X4_isTaken l dC dI cy G S35 H.size r  hNd.2.2.2.2) (cwV 0 hts gX3_take_X4_isTaken rfl rfl rfl (by decide +kernel) ⟨Nat.le_of_ble_eq_true rfl, Nat.le_of_ble_eq_true rfl⟩) (zpreV hK hP hD hN (zrecv4 hK hP hNd.2.2.2.2)) rfl rfl hl.1 rfl (lv_room (Nat.le_of_ble_eq_true rfl)) dX3_take_71 ⟨Nat.le_of_ble_eq_true rfl, Nat.le_of_ble_eq_true rfl⟩)) (fun r54 hr54 => ?_)
          refine lv_if_ne (tgt := 87) hx hb dX3_take_74 (by decide) (fun c55 => ?_) (fun c55 => ?_)
          · skip
            refine lv_aload_n hx hb dX3_take_87 rfl (lv_at hl 1 rfl) ?_
            refine zcallv (va_runV (As := []) (rest := []) ⟨hx, hb, hml, hown, hts⟩ (c_X3_fail l dC dI cy G S35 H.size a i r  (hst.nd hNd)) (cwV 0 hts gX3_take_X3_fail rfl rfl rfl (by decide +kernel) ⟨Nat.le_of_ble_eq_true rfl, Nat.le_of_ble_eq_true rfl⟩) (zpreV hK hP hD hN (zrecv3 hK hP hNd.1)) rfl rfl hl.1 rfl (lv_room (Nat.le_of_ble_eq_true rfl)) dX3_take_88 ⟨Nat.le_of_ble_eq_true rfl, Nat.le_of_ble_eq_true rfl⟩) hS hD hA (fun S57 H locs hr56 hP hD hS => ?_)
            have hst := hst.trans hr56
            refine lv_aload_n hx hb dX3_take_91 rfl (lv_at hl 1 rfl) ?_
            refine lv_iconst (v := 1) hx hb dX3_take_92 (by decide) ?_
            refine zputi (ci := 3) (v := 1) (ty := .int) (C := RX3) (T := TX3) (N := 15) hx hb hts hi3 tyX3 tyX3_ok nmX3 hown hK hP hD hS hNd.1 rfl rfl 6 (by decide) (hts (.fieldLink RX3 36 "LinCluster$Node" "at" "I") (by decide +kernel)) (fun _ h9 => h9) rfl (by decide +kernel) rfl rfl (Nat.le_of_ble_eq_true rfl) rfl dX3_take_93 (fun H locs hP hD hS => ?_)
            have hst := hst.pi (k := 6) (v := 1) hNd.1.2 rfl
            exact W.vret hx hb hr (fun t ht hW => ⟨⟨(zpi S57 a 6 1), rfl, hst, by rw [ht]; exact hP, va_K.moved hW.alike hK, hD⟩, hS.F ht⟩) hS.2.2 dX3_take_96
          · skip
            refine lv_aload_n hx hb dX3_take_77 rfl (lv_at hl 1 rfl) ?_
            refine zget (ci := 3) (C := RX3) (T := TX3) (N := 15) hx hb hts hi3 hown hK hP hNd.1 rfl rfl 2 (by decide) (hts (.fieldLink RX3 21 "LinCluster$Node" "response" "LLinCluster$Response;") (by decide +kernel)) (fun _ h9 => h9) (v := .ref r) (congrArg (fun z => some (va_rf z)) ((hst.nd hNd).2.2.1)) dX3_take_78 ?_
            refine vp_callSi (va_Run.run (va_runV (As := []) (rest := []) ⟨hx, hb, hml, hown, hts⟩ (c_X4_isLate l dC dI cy G S35 H.size r  hNd.2.2.2.2) (cwV 0 hts gX3_take_X4_isLate rfl rfl rfl (by decide +kernel) ⟨Nat.le_of_ble_eq_true rfl, Nat.le_of_ble_eq_true rfl⟩) (zpreV hK hP hD hN (zrecv4 hK hP hNd.2.2.2.2)) rfl rfl hl.1 rfl (lv_room (Nat.le_of_ble_eq_true rfl)) dX3_take_81 ⟨Nat.le_of_ble_eq_true rfl, Nat.le_of_ble_eq_true rfl⟩)) (fun r58 hr58 => ?_)
            refine lv_if_eq (tgt := 96) hx hb dX3_take_84 (by decide) (fun c59 => ?_) (fun c59 => ?_)
            · skip
              exact W.vret hx hb hr (fun t ht hW => ⟨⟨S35, rfl, hst, by rw [ht]; exact hP, va_K.moved hW.alike hK, hD⟩, hS.F ht⟩) hS.2.2 dX3_take_96
            · skip
              refine lv_aload_n hx hb dX3_take_87 rfl (lv_at hl 1 rfl) ?_
              refine zcallv (va_runV (As := []) (rest := []) ⟨hx, hb, hml, hown, hts⟩ (c_X3_fail l dC dI cy G S35 H.size a i r  (hst.nd hNd)) (cwV 0 hts gX3_take_X3_fail rfl rfl rfl (by decide +kernel) ⟨Nat.le_of_ble_eq_true rfl, Nat.le_of_ble_eq_true rfl⟩) (zpreV hK hP hD hN (zrecv3 hK hP hNd.1)) rfl rfl hl.1 rfl (lv_room (Nat.le_of_ble_eq_true rfl)) dX3_take_88 ⟨Nat.le_of_ble_eq_true rfl, Nat.le_of_ble_eq_true rfl⟩) hS hD hA (fun S61 H locs hr60 hP hD hS => ?_)
              have hst := hst.trans hr60
              refine lv_aload_n hx hb dX3_take_91 rfl (lv_at hl 1 rfl) ?_
              refine lv_iconst (v := 1) hx hb dX3_take_92 (by decide) ?_
              refine zputi (ci := 3) (v := 1) (ty := .int) (C := RX3) (T := TX3) (N := 15) hx hb hts hi3 tyX3 tyX3_ok nmX3 hown hK hP hD hS hNd.1 rfl rfl 6 (by decide) (hts (.fieldLink RX3 36 "LinCluster$Node" "at" "I") (by decide +kernel)) (fun _ h9 => h9) rfl (by decide +kernel) rfl rfl (Nat.le_of_ble_eq_true rfl) rfl dX3_take_93 (fun H locs hP hD hS => ?_)
              have hst := hst.pi (k := 6) (v := 1) hNd.1.2 rfl
              exact W.vret hx hb hr (fun t ht hW => ⟨⟨(zpi S61 a 6 1), rfl, hst, by rw [ht]; exact hP, va_K.moved hW.alike hK, hD⟩, hS.F ht⟩) hS.2.2 dX3_take_96
      · skip
        refine lv_aload_n hx hb dX3_take_54 rfl (lv_at hl 1 rfl) ?_
        refine zcallv (va_runV (As := []) (rest := []) ⟨hx, hb, hml, hown, hts⟩ (c_X3_finishTaking l dC dI cy G S35 H.size a i r  (hst.nd hNd) (hst.rf hRf)) (cwV 0 hts gX3_take_X3_finishTaking rfl rfl rfl (by decide +kernel) ⟨Nat.le_of_ble_eq_true rfl, Nat.le_of_ble_eq_true rfl⟩) (zpreV hK hP hD hN (zrecv3 hK hP hNd.1)) rfl rfl hl.1 rfl (lv_room (Nat.le_of_ble_eq_true rfl)) dX3_take_55 ⟨Nat.le_of_ble_eq_true rfl, Nat.le_of_ble_eq_true rfl⟩) hS hD hA (fun S63 H locs hr62 hP hD hS => ?_)
        have hst := hst.trans hr62
        refine lv_goto (tgt := 96) hx hb dX3_take_58 (by decide) ?_
        exact W.vret hx hb hr (fun t ht hW => ⟨⟨S63, rfl, hst, by rw [ht]; exact hP, va_K.moved hW.alike hK, hD⟩, hS.F ht⟩) hS.2.2 dX3_take_96
