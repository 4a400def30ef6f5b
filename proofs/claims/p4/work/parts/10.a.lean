def ztell (S : zS) (a : Nat) (k : Int32) : Int32 := if k = 0 then (if S.1 a 6 = 0 then 0 else 1) else if k = 1 then (if S.1 a 10 = 0 then 0 else 1) else if k = 2 then S.1 a 11 else if k = 3 then S.1 a 12 else if k = 4 then S.1 a 13 else if k = 5 then S.1 a 14 else S.1 a 6
set_option maxHeartbeats 4000000 in
set_option maxRecDepth 100000 in
theorem c_X3_putStatus (l : Launch) (dC : Nat → ClassId) (dI : Nat → Nat → Nat) (cy : Nat → ClassId) (G : zG) (S : zS) (sz : Nat) (a y : Nat) (n k : Int32) (hO : zO G a 3) : Met l yX3_putStatus wsX3_putStatus ({ frames := 0, cells := 0, slots := 0, locals := 0 }) (zP dC dI cy [.ref a, .ref y, .int n, .int k] G S sz) (va_Qv (fun S' => zSt G S S') (zB dC dI cy (zA cy G S sz) G) (zA cy G S sz)) 0 0 (zA cy G S sz) := by
  refine Met.ofW (cc := cX3_putStatus) (maxL := 4) (ret := none) (by decide) rfl ?_
  intro p e s m args below meth c s₁ B hml hv
  obtain ⟨rfl, hsz, hP, hK, hD0, hN⟩ := hv
  have hx := B.exec
  have hb := B.bytes
  have hr := B.returns
  have hts := atoms_spec (ws := wsX3_putStatus) B.pre
  have hown : s.vm.findClass RX3 = some m.cls := findClass_of_methodNamed B.named
  have hlocks := B.notSynchronized
  subst hsz
  have hD : va_D (zA cy G S s.heap.size) (zW cy G S) := hD0.self
  generalize hAe : zA cy G S s.heap.size = A at hD ⊢
  have hA : ∀ q : Nat, s.heap.size ≤ q → A q := fun q h => by rw [← hAe]; exact Or.inr h
  have hS : va_S A s.heap s.heap [] := va_S.rf
  have hst := zSt.refl G S
  have hl := lv_entry ([.ref a, .ref y, .int n, .int k]) (n := 4) (Nat.le_of_ble_eq_true rfl)
  rw [lg_entry_eq]
  generalize (lg_sl ([.ref a, .ref y, .int n, .int k]) ++ List.replicate (4 - (lg_sl ([.ref a, .ref y, .int n, .int k])).length) Slot.unset).toArray = ls at hl ⊢
  have hl : lv_has ls 4 [(0, .ref a), (1, .ref y), (2, .int n), (3, .int k)] := hl
  have hi3 : ∀ w ∈ wsX30, w ∈ wsX3_putStatus := by decide +kernel
  refine lv_aload_n hx hb dX3_putStatus_0 rfl (lv_at hl 0 rfl) ?_
  refine lv_aload_n hx hb dX3_putStatus_1 rfl (lv_at hl 1 rfl) ?_
  refine zputq (ci := 3) (v := (some y)) (ty := .object "LinCluster$Frame") (C := RX3) (T := TX3) (N := 15) hx hb hts hi3 tyX3 tyX3_ok nmX3 hown hK hP hD hS hO rfl rfl 4 (by decide) (hts (.fieldLink RX3 29 "LinCluster$Node" "statusFrame" "LLinCluster$Frame;") (by decide +kernel)) (fun _ h9 => h9) rfl (by decide +kernel) rfl rfl (Nat.le_of_ble_eq_true rfl) rfl dX3_putStatus_2 (fun H locs hP hD hS => ?_)
  have hst := hst.pq3 hO.2 (some y)
  refine lv_aload_n hx hb dX3_putStatus_5 rfl (lv_at hl 0 rfl) ?_
  refine lv_bipush (v := 8) hx hb dX3_putStatus_6 (by decide) ?_
  refine lv_iload_n hx hb dX3_putStatus_8 rfl (lv_at hl 2 rfl) ?_
  refine lv_imul hx hb dX3_putStatus_9 ?_
  refine lv_topi (fun v1 ev1 => ?_)
  refine lv_iload_n hx hb dX3_putStatus_10 rfl (lv_at hl 3 rfl) ?_
  refine lv_iadd hx hb dX3_putStatus_11 ?_
  refine lv_topi (fun v2 ev2 => ?_)
  refine zputi (ci := 3) (v := v2) (ty := .int) (C := RX3) (T := TX3) (N := 15) hx hb hts hi3 tyX3 tyX3_ok nmX3 hown hK hP hD hS hO rfl rfl 5 (by decide) (hts (.fieldLink RX3 33 "LinCluster$Node" "statusPlace" "I") (by decide +kernel)) (fun _ h9 => h9) rfl (by decide +kernel) rfl rfl (Nat.le_of_ble_eq_true rfl) rfl dX3_putStatus_12 (fun H locs hP hD hS => ?_)
  have hst := hst.pi (k := 5) (v := v2) hO.2 rfl
  exact W.vret hx hb hr (fun t ht hW => ⟨⟨(zpi (zpq S a 4 (some y)) a 5 v2), rfl, hst, by rw [ht]; exact hP, va_K.moved hW.alike hK, hD⟩, hS.F ht⟩) hS.2.2 dX3_putStatus_15
set_option maxHeartbeats 4000000 in
set_option maxRecDepth 100000 in
theorem c_X3_beginWaking (l : Launch) (dC : Nat → ClassId) (dI : Nat → Nat → Nat) (cy : Nat → ClassId) (G : zG) (S : zS) (sz : Nat) (a : Nat) (hO : zO G a 3) : Met l yX3_beginWaking wsX3_beginWaking ({ frames := 0, cells := 0, slots := 0, locals := 0 }) (zP dC dI cy [.ref a] G S sz) (va_Qv (fun S' => zSt G S S') (zB dC dI cy (zA cy G S sz) G) (zA cy G S sz)) 0 0 (zA cy G S sz) := by
  refine Met.ofW (cc := cX3_beginWaking) (maxL := 1) (ret := none) (by decide) rfl ?_
  intro p e s m args below meth c s₁ B hml hv
  obtain ⟨rfl, hsz, hP, hK, hD0, hN⟩ := hv
  have hx := B.exec
  have hb := B.bytes
  have hr := B.returns
  have hts := atoms_spec (ws := wsX3_beginWaking) B.pre
  have hown : s.vm.findClass RX3 = some m.cls := findClass_of_methodNamed B.named
  have hlocks := B.notSynchronized
  subst hsz
  have hD : va_D (zA cy G S s.heap.size) (zW cy G S) := hD0.self
  generalize hAe : zA cy G S s.heap.size = A at hD ⊢
  have hA : ∀ q : Nat, s.heap.size ≤ q → A q := fun q h => by rw [← hAe]; exact Or.inr h
  have hS : va_S A s.heap s.heap [] := va_S.rf
  have hst := zSt.refl G S
  have hl := lv_entry ([.ref a]) (n := 1) (Nat.le_of_ble_eq_true rfl)
  rw [lg_entry_eq]
  generalize (lg_sl ([.ref a]) ++ List.replicate (1 - (lg_sl ([.ref a])).length) Slot.unset).toArray = ls at hl ⊢
  have hl : lv_has ls 1 [(0, .ref a)] := hl
  have hi3 : ∀ w ∈ wsX30, w ∈ wsX3_beginWaking := by decide +kernel
  refine lv_aload_n hx hb dX3_beginWaking_0 rfl (lv_at hl 0 rfl) ?_
  refine lv_bipush (v := 8) hx hb dX3_beginWaking_1 (by decide) ?_
  refine zputi (ci := 3) (v := 8) (ty := .int) (C := RX3) (T := TX3) (N := 15) hx hb hts hi3 tyX3 tyX3_ok nmX3 hown hK hP hD hS hO rfl rfl 9 (by decide) (hts (.fieldLink RX3 46 "LinCluster$Node" "wakingBits" "I") (by decide +kernel)) (fun _ h9 => h9) rfl (by decide +kernel) rfl rfl (Nat.le_of_ble_eq_true rfl) rfl dX3_beginWaking_3 (fun H locs hP hD hS => ?_)
  have hst := hst.pi (k := 9) (v := 8) hO.2 rfl
  exact W.vret hx hb hr (fun t ht hW => ⟨⟨(zpi S a 9 8), rfl, hst, by rw [ht]; exact hP, va_K.moved hW.alike hK, hD⟩, hS.F ht⟩) hS.2.2 dX3_beginWaking_6
set_option maxHeartbeats 4000000 in
set_option maxRecDepth 100000 in
theorem c_X3_changeSpace (l : Launch) (dC : Nat → ClassId) (dI : Nat → Nat → Nat) (cy : Nat → ClassId) (G : zG) (S : zS) (sz : Nat) (a : Nat) (n : Int32) (hO : zO G a 3) : Met l yX3_changeSpace wsX3_changeSpace ({ frames := 0, cells := 0, slots := 0, locals := 0 }) (zP dC dI cy [.ref a, .int n] G S sz) (va_Qi (fun (r : Int32) S' => r = S.1 a 3 ∧ S' = zpi S a 3 n) (zB dC dI cy (zA cy G S sz) G) (zA cy G S sz)) 0 0 (zA cy G S sz) := by
  refine Met.ofW (cc := cX3_changeSpace) (maxL := 3) (ret := (some .int)) (by decide) rfl ?_
  intro p e s m args below meth c s₁ B hml hv
  obtain ⟨rfl, hsz, hP, hK, hD0, hN⟩ := hv
  have hx := B.exec
  have hb := B.bytes
  have hr := B.returns
  have hts := atoms_spec (ws := wsX3_changeSpace) B.pre
  have hown : s.vm.findClass RX3 = some m.cls := findClass_of_methodNamed B.named
  have hlocks := B.notSynchronized
  subst hsz
  have hD : va_D (zA cy G S s.heap.size) (zW cy G S) := hD0.self
  generalize hAe : zA cy G S s.heap.size = A at hD ⊢
  have hA : ∀ q : Nat, s.heap.size ≤ q → A q := fun q h => by rw [← hAe]; exact Or.inr h
  have hS : va_S A s.heap s.heap [] := va_S.rf
  have hst := zSt.refl G S
  have hl := lv_entry ([.ref a, .int n]) (n := 3) (Nat.le_of_ble_eq_true rfl)
  rw [lg_entry_eq]
  generalize (lg_sl ([.ref a, .int n]) ++ List.replicate (3 - (lg_sl ([.ref a, .int n])).length) Slot.unset).toArray = ls at hl ⊢
  have hl : lv_has ls 3 [(0, .ref a), (1, .int n)] := hl
  have hi3 : ∀ w ∈ wsX30, w ∈ wsX3_changeSpace := by decide +kernel
  refine lv_aload_n hx hb dX3_changeSpace_0 rfl (lv_at hl 0 rfl) ?_
  refine zget (ci := 3) (C := RX3) (T := TX3) (N := 15) hx hb hts hi3 hown hK hP hO rfl rfl 3 (by decide) (hts (.fieldLink RX3 25 "LinCluster$Node" "space" "I") (by decide +kernel)) (fun _ h9 => h9) rfl dX3_changeSpace_1 ?_
  refine lv_topi (fun v1 ev1 => ?_)
  refine lv_istore_n (lv' := [(2, .int v1), (0, .ref a), (1, .int n)]) hx hb dX3_changeSpace_4 rfl hl (by decide) rfl (fun ls hl => ?_)
  refine lv_aload_n hx hb dX3_changeSpace_5 rfl (lv_at hl 1 rfl) ?_
  refine lv_iload_n hx hb dX3_changeSpace_6 rfl (lv_at hl 2 rfl) ?_
  refine zputi (ci := 3) (v := n) (ty := .int) (C := RX3) (T := TX3) (N := 15) hx hb hts hi3 tyX3 tyX3_ok nmX3 hown hK hP hD hS hO rfl rfl 3 (by decide) (hts (.fieldLink RX3 25 "LinCluster$Node" "space" "I") (by decide +kernel)) (fun _ h9 => h9) rfl (by decide +kernel) rfl rfl (Nat.le_of_ble_eq_true rfl) rfl dX3_changeSpace_7 (fun H locs hP hD hS => ?_)
  refine lv_iload_n hx hb dX3_changeSpace_10 rfl (lv_at hl 0 rfl) ?_
  exact W.iret (v := v1) hx hb hr (fun t ht hW => ⟨⟨v1, (zpi S a 3 n), rfl, ⟨ev1, rfl⟩, by rw [ht]; exact hP, va_K.moved hW.alike hK, hD⟩, hS.F ht⟩) hS.2.2 dX3_changeSpace_11
set_option maxHeartbeats 4000000 in
set_option maxRecDepth 100000 in
theorem c_X3_isAwake_x (l : Launch) (dC : Nat → ClassId) (dI : Nat → Nat → Nat) (cy : Nat → ClassId) (G : zG) (S : zS) (sz : Nat) (a : Nat) (hO : zO G a 3) : Met l yX3_isAwake wsX3_isAwake ({ frames := 0, cells := 0, slots := 0, locals := 0 }) (zP dC dI cy [.ref a] G S sz) (vp_Si (fun r => (r = 0 ↔ S.1 a 6 = 0))) 0 0 (fun _ => False) := by
  refine Met.ofW (cc := cX3_isAwake) (maxL := 1) (ret := (some .boolean)) (by decide) rfl ?_
  intro p e s m args below meth c s₁ B hml hv
  obtain ⟨rfl, hsz, hP, hK, hD0, hN⟩ := hv
  have hx := B.exec
  have hb := B.bytes
  have hr := B.returns
  have hts := atoms_spec (ws := wsX3_isAwake) B.pre
  have hown : s.vm.findClass RX3 = some m.cls := findClass_of_methodNamed B.named
  have hlocks := B.notSynchronized
  subst hsz
  have hD := hD0
  have hst := zSt.refl G S
  have hl := lv_entry ([.ref a]) (n := 1) (Nat.le_of_ble_eq_true rfl)
  rw [lg_entry_eq]
  generalize (lg_sl ([.ref a]) ++ List.replicate (1 - (lg_sl ([.ref a])).length) Slot.unset).toArray = ls at hl ⊢
  have hl : lv_has ls 1 [(0, .ref a)] := hl
  have hi3 : ∀ w ∈ wsX30, w ∈ wsX3_isAwake := by decide +kernel
  refine lv_aload_n hx hb dX3_isAwake_0 rfl (lv_at hl 0 rfl) ?_
  refine zget (ci := 3) (C := RX3) (T := TX3) (N := 15) hx hb hts hi3 hown hK hP hO rfl rfl 6 (by decide) (hts (.fieldLink RX3 36 "LinCluster$Node" "at" "I") (by decide +kernel)) (fun _ h9 => h9) rfl dX3_isAwake_1 ?_
  refine lv_topi (fun v1 ev1 => ?_)
  refine lv_if_eq (tgt := 11) hx hb dX3_isAwake_4 (by decide) (fun c2 => ?_) (fun c2 => ?_)
  · skip
    refine lv_iconst (v := 0) hx hb dX3_isAwake_11 (by decide) ?_
    exact W.zret (v := 0) (ty := .boolean) hx hb hr rfl (fun t ht hW => ⟨0, rfl, ⟨fun _ => (ev1).symm.trans c2, fun _ => rfl⟩, ht⟩) (fun _ h => absurd h List.not_mem_nil) dX3_isAwake_12
  · skip
    refine lv_iconst (v := 1) hx hb dX3_isAwake_7 (by decide) ?_
    refine lv_goto (tgt := 12) hx hb dX3_isAwake_8 (by decide) ?_
    exact W.zret (v := 1) (ty := .boolean) hx hb hr rfl (fun t ht hW => ⟨1, rfl, ⟨fun z9 => absurd z9 (by decide), fun z9 => absurd ((ev1).trans z9) c2⟩, ht⟩) (fun _ h => absurd h List.not_mem_nil) dX3_isAwake_12
set_option maxHeartbeats 4000000 in
set_option maxRecDepth 100000 in
theorem c_X3_tell (l : Launch) (dC : Nat → ClassId) (dI : Nat → Nat → Nat) (cy : Nat → ClassId) (G : zG) (S : zS) (sz : Nat) (a : Nat) (k : Int32) (hO : zO G a 3) : Met l yX3_tell wsX3_tell ({ frames := 1, cells := 0, slots := 0, locals := 20 }) (zP dC dI cy [.ref a, .int k] G S sz) (vp_Si (fun r => r = ztell S a k)) 0 0 (fun _ => False) := by
  refine Met.ofW (cc := cX3_tell) (maxL := 2) (ret := (some .int)) (by decide) rfl ?_
  intro p e s m args below meth c s₁ B hml hv
  obtain ⟨rfl, hsz, hP, hK, hD0, hN⟩ := hv
  have hx := B.exec
  have hb := B.bytes
  have hr := B.returns
  have hts := atoms_spec (ws := wsX3_tell) B.pre
  have hown : s.vm.findClass RX3 = some m.cls := findClass_of_methodNamed B.named
  have hlocks := B.notSynchronized
  subst hsz
  have hD := hD0
  have hst := zSt.refl G S
  have hl := lv_entry ([.ref a, .int k]) (n := 2) (Nat.le_of_ble_eq_true rfl)
  rw [lg_entry_eq]
  generalize (lg_sl ([.ref a, .int k]) ++ List.replicate (2 - (lg_sl ([.ref a, .int k])).length) Slot.unset).toArray = ls at hl ⊢
  have hl : lv_has ls 2 [(0, .ref a), (1, .int k)] := hl
  have hi3 : ∀ w ∈ wsX30, w ∈ wsX3_tell := by decide +kernel
  refine lv_iload_n hx hb dX3_tell_0 rfl (lv_at hl 1 rfl) ?_
  by_cases c1 : k = 0
  · refine lv_tableIn (tgt := 40) hx hb dX3_tell_1 (by rw [c1]; decide) (by rw [c1]; decide) (by rw [c1]; rfl) (by decide) ?_
    refine lv_aload_n hx hb dX3_tell_40 rfl (lv_at hl 0 rfl) ?_
    refine vp_callSi (va_Run.run (va_runV (As := []) (rest := []) ⟨hx, hb, hml, hown, hts⟩ (c_X3_isAwake_x l dC dI cy G S s.heap.size a hO) (cwV 0 hts gX3_tell_X3_isAwake rfl rfl rfl (by decide +kernel) ⟨Nat.le_of_ble_eq_true rfl, Nat.le_of_ble_eq_true rfl⟩) (zpreV hK hP hD hN (zrecv3 hK hP hO)) rfl rfl hl.1 rfl (lv_room (Nat.le_of_ble_eq_true rfl)) dX3_tell_41 ⟨Nat.le_of_ble_eq_true rfl, Nat.le_of_ble_eq_true rfl⟩)) (fun r2 hr2 => ?_)
    refine lv_if_eq (tgt := 51) hx hb dX3_tell_44 (by decide) (fun c3 => ?_) (fun c3 => ?_)
    · skip
      refine lv_iconst (v := 0) hx hb dX3_tell_51 (by decide) ?_
      exact W.iret (v := 0) hx hb hr (fun t ht hW => ⟨0, rfl, (by unfold ztell; rw [if_pos c1]; rw [if_pos ((hr2.1 c3))]), ht⟩) (fun _ h => absurd h List.not_mem_nil) dX3_tell_52
    · skip
      refine lv_iconst (v := 1) hx hb dX3_tell_47 (by decide) ?_
      refine lv_goto (tgt := 52) hx hb dX3_tell_48 (by decide) ?_
      exact W.iret (v := 1) hx hb hr (fun t ht hW => ⟨1, rfl, (by unfold ztell; rw [if_pos c1]; rw [if_neg (fun z9 => c3 (hr2.2 z9))]), ht⟩) (fun _ h => absurd h List.not_mem_nil) dX3_tell_52
  by_cases c4 : k = 1
  · refine lv_tableIn (tgt := 53) hx hb dX3_tell_1 (by rw [c4]; decide) (by rw [c4]; decide) (by rw [c4]; rfl) (by decide) ?_
    refine lv_aload_n hx hb dX3_tell_53 rfl (lv_at hl 0 rfl) ?_
    refine zget (ci := 3) (C := RX3) (T := TX3) (N := 15) hx hb hts hi3 hown hK hP hO rfl rfl 10 (by decide) (hts (.fieldLink RX3 49 "LinCluster$Node" "error" "Z") (by decide +kernel)) (fun _ h9 => h9) rfl dX3_tell_54 ?_
    refine lv_topi (fun v5 ev5 => ?_)
    refine lv_if_eq (tgt := 64) hx hb dX3_tell_57 (by decide) (fun c6 => ?_) (fun c6 => ?_)
    · skip
      refine lv_iconst (v := 0) hx hb dX3_tell_64 (by decide) ?_
      exact W.iret (v := 0) hx hb hr (fun t ht hW => ⟨0, rfl, (by unfold ztell; rw [if_neg c1, if_pos c4]; rw [if_pos (ev5.symm.trans c6)]), ht⟩) (fun _ h => absurd h List.not_mem_nil) dX3_tell_65
    · skip
      refine lv_iconst (v := 1) hx hb dX3_tell_60 (by decide) ?_
      refine lv_goto (tgt := 65) hx hb dX3_tell_61 (by decide) ?_
      exact W.iret (v := 1) hx hb hr (fun t ht hW => ⟨1, rfl, (by unfold ztell; rw [if_neg c1, if_pos c4]; rw [if_neg (fun z9 => c6 (ev5.trans z9))]), ht⟩) (fun _ h => absurd h List.not_mem_nil) dX3_tell_65
  by_cases c7 : k = 2
  · refine lv_tableIn (tgt := 66) hx hb dX3_tell_1 (by rw [c7]; decide) (by rw [c7]; decide) (by rw [c7]; rfl) (by decide) ?_
    refine lv_aload_n hx hb dX3_tell_66 rfl (lv_at hl 0 rfl) ?_
    refine zget (ci := 3) (C := RX3) (T := TX3) (N := 15) hx hb hts hi3 hown hK hP hO rfl rfl 11 (by decide) (hts (.fieldLink RX3 52 "LinCluster$Node" "headersLost" "I") (by decide +kernel)) (fun _ h9 => h9) rfl dX3_tell_67 ?_
    refine lv_topi (fun v8 ev8 => ?_)
    exact W.iret (v := v8) hx hb hr (fun t ht hW => ⟨v8, rfl, (by unfold ztell; rw [if_neg c1, if_neg c4, if_pos c7]; exact ev8), ht⟩) (fun _ h => absurd h List.not_mem_nil) dX3_tell_70
  by_cases c9 : k = 3
  · refine lv_tableIn (tgt := 71) hx hb dX3_tell_1 (by rw [c9]; decide) (by rw [c9]; decide) (by rw [c9]; rfl) (by decide) ?_
    refine lv_aload_n hx hb dX3_tell_71 rfl (lv_at hl 0 rfl) ?_
    refine zget (ci := 3) (C := RX3) (T := TX3) (N := 15) hx hb hts hi3 hown hK hP hO rfl rfl 12 (by decide) (hts (.fieldLink RX3 55 "LinCluster$Node" "responsesSaid" "I") (by decide +kernel)) (fun _ h9 => h9) rfl dX3_tell_72 ?_
    refine lv_topi (fun v10 ev10 => ?_)
    exact W.iret (v := v10) hx hb hr (fun t ht hW => ⟨v10, rfl, (by unfold ztell; rw [if_neg c1, if_neg c4, if_neg c7, if_pos c9]; exact ev10), ht⟩) (fun _ h => absurd h List.not_mem_nil) dX3_tell_75
  by_cases c11 : k = 4
  · refine lv_tableIn (tgt := 76) hx hb dX3_tell_1 (by rw [c11]; decide) (by rw [c11]; decide) (by rw [c11]; rfl) (by decide) ?_
    refine lv_aload_n hx hb dX3_tell_76 rfl (lv_at hl 0 rfl) ?_
    refine zget (ci := 3) (C := RX3) (T := TX3) (N := 15) hx hb hts hi3 hown hK hP hO rfl rfl 13 (by decide) (hts (.fieldLink RX3 58 "LinCluster$Node" "responsesTaken" "I") (by decide +kernel)) (fun _ h9 => h9) rfl dX3_tell_77 ?_
    refine lv_topi (fun v12 ev12 => ?_)
    exact W.iret (v := v12) hx hb hr (fun t ht hW => ⟨v12, rfl, (by unfold ztell; rw [if_neg c1, if_neg c4, if_neg c7, if_neg c9, if_pos c11]; exact ev12), ht⟩) (fun _ h => absurd h List.not_mem_nil) dX3_tell_80
  by_cases c13 : k = 5
  · refine lv_tableIn (tgt := 81) hx hb dX3_tell_1 (by rw [c13]; decide) (by rw [c13]; decide) (by rw [c13]; rfl) (by decide) ?_
    refine lv_aload_n hx hb dX3_tell_81 rfl (lv_at hl 0 rfl) ?_
    refine zget (ci := 3) (C := RX3) (T := TX3) (N := 15) hx hb hts hi3 hown hK hP hO rfl rfl 14 (by decide) (hts (.fieldLink RX3 61 "LinCluster$Node" "errors" "I") (by decide +kernel)) (fun _ h9 => h9) rfl dX3_tell_82 ?_
    refine lv_topi (fun v14 ev14 => ?_)
    exact W.iret (v := v14) hx hb hr (fun t ht hW => ⟨v14, rfl, (by unfold ztell; rw [if_neg c1, if_neg c4, if_neg c7, if_neg c9, if_neg c11, if_pos c13]; exact ev14), ht⟩) (fun _ h => absurd h List.not_mem_nil) dX3_tell_85
  refine lv_tableOut (tgt := 86) hx hb dX3_tell_1 (zswo (k := 5) (fun k hk => by match k, hk with | 0, _ => exact c1 | 1, _ => exact c4 | 2, _ => exact c7 | 3, _ => exact c9 | 4, _ => exact c11 | 5, _ => exact c13 | k + 6, hk => exact absurd hk (by omega))) (by decide) ?_
  refine lv_aload_n hx hb dX3_tell_86 rfl (lv_at hl 0 rfl) ?_
  refine zget (ci := 3) (C := RX3) (T := TX3) (N := 15) hx hb hts hi3 hown hK hP hO rfl rfl 6 (by decide) (hts (.fieldLink RX3 36 "LinCluster$Node" "at" "I") (by decide +kernel)) (fun _ h9 => h9) rfl dX3_tell_87 ?_
  refine lv_topi (fun v15 ev15 => ?_)
  exact W.iret (v := v15) hx hb hr (fun t ht hW => ⟨v15, rfl, (by unfold ztell; rw [if_neg c1, if_neg c4, if_neg c7, if_neg c9, if_neg c11, if_neg c13]; exact ev15), ht⟩) (fun _ h => absurd h List.not_mem_nil) dX3_tell_90
set_option maxHeartbeats 4000000 in
set_option maxRecDepth 100000 in
theorem c_X5_isFull (l : Launch) (dC : Nat → ClassId) (dI : Nat → Nat → Nat) (cy : Nat → ClassId) (G : zG) (S : zS) (sz : Nat) (a : Nat) (hO : zO G a 5) : Met l yX5_isFull wsX5_isFull ({ frames := 0, cells := 0, slots := 0, locals := 0 }) (zP dC dI cy [.ref a] G S sz) (vp_Si (fun r => (r = 1 ∧ ¬ S.1 a 2 < 16) ∨ (r = 0 ∧ S.1 a 2 < 16))) 0 0 (fun _ => False) := by
  refine Met.ofW (cc := cX5_isFull) (maxL := 1) (ret := (some .boolean)) (by decide) rfl ?_
  intro p e s m args below meth c s₁ B hml hv
  obtain ⟨rfl, hsz, hP, hK, hD0, hN⟩ := hv
  have hx := B.exec
  have hb := B.bytes
  have hr := B.returns
  have hts := atoms_spec (ws := wsX5_isFull) B.pre
  have hown : s.vm.findClass RX5 = some m.cls := findClass_of_methodNamed B.named
  have hlocks := B.notSynchronized
  subst hsz
  have hD := hD0
  have hst := zSt.refl G S
  have hl := lv_entry ([.ref a]) (n := 1) (Nat.le_of_ble_eq_true rfl)
  rw [lg_entry_eq]
  generalize (lg_sl ([.ref a]) ++ List.replicate (1 - (lg_sl ([.ref a])).length) Slot.unset).toArray = ls at hl ⊢
  have hl : lv_has ls 1 [(0, .ref a)] := hl
  have hi5 : ∀ w ∈ wsX50, w ∈ wsX5_isFull := by decide +kernel
  refine lv_aload_n hx hb dX5_isFull_0 rfl (lv_at hl 0 rfl) ?_
  refine zget (ci := 5) (C := RX5) (T := TX5) (N := 10) hx hb hts hi5 hown hK hP hO rfl rfl 2 (by decide) (hts (.fieldLink RX5 18 "LinCluster$Schedule" "slots" "I") (by decide +kernel)) (fun _ h9 => h9) rfl dX5_isFull_1 ?_
  refine lv_topi (fun v1 ev1 => ?_)
  refine lv_bipush (v := 16) hx hb dX5_isFull_4 (by decide) ?_
  refine lv_icmp_lt (tgt := 13) hx hb dX5_isFull_6 (by decide) (fun c2 => ?_) (fun c2 => ?_)
  · skip
    refine lv_iconst (v := 0) hx hb dX5_isFull_13 (by decide) ?_
    exact W.zret (v := 0) (ty := .boolean) hx hb hr rfl (fun t ht hW => ⟨0, rfl, (Or.inr ⟨rfl, by rw [← ev1]; exact c2⟩), ht⟩) (fun _ h => absurd h List.not_mem_nil) dX5_isFull_14
  · skip
    refine lv_iconst (v := 1) hx hb dX5_isFull_9 (by decide) ?_
    refine lv_goto (tgt := 14) hx hb dX5_isFull_10 (by decide) ?_
    exact W.zret (v := 1) (ty := .boolean) hx hb hr rfl (fun t ht hW => ⟨1, rfl, (Or.inl ⟨rfl, fun z9 => c2 (by rw [ev1]; exact z9)⟩), ht⟩) (fun _ h => absurd h List.not_mem_nil) dX5_isFull_14
set_option maxHeartbeats 4000000 in
set_option maxRecDepth 100000 in
theorem c_X5_addSlot (l : Launch) (dC : Nat → ClassId) (dI : Nat → Nat → Nat) (cy : Nat → ClassId) (G : zG) (S : zS) (sz : Nat) (a ia na q8 : Nat) (n k : Int32) (hSc : zSc G S a ia na) (hq8 : q8 < 16) (eq8 : S.1 a 2 = nI q8) : Met l yX5_addSlot wsX5_addSlot ({ frames := 0, cells := 0, slots := 0, locals := 0 }) (zP dC dI cy [.ref a, .int n, .int k] G S sz) (va_Qi (fun (r : Int32) S' => r = nI q8 ∧ ∃ T, zSt G S T ∧ S' = zpi T a 2 (nI (q8 + 1))) (zB dC dI cy (zA cy G S sz) G) (zA cy G S sz)) 0 0 (zA cy G S sz) := by
  refine Met.ofW (cc := cX5_addSlot) (maxL := 4) (ret := (some .int)) (by decide) rfl ?_
  intro p e s m args below meth c s₁ B hml hv
  obtain ⟨rfl, hsz, hP, hK, hD0, hN⟩ := hv
  have hx := B.exec
  have hb := B.bytes
  have hr := B.returns
  have hts := atoms_spec (ws := wsX5_addSlot) B.pre
  have hown : s.vm.findClass RX5 = some m.cls := findClass_of_methodNamed B.named
  have hlocks := B.notSynchronized
  subst hsz
  have hD : va_D (zA cy G S s.heap.size) (zW cy G S) := hD0.self
  generalize hAe : zA cy G S s.heap.size = A at hD ⊢
  have hA : ∀ q : Nat, s.heap.size ≤ q → A q := fun q h => by rw [← hAe]; exact Or.inr h
  have hS : va_S A s.heap s.heap [] := va_S.rf
  have hst := zSt.refl G S
  have hl := lv_entry ([.ref a, .int n, .int k]) (n := 4) (Nat.le_of_ble_eq_true rfl)
  rw [lg_entry_eq]
  generalize (lg_sl ([.ref a, .int n, .int k]) ++ List.replicate (4 - (lg_sl ([.ref a, .int n, .int k])).length) Slot.unset).toArray = ls at hl ⊢
  have hl : lv_has ls 4 [(0, .ref a), (1, .int n), (2, .int k)] := hl
  have hi5 : ∀ w ∈ wsX50, w ∈ wsX5_addSlot := by decide +kernel
  refine lv_aload_n hx hb dX5_addSlot_0 rfl (lv_at hl 0 rfl) ?_
  refine zget (ci := 5) (C := RX5) (T := TX5) (N := 10) hx hb hts hi5 hown hK hP hSc.1 rfl rfl 2 (by decide) (hts (.fieldLink RX5 18 "LinCluster$Schedule" "slots" "I") (by decide +kernel)) (fun _ h9 => h9) rfl dX5_addSlot_1 ?_
  refine lv_topi (fun v1 ev1 => ?_)
  obtain rfl : v1 = nI q8 := ev1.trans (eq8)
  refine lv_istore_n (lv' := [(3, .int (nI q8)), (0, .ref a), (1, .int n), (2, .int k)]) hx hb dX5_addSlot_4 rfl hl (by decide) rfl (fun ls hl => ?_)
  refine lv_iload_n hx hb dX5_addSlot_5 rfl (lv_at hl 0 rfl) ?_
  refine lv_bipush (v := 16) hx hb dX5_addSlot_6 (by decide) ?_
  refine lv_icmp_ge (tgt := 35) hx hb dX5_addSlot_8 (by decide) (fun c2 => ?_) (fun c2 => ?_)
  · exact absurd c2 (nI_ge (a := q8) (b := 16) (by omega) (by omega))
  · skip
    refine lv_aload_n hx hb dX5_addSlot_11 rfl (lv_at hl 1 rfl) ?_
    refine zget (ci := 5) (C := RX5) (T := TX5) (N := 10) hx hb hts hi5 hown hK hP hSc.1 rfl rfl 0 (by decide) (hts (.fieldLink RX5 9 "LinCluster$Schedule" "ids" "[I") (by decide +kernel)) (fun _ h9 => h9) (v := .ref ia) (congrArg (fun z => some (va_rf z)) ((hst.sc hSc).2.1)) dX5_addSlot_12 ?_
    refine lv_iload_n hx hb dX5_addSlot_15 rfl (lv_at hl 0 rfl) ?_
    refine lv_iload_n hx hb dX5_addSlot_16 rfl (lv_at hl 2 rfl) ?_
    refine ziast (x := n) hx hb hK hP hD hS hSc.2.2.2.1 hSc.2.2.2.2.1 (vp_in_nI (n := q8) (by omega) (by omega)) dX5_addSlot_17 (fun H locs hP hD hS => ?_)
    have hst := hst.pi (k := ((nI q8) : Int32).toNatClampNeg) (v := n) hSc.2.2.2.1.2 rfl
    refine lv_aload_n hx hb dX5_addSlot_18 rfl (lv_at hl 1 rfl) ?_
    refine zget (ci := 5) (C := RX5) (T := TX5) (N := 10) hx hb hts hi5 hown hK hP hSc.1 rfl rfl 1 (by decide) (hts (.fieldLink RX5 15 "LinCluster$Schedule" "lengths" "[I") (by decide +kernel)) (fun _ h9 => h9) (v := .ref na) (congrArg (fun z => some (va_rf z)) ((hst.sc hSc).2.2.1)) dX5_addSlot_19 ?_
    refine lv_iload_n hx hb dX5_addSlot_22 rfl (lv_at hl 0 rfl) ?_
    refine lv_iload_n hx hb dX5_addSlot_23 rfl (lv_at hl 3 rfl) ?_
    refine ziast (x := k) hx hb hK hP hD hS hSc.2.2.2.2.2.1 hSc.2.2.2.2.2.2 (vp_in_nI (n := q8) (by omega) (by omega)) dX5_addSlot_24 (fun H locs hP hD hS => ?_)
    have hst := hst.pi (k := ((nI q8) : Int32).toNatClampNeg) (v := k) hSc.2.2.2.2.2.1.2 rfl
    refine lv_aload_n hx hb dX5_addSlot_25 rfl (lv_at hl 1 rfl) ?_
    refine lv_dup hx hb dX5_addSlot_26 rfl ?_
    refine zget (ci := 5) (C := RX5) (T := TX5) (N := 10) hx hb hts hi5 hown hK hP hSc.1 rfl rfl 2 (by decide) (hts (.fieldLink RX5 18 "LinCluster$Schedule" "slots" "I") (by decide +kernel)) (fun _ h9 => h9) rfl dX5_addSlot_27 ?_
    refine lv_topi (fun v3 ev3 => ?_)
    obtain rfl : v3 = nI q8 := ev3.trans ((hst.1 a 2 (by rw [hSc.1.2]; rfl)).trans eq8)
    refine lv_iconst (v := 1) hx hb dX5_addSlot_30 (by decide) ?_
    refine lv_iadd hx hb dX5_addSlot_31 ?_
    refine lv_topi (fun v4 ev4 => ?_)
    obtain rfl : v4 = nI (q8 + 1) := ev4.trans (nI_add q8 1)
    refine zputi (ci := 5) (v := (nI (q8 + 1))) (ty := .int) (C := RX5) (T := TX5) (N := 10) hx hb hts hi5 tyX5 tyX5_ok nmX5 hown hK hP hD hS hSc.1 rfl rfl 2 (by decide) (hts (.fieldLink RX5 18 "LinCluster$Schedule" "slots" "I") (by decide +kernel)) (fun _ h9 => h9) rfl (by decide +kernel) rfl rfl (Nat.le_of_ble_eq_true rfl) rfl dX5_addSlot_32 (fun H locs hP hD hS => ?_)
    refine lv_iload_n hx hb dX5_addSlot_35 rfl (lv_at hl 0 rfl) ?_
    exact W.iret (v := (nI q8)) hx hb hr (fun t ht hW => ⟨⟨(nI q8), (zpi (zpi (zpi S ia (((nI q8) : Int32).toNatClampNeg) n) na (((nI q8) : Int32).toNatClampNeg) k) a 2 (nI (q8 + 1))), rfl, ⟨rfl, (zpi (zpi S ia (((nI q8) : Int32).toNatClampNeg) n) na (((nI q8) : Int32).toNatClampNeg) k), hst, rfl⟩, by rw [ht]; exact hP, va_K.moved hW.alike hK, hD⟩, hS.F ht⟩) hS.2.2 dX5_addSlot_36
set_option maxHeartbeats 4000000 in
set_option maxRecDepth 100000 in
theorem c_X1_hasByte (l : Launch) (dC : Nat → ClassId) (dI : Nat → Nat → Nat) (cy : Nat → ClassId) (G : zG) (S : zS) (sz : Nat) (a : Nat) (n : Int32) (hO : zO G a 1) : Met l yX1_hasByte wsX1_hasByte ({ frames := 0, cells := 0, slots := 0, locals := 0 }) (zP dC dI cy [.ref a, .int n] G S sz) (vp_Si (fun r => (r = 1 ∧ ¬ n < 0 ∧ ¬ S.1 a 1 ≤ n) ∨ (r = 0 ∧ (n < 0 ∨ S.1 a 1 ≤ n)))) 0 0 (fun _ => False) := by
  refine Met.ofW (cc := cX1_hasByte) (maxL := 2) (ret := (some .boolean)) (by decide) rfl ?_
  intro p e s m args below meth c s₁ B hml hv
  obtain ⟨rfl, hsz, hP, hK, hD0, hN⟩ := hv
  have hx := B.exec
  have hb := B.bytes
  have hr := B.returns
  have hts := atoms_spec (ws := wsX1_hasByte) B.pre
  have hown : s.vm.findClass RX1 = some m.cls := findClass_of_methodNamed B.named
  have hlocks := B.notSynchronized
  subst hsz
  have hD := hD0
  have hst := zSt.refl G S
  have hl := lv_entry ([.ref a, .int n]) (n := 2) (Nat.le_of_ble_eq_true rfl)
  rw [lg_entry_eq]
  generalize (lg_sl ([.ref a, .int n]) ++ List.replicate (2 - (lg_sl ([.ref a, .int n])).length) Slot.unset).toArray = ls at hl ⊢
  have hl : lv_has ls 2 [(0, .ref a), (1, .int n)] := hl
  have hi1 : ∀ w ∈ wsX10, w ∈ wsX1_hasByte := by decide +kernel
  refine lv_iload_n hx hb dX1_hasByte_0 rfl (lv_at hl 1 rfl) ?_
  refine lv_if_lt (tgt := 16) hx hb dX1_hasByte_1 (by decide) (fun c1 => ?_) (fun c1 => ?_)
  · skip
    refine lv_iconst (v := 0) hx hb dX1_hasByte_16 (by decide) ?_
    exact W.zret (v := 0) (ty := .boolean) hx hb hr rfl (fun t ht hW => ⟨0, rfl, (Or.inr ⟨rfl, Or.inl c1⟩), ht⟩) (fun _ h => absurd h List.not_mem_nil) dX1_hasByte_17
  · skip
    refine lv_iload_n hx hb dX1_hasByte_4 rfl (lv_at hl 1 rfl) ?_
    refine lv_aload_n hx hb dX1_hasByte_5 rfl (lv_at hl 0 rfl) ?_
    refine zget (ci := 1) (C := RX1) (T := TX1) (N := 9) hx hb hts hi1 hown hK hP hO rfl rfl 1 (by decide) (hts (.fieldLink RX1 30 "LinCluster$Frame" "length" "I") (by decide +kernel)) (fun _ h9 => h9) rfl dX1_hasByte_6 ?_
    refine lv_topi (fun v2 ev2 => ?_)
    refine lv_icmp_ge (tgt := 16) hx hb dX1_hasByte_9 (by decide) (fun c3 => ?_) (fun c3 => ?_)
    · skip
      refine lv_iconst (v := 0) hx hb dX1_hasByte_16 (by decide) ?_
      exact W.zret (v := 0) (ty := .boolean) hx hb hr rfl (fun t ht hW => ⟨0, rfl, (Or.inr ⟨rfl, Or.inr (by rw [← ev2]; exact c3)⟩), ht⟩) (fun _ h => absurd h List.not_mem_nil) dX1_hasByte_17
    · skip
      refine lv_iconst (v := 1) hx hb dX1_hasByte_12 (by decide) ?_
      refine lv_goto (tgt := 17) hx hb dX1_hasByte_13 (by decide) ?_
      exact W.zret (v := 1) (ty := .boolean) hx hb hr rfl (fun t ht hW => ⟨1, rfl, (Or.inl ⟨rfl, c1, fun z9 => c3 (by rw [ev2]; exact z9)⟩), ht⟩) (fun _ h => absurd h List.not_mem_nil) dX1_hasByte_17
set_option maxHeartbeats 4000000 in
set_option maxRecDepth 100000 in
theorem c_X1_isKnownTo (l : Launch) (dC : Nat → ClassId) (dI : Nat → Nat → Nat) (cy : Nat → ClassId) (G : zG) (S : zS) (sz : Nat) (a : Nat) (n : Int32) (hO : zO G a 1) : Met l yX1_isKnownTo wsX1_isKnownTo ({ frames := 1, cells := 0, slots := 0, locals := 21 }) (zP dC dI cy [.ref a, .int n] G S sz) (vp_Si (fun r => True)) 0 0 (fun _ => False) := by
  refine Met.ofW (cc := cX1_isKnownTo) (maxL := 2) (ret := (some .boolean)) (by decide) rfl ?_
  intro p e s m args below meth c s₁ B hml hv
  obtain ⟨rfl, hsz, hP, hK, hD0, hN⟩ := hv
  have hx := B.exec
  have hb := B.bytes
  have hr := B.returns
  have hts := atoms_spec (ws := wsX1_isKnownTo) B.pre
  have hown : s.vm.findClass RX1 = some m.cls := findClass_of_methodNamed B.named
  have hlocks := B.notSynchronized
  subst hsz
  have hD := hD0
  have hst := zSt.refl G S
  have hl := lv_entry ([.ref a, .int n]) (n := 2) (Nat.le_of_ble_eq_true rfl)
  rw [lg_entry_eq]
  generalize (lg_sl ([.ref a, .int n]) ++ List.replicate (2 - (lg_sl ([.ref a, .int n])).length) Slot.unset).toArray = ls at hl ⊢
  have hl : lv_has ls 2 [(0, .ref a), (1, .int n)] := hl
  have hi1 : ∀ w ∈ wsX10, w ∈ wsX1_isKnownTo := by decide +kernel
  refine lv_iload_n hx hb dX1_isKnownTo_0 rfl (lv_at hl 1 rfl) ?_
  refine lv_aload_n hx hb dX1_isKnownTo_1 rfl (lv_at hl 0 rfl) ?_
  refine zget (ci := 1) (C := RX1) (T := TX1) (N := 9) hx hb hts hi1 hown hK hP hO rfl rfl 2 (by decide) (hts (.fieldLink RX1 33 "LinCluster$Frame" "publisher" "I") (by decide +kernel)) (fun _ h9 => h9) rfl dX1_isKnownTo_2 ?_
  refine lv_topi (fun v1 ev1 => ?_)
  refine lv_icmp_eq (tgt := 16) hx hb dX1_isKnownTo_5 (by decide) (fun c2 => ?_) (fun c2 => ?_)
  · skip
    refine lv_iconst (v := 1) hx hb dX1_isKnownTo_16 (by decide) ?_
    refine lv_goto (tgt := 21) hx hb dX1_isKnownTo_17 (by decide) ?_
    exact W.zret (v := 1) (ty := .boolean) hx hb hr rfl (fun t ht hW => ⟨1, rfl, trivial, ht⟩) (fun _ h => absurd h List.not_mem_nil) dX1_isKnownTo_21
  · skip
    refine lv_aload_n hx hb dX1_isKnownTo_8 rfl (lv_at hl 0 rfl) ?_
    refine lv_iload_n hx hb dX1_isKnownTo_9 rfl (lv_at hl 1 rfl) ?_
    refine vp_callSi (va_Run.run (va_runV (As := [.int n]) (rest := []) ⟨hx, hb, hml, hown, hts⟩ (c_X1_isHeardBy l dC dI cy G S s.heap.size a n hO) (cwV 1 hts gX1_isKnownTo_X1_isHeardBy rfl rfl rfl (by decide +kernel) ⟨Nat.le_of_ble_eq_true rfl, Nat.le_of_ble_eq_true rfl⟩) (zpreV hK hP hD hN (zrecv1 hK hP hO)) rfl rfl hl.1 rfl (lv_room (Nat.le_of_ble_eq_true rfl)) dX1_isKnownTo_10 ⟨Nat.le_of_ble_eq_true rfl, Nat.le_of_ble_eq_true rfl⟩)) (fun r3 hr3 => ?_)
    refine lv_if_eq (tgt := 20) hx hb dX1_isKnownTo_13 (by decide) (fun c4 => ?_) (fun c4 => ?_)
    · skip
      refine lv_iconst (v := 0) hx hb dX1_isKnownTo_20 (by decide) ?_
      exact W.zret (v := 0) (ty := .boolean) hx hb hr rfl (fun t ht hW => ⟨0, rfl, trivial, ht⟩) (fun _ h => absurd h List.not_mem_nil) dX1_isKnownTo_21
    · skip
      refine lv_iconst (v := 1) hx hb dX1_isKnownTo_16 (by decide) ?_
      refine lv_goto (tgt := 21) hx hb dX1_isKnownTo_17 (by decide) ?_
      exact W.zret (v := 1) (ty := .boolean) hx hb hr rfl (fun t ht hW => ⟨1, rfl, trivial, ht⟩) (fun _ h => absurd h List.not_mem_nil) dX1_isKnownTo_21
set_option maxHeartbeats 4000000 in
set_option maxRecDepth 100000 in
theorem c_X1_bytesAt (l : Launch) (dC : Nat → ClassId) (dI : Nat → Nat → Nat) (cy : Nat → ClassId) (G : zG) (S : zS) (sz : Nat) (a ka ta : Nat) (n : Int32) (hF : zFr G S a ka ta) : Met l yX1_bytesAt wsX1_bytesAt ({ frames := 1, cells := 0, slots := 0, locals := 20 }) (zP dC dI cy [.ref a, .int n] G S sz) (vp_Sl (fun r => True)) 0 0 (fun _ => False) := by
  refine Met.ofW (cc := cX1_bytesAt) (maxL := 2) (ret := (some .long)) (by decide) rfl ?_
  intro p e s m args below meth c s₁ B hml hv
  obtain ⟨rfl, hsz, hP, hK, hD0, hN⟩ := hv
  have hx := B.exec
  have hb := B.bytes
  have hr := B.returns
  have hts := atoms_spec (ws := wsX1_bytesAt) B.pre
  have hown : s.vm.findClass RX1 = some m.cls := findClass_of_methodNamed B.named
  have hlocks := B.notSynchronized
  subst hsz
  have hD := hD0
  have hst := zSt.refl G S
  have hl := lv_entry ([.ref a, .int n]) (n := 2) (Nat.le_of_ble_eq_true rfl)
  rw [lg_entry_eq]
  generalize (lg_sl ([.ref a, .int n]) ++ List.replicate (2 - (lg_sl ([.ref a, .int n])).length) Slot.unset).toArray = ls at hl ⊢
  have hl : lv_has ls 2 [(0, .ref a), (1, .int n)] := hl
  have hi1 : ∀ w ∈ wsX10, w ∈ wsX1_bytesAt := by decide +kernel
  refine lv_iload_n hx hb dX1_bytesAt_0 rfl (lv_at hl 1 rfl) ?_
  refine vp_callSi (va_Run.run (va_runSN (As := [.int n]) (rest := []) ⟨hx, hb, hml, hown, hts⟩ (c_X6_isNode l n) ⟨va_cnB 1 hts gX1_bytesAt_X6_isNode_n57 rfl rfl rfl (zN_X1_57 hN) (hts (.initialized RX6) (by decide +kernel)) (by decide +kernel) ⟨Nat.le_of_ble_eq_true rfl, Nat.le_of_ble_eq_true rfl⟩, hts (.static yX6_isNode) (by decide +kernel), trivial⟩ zpreS0 rfl rfl hl.1 rfl (lv_room (Nat.le_of_ble_eq_true rfl)) dX1_bytesAt_1 ⟨Nat.le_of_ble_eq_true rfl, Nat.le_of_ble_eq_true rfl⟩)) (fun r1 hr1 => ?_)
  refine lv_if_eq (tgt := 24) hx hb dX1_bytesAt_4 (by decide) (fun c2 => ?_) (fun c2 => ?_)
  · skip
    refine lv_aload_n hx hb dX1_bytesAt_24 rfl (lv_at hl 0 rfl) ?_
    refine zget (ci := 1) (C := RX1) (T := TX1) (N := 9) hx hb hts hi1 hown hK hP hF.1 rfl rfl 5 (by decide) (hts (.fieldLink RX1 9 "LinCluster$Frame" "bytes" "J") (by decide +kernel)) (fun _ h9 => h9) rfl dX1_bytesAt_25 ?_
    refine lv_topl (fun v3 ev3 => ?_)
    exact W.lret (v := v3) hx hb hr (fun t ht hW => ⟨v3, rfl, trivial, ht⟩) (fun _ h => absurd h List.not_mem_nil) dX1_bytesAt_28
  · skip
    refine lv_iload_n hx hb dX1_bytesAt_7 rfl (lv_at hl 1 rfl) ?_
    refine lv_aload_n hx hb dX1_bytesAt_8 rfl (lv_at hl 0 rfl) ?_
    refine zget (ci := 1) (C := RX1) (T := TX1) (N := 9) hx hb hts hi1 hown hK hP hF.1 rfl rfl 2 (by decide) (hts (.fieldLink RX1 33 "LinCluster$Frame" "publisher" "I") (by decide +kernel)) (fun _ h9 => h9) rfl dX1_bytesAt_9 ?_
    refine lv_topi (fun v4 ev4 => ?_)
    refine lv_icmp_eq (tgt := 24) hx hb dX1_bytesAt_12 (by decide) (fun c5 => ?_) (fun c5 => ?_)
    · skip
      refine lv_aload_n hx hb dX1_bytesAt_24 rfl (lv_at hl 0 rfl) ?_
      refine zget (ci := 1) (C := RX1) (T := TX1) (N := 9) hx hb hts hi1 hown hK hP hF.1 rfl rfl 5 (by decide) (hts (.fieldLink RX1 9 "LinCluster$Frame" "bytes" "J") (by decide +kernel)) (fun _ h9 => h9) rfl dX1_bytesAt_25 ?_
      refine lv_topl (fun v6 ev6 => ?_)
      exact W.lret (v := v6) hx hb hr (fun t ht hW => ⟨v6, rfl, trivial, ht⟩) (fun _ h => absurd h List.not_mem_nil) dX1_bytesAt_28
    · skip
      refine lv_aload_n hx hb dX1_bytesAt_15 rfl (lv_at hl 0 rfl) ?_
      refine zget (ci := 1) (C := RX1) (T := TX1) (N := 9) hx hb hts hi1 hown hK hP hF.1 rfl rfl 7 (by decide) (hts (.fieldLink RX1 19 "LinCluster$Frame" "kept" "[J") (by decide +kernel)) (fun _ h9 => h9) (v := .ref ka) (congrArg (fun z => some (va_rf z)) ((hst.fr hF).2.1)) dX1_bytesAt_16 ?_
      refine lv_iload_n hx hb dX1_bytesAt_19 rfl (lv_at hl 1 rfl) ?_
      refine zlald hx hb hK hP hF.2.2.2.2.1 hF.2.2.2.2.2.1 (zin8 hr1 c2) dX1_bytesAt_20 ?_
      refine lv_topl (fun v7 ev7 => ?_)
      refine lv_goto (tgt := 28) hx hb dX1_bytesAt_21 (by decide) ?_
      exact W.lret (v := v7) hx hb hr (fun t ht hW => ⟨v7, rfl, trivial, ht⟩) (fun _ h => absurd h List.not_mem_nil) dX1_bytesAt_28
set_option maxHeartbeats 4000000 in
set_option maxRecDepth 100000 in
theorem c_X1_takingsAt (l : Launch) (dC : Nat → ClassId) (dI : Nat → Nat → Nat) (cy : Nat → ClassId) (G : zG) (S : zS) (sz : Nat) (a ka ta : Nat) (n : Int32) (hF : zFr G S a ka ta) : Met l yX1_takingsAt wsX1_takingsAt ({ frames := 1, cells := 0, slots := 0, locals := 20 }) (zP dC dI cy [.ref a, .int n] G S sz) (vp_Si (fun r => True)) 0 0 (fun _ => False) := by
  refine Met.ofW (cc := cX1_takingsAt) (maxL := 2) (ret := (some .int)) (by decide) rfl ?_
  intro p e s m args below meth c s₁ B hml hv
  obtain ⟨rfl, hsz, hP, hK, hD0, hN⟩ := hv
  have hx := B.exec
  have hb := B.bytes
  have hr := B.returns
  have hts := atoms_spec (ws := wsX1_takingsAt) B.pre
  have hown : s.vm.findClass RX1 = some m.cls := findClass_of_methodNamed B.named
  have hlocks := B.notSynchronized
  subst hsz
  have hD := hD0
  have hst := zSt.refl G S
  have hl := lv_entry ([.ref a, .int n]) (n := 2) (Nat.le_of_ble_eq_true rfl)
  rw [lg_entry_eq]
  generalize (lg_sl ([.ref a, .int n]) ++ List.replicate (2 - (lg_sl ([.ref a, .int n])).length) Slot.unset).toArray = ls at hl ⊢
  have hl : lv_has ls 2 [(0, .ref a), (1, .int n)] := hl
  have hi1 : ∀ w ∈ wsX10, w ∈ wsX1_takingsAt := by decide +kernel
  refine lv_iload_n hx hb dX1_takingsAt_0 rfl (lv_at hl 1 rfl) ?_
  refine vp_callSi (va_Run.run (va_runSN (As := [.int n]) (rest := []) ⟨hx, hb, hml, hown, hts⟩ (c_X6_isNode l n) ⟨va_cnB 1 hts gX1_takingsAt_X6_isNode_n57 rfl rfl rfl (zN_X1_57 hN) (hts (.initialized RX6) (by decide +kernel)) (by decide +kernel) ⟨Nat.le_of_ble_eq_true rfl, Nat.le_of_ble_eq_true rfl⟩, hts (.static yX6_isNode) (by decide +kernel), trivial⟩ zpreS0 rfl rfl hl.1 rfl (lv_room (Nat.le_of_ble_eq_true rfl)) dX1_takingsAt_1 ⟨Nat.le_of_ble_eq_true rfl, Nat.le_of_ble_eq_true rfl⟩)) (fun r1 hr1 => ?_)
  refine lv_if_eq (tgt := 16) hx hb dX1_takingsAt_4 (by decide) (fun c2 => ?_) (fun c2 => ?_)
  · skip
    refine lv_iconst (v := 0) hx hb dX1_takingsAt_16 (by decide) ?_
    exact W.iret (v := 0) hx hb hr (fun t ht hW => ⟨0, rfl, trivial, ht⟩) (fun _ h => absurd h List.not_mem_nil) dX1_takingsAt_17
  · skip
    refine lv_aload_n hx hb dX1_takingsAt_7 rfl (lv_at hl 0 rfl) ?_
    refine zget (ci := 1) (C := RX1) (T := TX1) (N := 9) hx hb hts hi1 hown hK hP hF.1 rfl rfl 8 (by decide) (hts (.fieldLink RX1 23 "LinCluster$Frame" "takings" "[I") (by decide +kernel)) (fun _ h9 => h9) (v := .ref ta) (congrArg (fun z => some (va_rf z)) ((hst.fr hF).2.2.1)) dX1_takingsAt_8 ?_
    refine lv_iload_n hx hb dX1_takingsAt_11 rfl (lv_at hl 1 rfl) ?_
    refine ziald hx hb hK hP hF.2.2.2.2.2.2.1 hF.2.2.2.2.2.2.2 (zin8 hr1 c2) dX1_takingsAt_12 ?_
    refine lv_topi (fun v3 ev3 => ?_)
    refine lv_goto (tgt := 17) hx hb dX1_takingsAt_13 (by decide) ?_
    exact W.iret (v := v3) hx hb hr (fun t ht hW => ⟨v3, rfl, trivial, ht⟩) (fun _ h => absurd h List.not_mem_nil) dX1_takingsAt_17
set_option maxHeartbeats 4000000 in
set_option maxRecDepth 100000 in
theorem c_X0_put (l : Launch) (dC : Nat → ClassId) (dI : Nat → Nat → Nat) (cy : Nat → ClassId) (G : zG) (S : zS) (sz : Nat) (a ka va : Nat) (n k : Int32) (hDi : zDi G S a ka va) : Met l yX0_put wsX0_put ({ frames := 1, cells := 0, slots := 0, locals := 20 }) (zP dC dI cy [.ref a, .int n, .int k] G S sz) (va_Qv (fun S' => zSt G S S') (zB dC dI cy (zA cy G S sz) G) (zA cy G S sz)) 0 0 (zA cy G S sz) := by
  refine Met.ofW (cc := cX0_put) (maxL := 6) (ret := none) (by decide) rfl ?_
  intro p e s m args below meth c s₁ B hml hv
  obtain ⟨rfl, hsz, hP, hK, hD0, hN⟩ := hv
  have hx := B.exec
  have hb := B.bytes
  have hr := B.returns
  have hts := atoms_spec (ws := wsX0_put) B.pre
  have hown : s.vm.findClass RX0 = some m.cls := findClass_of_methodNamed B.named
  have hlocks := B.notSynchronized
  subst hsz
  have hD : va_D (zA cy G S s.heap.size) (zW cy G S) := hD0.self
  generalize hAe : zA cy G S s.heap.size = A at hD ⊢
  have hA : ∀ q : Nat, s.heap.size ≤ q → A q := fun q h => by rw [← hAe]; exact Or.inr h
  have hS : va_S A s.heap s.heap [] := va_S.rf
  have hst := zSt.refl G S
  have hl := lv_entry ([.ref a, .int n, .int k]) (n := 6) (Nat.le_of_ble_eq_true rfl)
  rw [lg_entry_eq]
  generalize (lg_sl ([.ref a, .int n, .int k]) ++ List.replicate (6 - (lg_sl ([.ref a, .int n, .int k])).length) Slot.unset).toArray = ls at hl ⊢
  have hl : lv_has ls 6 [(0, .ref a), (1, .int n), (2, .int k)] := hl
  have hi0 : ∀ w ∈ wsX00, w ∈ wsX0_put := by decide +kernel
  refine lv_iload_n hx hb dX0_put_0 rfl (lv_at hl 1 rfl) ?_
  refine vp_callSi (va_Run.run (va_runS (As := [.int n]) (rest := []) ⟨hx, hb, hml, hown, hts⟩ (c_X0_rowOf l n) (va_cwS 1 hts gX0_put_X0_rowOf rfl rfl rfl (by decide +kernel) ⟨Nat.le_of_ble_eq_true rfl, Nat.le_of_ble_eq_true rfl⟩) zpreS0 rfl rfl hl.1 rfl (lv_room (Nat.le_of_ble_eq_true rfl)) dX0_put_1 ⟨Nat.le_of_ble_eq_true rfl, Nat.le_of_ble_eq_true rfl⟩)) (fun r1 hr1 => ?_)
  refine lv_istore_n (lv' := [(3, .int r1), (0, .ref a), (1, .int n), (2, .int k)]) hx hb dX0_put_4 rfl hl (by decide) rfl (fun ls hl => ?_)
  refine lv_lconst (v := 1) hx hb dX0_put_5 (by decide) ?_
  refine lv_iload_n hx hb dX0_put_6 rfl (lv_at hl 2 rfl) ?_
  refine lv_bipush (v := 63) hx hb dX0_put_7 (by decide) ?_
  refine lv_iand hx hb dX0_put_9 ?_
  refine lv_topi (fun v2 ev2 => ?_)
  refine lv_lshl hx hb dX0_put_10 rfl ?_
  refine lv_topl (fun v3 ev3 => ?_)
  refine lv_lstore (lv' := [(4, .long v3), (3, .int r1), (0, .ref a), (1, .int n), (2, .int k)]) hx hb dX0_put_11 hl (by decide) rfl (fun ls hl => ?_)
  refine lv_aload_n hx hb dX0_put_13 rfl (lv_at hl 2 rfl) ?_
  refine zget (ci := 0) (C := RX0) (T := TX0) (N := 3) hx hb hts hi0 hown hK hP hDi.1 rfl rfl 0 (by decide) (hts (.fieldLink RX0 9 "LinCluster$Disturbings" "marked" "[J") (by decide +kernel)) (fun _ h9 => h9) (v := .ref ka) (congrArg (fun z => some (va_rf z)) ((hst.di hDi).2.1)) dX0_put_14 ?_
  refine lv_iload_n hx hb dX0_put_17 rfl (lv_at hl 1 rfl) ?_
  refine zlald hx hb hK hP hDi.2.2.2.1 hDi.2.2.2.2.1 hr1 dX0_put_18 ?_
  refine lv_topl (fun v4 ev4 => ?_)
  refine lv_lload hx hb dX0_put_19 (lv_at hl 0 rfl) ?_
  refine lv_land hx hb dX0_put_21 ?_
  refine lv_topl (fun v5 ev5 => ?_)
  refine lv_lconst (v := 0) hx hb dX0_put_22 (by decide) ?_
  refine W.lcmp hx hb dX0_put_23 ?_
  refine lv_topi (fun v6 ev6 => ?_)
  refine lv_if_ne (tgt := 48) hx hb dX0_put_24 (by decide) (fun c7 => ?_) (fun c7 => ?_)
  · skip
    refine lv_aload_n hx hb dX0_put_48 rfl (lv_at hl 2 rfl) ?_
    refine zget (ci := 0) (C := RX0) (T := TX0) (N := 3) hx hb hts hi0 hown hK hP hDi.1 rfl rfl 1 (by decide) (hts (.fieldLink RX0 13 "LinCluster$Disturbings" "values" "[J") (by decide +kernel)) (fun _ h9 => h9) (v := .ref va) (congrArg (fun z => some (va_rf z)) ((hst.di hDi).2.2.1)) dX0_put_49 ?_
    refine lv_iload_n hx hb dX0_put_52 rfl (lv_at hl 1 rfl) ?_
    refine lv_iload_n hx hb dX0_put_53 rfl (lv_at hl 4 rfl) ?_
    refine lv_iconst (v := 1) hx hb dX0_put_54 (by decide) ?_
    refine lv_icmp_ne (tgt := 70) hx hb dX0_put_55 (by decide) (fun c8 => ?_) (fun c8 => ?_)
    · skip
      refine lv_aload_n hx hb dX0_put_70 rfl (lv_at hl 2 rfl) ?_
      refine zget (ci := 0) (C := RX0) (T := TX0) (N := 3) hx hb hts hi0 hown hK hP hDi.1 rfl rfl 1 (by decide) (hts (.fieldLink RX0 13 "LinCluster$Disturbings" "values" "[J") (by decide +kernel)) (fun _ h9 => h9) (v := .ref va) (congrArg (fun z => some (va_rf z)) ((hst.di hDi).2.2.1)) dX0_put_71 ?_
      refine lv_iload_n hx hb dX0_put_74 rfl (lv_at hl 1 rfl) ?_
      refine zlald hx hb hK hP hDi.2.2.2.2.2.1 hDi.2.2.2.2.2.2 hr1 dX0_put_75 ?_
      refine lv_topl (fun v9 ev9 => ?_)
      refine lv_lload hx hb dX0_put_76 (lv_at hl 0 rfl) ?_
      refine lv_ldc2 (v := (-1)) hx hb hown (hts (.constantLong RX0 24 (-1)) (by decide +kernel)) dX0_put_78 ?_
      refine lv_lxor hx hb dX0_put_81 ?_
      refine lv_topl (fun v10 ev10 => ?_)
      refine lv_land hx hb dX0_put_82 ?_
      refine lv_topl (fun v11 ev11 => ?_)
      refine zlast (x := v11) hx hb hK hP hD hS hDi.2.2.2.2.2.1 hDi.2.2.2.2.2.2 hr1 dX0_put_83 (fun H locs hP hD hS => ?_)
      have hst := hst.pj (k := (r1 : Int32).toNatClampNeg) (v := v11) hDi.2.2.2.2.2.1.2 rfl
      exact W.vret hx hb hr (fun t ht hW => ⟨⟨(zpj S va ((r1 : Int32).toNatClampNeg) v11), rfl, hst, by rw [ht]; exact hP, va_K.moved hW.alike hK, hD⟩, hS.F ht⟩) hS.2.2 dX0_put_84
    · skip
      refine lv_aload_n hx hb dX0_put_58 rfl (lv_at hl 2 rfl) ?_
      refine zget (ci := 0) (C := RX0) (T := TX0) (N := 3) hx hb hts hi0 hown hK hP hDi.1 rfl rfl 1 (by decide) (hts (.fieldLink RX0 13 "LinCluster$Disturbings" "values" "[J") (by decide +kernel)) (fun _ h9 => h9) (v := .ref va) (congrArg (fun z => some (va_rf z)) ((hst.di hDi).2.2.1)) dX0_put_59 ?_
      refine lv_iload_n hx hb dX0_put_62 rfl (lv_at hl 1 rfl) ?_
      refine zlald hx hb hK hP hDi.2.2.2.2.2.1 hDi.2.2.2.2.2.2 hr1 dX0_put_63 ?_
      refine lv_topl (fun v12 ev12 => ?_)
      refine lv_lload hx hb dX0_put_64 (lv_at hl 0 rfl) ?_
      refine lv_lor hx hb dX0_put_66 ?_
      refine lv_topl (fun v13 ev13 => ?_)
      refine lv_goto (tgt := 83) hx hb dX0_put_67 (by decide) ?_
      refine zlast (x := v13) hx hb hK hP hD hS hDi.2.2.2.2.2.1 hDi.2.2.2.2.2.2 hr1 dX0_put_83 (fun H locs hP hD hS => ?_)
      have hst := hst.pj (k := (r1 : Int32).toNatClampNeg) (v := v13) hDi.2.2.2.2.2.1.2 rfl
      exact W.vret hx hb hr (fun t ht hW => ⟨⟨(zpj S va ((r1 : Int32).toNatClampNeg) v13), rfl, hst, by rw [ht]; exact hP, va_K.moved hW.alike hK, hD⟩, hS.F ht⟩) hS.2.2 dX0_put_84
  · skip
    refine lv_aload_n hx hb dX0_put_27 rfl (lv_at hl 2 rfl) ?_
    refine zget (ci := 0) (C := RX0) (T := TX0) (N := 3) hx hb hts hi0 hown hK hP hDi.1 rfl rfl 0 (by decide) (hts (.fieldLink RX0 9 "LinCluster$Disturbings" "marked" "[J") (by decide +kernel)) (fun _ h9 => h9) (v := .ref ka) (congrArg (fun z => some (va_rf z)) ((hst.di hDi).2.1)) dX0_put_28 ?_
    refine lv_iload_n hx hb dX0_put_31 rfl (lv_at hl 1 rfl) ?_
    refine lv_dup2_11 hx hb dX0_put_32 rfl rfl ?_
    refine zlald hx hb hK hP hDi.2.2.2.1 hDi.2.2.2.2.1 hr1 dX0_put_33 ?_
    refine lv_topl (fun v14 ev14 => ?_)
    refine lv_lload hx hb dX0_put_34 (lv_at hl 0 rfl) ?_
    refine lv_lor hx hb dX0_put_36 ?_
    refine lv_topl (fun v15 ev15 => ?_)
    refine zlast (x := v15) hx hb hK hP hD hS hDi.2.2.2.1 hDi.2.2.2.2.1 hr1 dX0_put_37 (fun H locs hP hD hS => ?_)
    have hst := hst.pj (k := (r1 : Int32).toNatClampNeg) (v := v15) hDi.2.2.2.1.2 rfl
    refine lv_aload_n hx hb dX0_put_38 rfl (lv_at hl 2 rfl) ?_
    refine lv_dup hx hb dX0_put_39 rfl ?_
    refine zget (ci := 0) (C := RX0) (T := TX0) (N := 3) hx hb hts hi0 hown hK hP hDi.1 rfl rfl 2 (by decide) (hts (.fieldLink RX0 16 "LinCluster$Disturbings" "toCome" "I") (by decide +kernel)) (fun _ h9 => h9) rfl dX0_put_40 ?_
    refine lv_topi (fun v16 ev16 => ?_)
    refine lv_iconst (v := 1) hx hb dX0_put_43 (by decide) ?_
    refine lv_iadd hx hb dX0_put_44 ?_
    refine lv_topi (fun v17 ev17 => ?_)
    refine zputi (ci := 0) (v := v17) (ty := .int) (C := RX0) (T := TX0) (N := 3) hx hb hts hi0 tyX0 tyX0_ok nmX0 hown hK hP hD hS hDi.1 rfl rfl 2 (by decide) (hts (.fieldLink RX0 16 "LinCluster$Disturbings" "toCome" "I") (by decide +kernel)) (fun _ h9 => h9) rfl (by decide +kernel) rfl rfl (Nat.le_of_ble_eq_true rfl) rfl dX0_put_45 (fun H locs hP hD hS => ?_)
    have hst := hst.pi (k := 2) (v := v17) hDi.1.2 rfl
    refine lv_aload_n hx hb dX0_put_48 rfl (lv_at hl 2 rfl) ?_
    refine zget (ci := 0) (C := RX0) (T := TX0) (N := 3) hx hb hts hi0 hown hK hP hDi.1 rfl rfl 1 (by decide) (hts (.fieldLink RX0 13 "LinCluster$Disturbings" "values" "[J") (by decide +kernel)) (fun _ h9 => h9) (v := .ref va) (congrArg (fun z => some (va_rf z)) ((hst.di hDi).2.2.1)) dX0_put_49 ?_
    refine lv_iload_n hx hb dX0_put_52 rfl (lv_at hl 1 rfl) ?_
    refine lv_iload_n hx hb dX0_put_53 rfl (lv_at hl 4 rfl) ?_
    refine lv_iconst (v := 1) hx hb dX0_put_54 (by decide) ?_
    refine lv_icmp_ne (tgt := 70) hx hb dX0_put_55 (by decide) (fun c18 => ?_) (fun c18 => ?_)
    · skip
      refine lv_aload_n hx hb dX0_put_70 rfl (lv_at hl 2 rfl) ?_
      refine zget (ci := 0) (C := RX0) (T := TX0) (N := 3) hx hb hts hi0 hown hK hP hDi.1 rfl rfl 1 (by decide) (hts (.fieldLink RX0 13 "LinCluster$Disturbings" "values" "[J") (by decide +kernel)) (fun _ h9 => h9) (v := .ref va) (congrArg (fun z => some (va_rf z)) ((hst.di hDi).2.2.1)) dX0_put_71 ?_
      refine lv_iload_n hx hb dX0_put_74 rfl (lv_at hl 1 rfl) ?_
      refine zlald hx hb hK hP hDi.2.2.2.2.2.1 hDi.2.2.2.2.2.2 hr1 dX0_put_75 ?_
      refine lv_topl (fun v19 ev19 => ?_)
      refine lv_lload hx hb dX0_put_76 (lv_at hl 0 rfl) ?_
      refine lv_ldc2 (v := (-1)) hx hb hown (hts (.constantLong RX0 24 (-1)) (by decide +kernel)) dX0_put_78 ?_
      refine lv_lxor hx hb dX0_put_81 ?_
      refine lv_topl (fun v20 ev20 => ?_)
      refine lv_land hx hb dX0_put_82 ?_
      refine lv_topl (fun v21 ev21 => ?_)
      refine zlast (x := v21) hx hb hK hP hD hS hDi.2.2.2.2.2.1 hDi.2.2.2.2.2.2 hr1 dX0_put_83 (fun H locs hP hD hS => ?_)
      have hst := hst.pj (k := (r1 : Int32).toNatClampNeg) (v := v21) hDi.2.2.2.2.2.1.2 rfl
      exact W.vret hx hb hr (fun t ht hW => ⟨⟨(zpj (zpi (zpj S ka ((r1 : Int32).toNatClampNeg) v15) a 2 v17) va ((r1 : Int32).toNatClampNeg) v21), rfl, hst, by rw [ht]; exact hP, va_K.moved hW.alike hK, hD⟩, hS.F ht⟩) hS.2.2 dX0_put_84
    · skip
      refine lv_aload_n hx hb dX0_put_58 rfl (lv_at hl 2 rfl) ?_
      refine zget (ci := 0) (C := RX0) (T := TX0) (N := 3) hx hb hts hi0 hown hK hP hDi.1 rfl rfl 1 (by decide) (hts (.fieldLink RX0 13 "LinCluster$Disturbings" "values" "[J") (by decide +kernel)) (fun _ h9 => h9) (v := .ref va) (congrArg (fun z => some (va_rf z)) ((hst.di hDi).2.2.1)) dX0_put_59 ?_
      refine lv_iload_n hx hb dX0_put_62 rfl (lv_at hl 1 rfl) ?_
      refine zlald hx hb hK hP hDi.2.2.2.2.2.1 hDi.2.2.2.2.2.2 hr1 dX0_put_63 ?_
      refine lv_topl (fun v22 ev22 => ?_)
      refine lv_lload hx hb dX0_put_64 (lv_at hl 0 rfl) ?_
      refine lv_lor hx hb dX0_put_66 ?_
      refine lv_topl (fun v23 ev23 => ?_)
      refine lv_goto (tgt := 83) hx hb dX0_put_67 (by decide) ?_
      refine zlast (x := v23) hx hb hK hP hD hS hDi.2.2.2.2.2.1 hDi.2.2.2.2.2.2 hr1 dX0_put_83 (fun H locs hP hD hS => ?_)
      have hst := hst.pj (k := (r1 : Int32).toNatClampNeg) (v := v23) hDi.2.2.2.2.2.1.2 rfl
      exact W.vret hx hb hr (fun t ht hW => ⟨⟨(zpj (zpi (zpj S ka ((r1 : Int32).toNatClampNeg) v15) a 2 v17) va ((r1 : Int32).toNatClampNeg) v23), rfl, hst, by rw [ht]; exact hP, va_K.moved hW.alike hK, hD⟩, hS.F ht⟩) hS.2.2 dX0_put_84
