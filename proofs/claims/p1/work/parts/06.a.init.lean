set_option maxHeartbeats 4000000 in
set_option maxRecDepth 100000 in
theorem c_X2_init (l : Launch) (dC : Nat → ClassId) (dI : Nat → Nat → Nat) (cy : Nat → ClassId) (G : zG) (S : zS) (sz : Nat) (a : Nat) (hO_a : zO G a 2) : Met l yX2_init wsX2_init ({ frames := 1, cells := 0, slots := 0, locals := 12 }) (zP dC dI cy [.ref a] G S sz) (va_Qv (fun S' => S' = (zpi (zpi S a 0 0) a 1 0)) (zB dC dI cy (zA cy G S sz) G) (zA cy G S sz)) 0 0 (zA cy G S sz) := by
  refine Met.ofW (cc := cX2_init) (maxL := 1) (ret := none) (by decide) rfl ?_
  intro p e s m args below meth c s₁ B hml hv
  obtain ⟨rfl, hsz, hP, hK, hD0, hN⟩ := hv
  have hx := B.exec
  have hb := B.bytes
  have hr := B.returns
  have hts := atoms_spec (ws := wsX2_init) B.pre
  have hown : s.vm.findClass RX2 = some m.cls := findClass_of_methodNamed B.named
  have hlocks := B.notSynchronized
  subst hsz
  have hD : va_D (zA cy G S s.heap.size) (zW cy G S) := hD0.self
  generalize hAe : zA cy G S s.heap.size = A at hD ⊢
  have hA : ∀ q : Nat, s.heap.size ≤ q → A q := fun q h => by rw [← hAe]; exact Or.inr h
  have hS : va_S A s.heap s.heap [] := va_S.rf
  have hst := zSt.refl G S
  have hl := lv_entry ([.ref a]) (n := 1) (Nat.le_of_ble_eq_true rfl)
  rw [lg_entry_eq]
  generalize (lg_sl ([.ref a]) ++ List.replicate (1 - (lg_sl ([.ref a])).length) Slot.unset).toArray = ls at hl ⊢
  have hl : lv_has ls 1 [(0, .ref a)] := hl
  have hi2 : ∀ w ∈ wsX20, w ∈ wsX2_init := by decide +kernel
  refine lv_aload_n hx hb dX2_init_0 rfl (lv_at hl 0 rfl) ?_
  refine W.objInit hx hb hown (hts (.methodLink RX2 3 objectInit) (by decide +kernel)) (hts (.instanceMethod objectInit) (by decide +kernel)) (hts (.code objectInit ⟨#[0xb1]⟩ 1 none) (by decide +kernel)) rfl (by rw [hml]; exact hl.1) rfl dX2_init_1 (Nat.le_of_ble_eq_true rfl) (Nat.le_of_ble_eq_true rfl) ?_
  refine W.eq (g2 := F0 m 4 ls []) rfl ?_
  refine lv_aload_n hx hb dX2_init_4 rfl (lv_at hl 0 rfl) ?_
  refine lv_iconst (v := 0) hx hb dX2_init_5 (by decide) ?_
  refine zputi (ci := 2) (v := 0) (ty := .int) (C := RX2) (T := TX2) (N := 2) hx hb hts hi2 tyX2 tyX2_ok nmX2 hown hK hP hD hS hO_a rfl rfl 0 (by decide) (hts (.fieldLink RX2 9 "LinCluster$Incoming" "bits" "I") (by decide +kernel)) (fun _ h9 => h9) rfl (by decide +kernel) rfl rfl (Nat.le_of_ble_eq_true rfl) rfl dX2_init_6 (fun H locs hP hD hS => ?_)
  refine lv_aload_n hx hb dX2_init_9 rfl (lv_at hl 0 rfl) ?_
  refine lv_iconst (v := 0) hx hb dX2_init_10 (by decide) ?_
  refine zputi (ci := 2) (v := 0) (ty := .int) (C := RX2) (T := TX2) (N := 2) hx hb hts hi2 tyX2 tyX2_ok nmX2 hown hK hP hD hS hO_a rfl rfl 1 (by decide) (hts (.fieldLink RX2 15 "LinCluster$Incoming" "value" "I") (by decide +kernel)) (fun _ h9 => h9) rfl (by decide +kernel) rfl rfl (Nat.le_of_ble_eq_true rfl) rfl dX2_init_11 (fun H locs hP hD hS => ?_)
  exact W.vret hx hb hr (fun t ht hW => ⟨⟨(zpi (zpi S a 0 0) a 1 0), rfl, rfl, by rw [ht]; exact hP, va_K.moved hW.alike hK, hD⟩, hS.F ht⟩) hS.2.2 dX2_init_14
set_option maxHeartbeats 4000000 in
set_option maxRecDepth 100000 in
theorem c_X4_init (l : Launch) (dC : Nat → ClassId) (dI : Nat → Nat → Nat) (cy : Nat → ClassId) (G : zG) (S : zS) (sz : Nat) (a : Nat) (hO_a : zO G a 4) : Met l yX4_init wsX4_init ({ frames := 1, cells := 0, slots := 0, locals := 12 }) (zP dC dI cy [.ref a] G S sz) (va_Qv (fun S' => S' = (zpi (zpi (zpi (zpi (zpi (zpj (zpq S a 0 none) a 1 0) a 2 0) a 3 0) a 4 0) a 5 0) a 6 0)) (zB dC dI cy (zA cy G S sz) G) (zA cy G S sz)) 0 0 (zA cy G S sz) := by
  refine Met.ofW (cc := cX4_init) (maxL := 1) (ret := none) (by decide) rfl ?_
  intro p e s m args below meth c s₁ B hml hv
  obtain ⟨rfl, hsz, hP, hK, hD0, hN⟩ := hv
  have hx := B.exec
  have hb := B.bytes
  have hr := B.returns
  have hts := atoms_spec (ws := wsX4_init) B.pre
  have hown : s.vm.findClass RX4 = some m.cls := findClass_of_methodNamed B.named
  have hlocks := B.notSynchronized
  subst hsz
  have hD : va_D (zA cy G S s.heap.size) (zW cy G S) := hD0.self
  generalize hAe : zA cy G S s.heap.size = A at hD ⊢
  have hA : ∀ q : Nat, s.heap.size ≤ q → A q := fun q h => by rw [← hAe]; exact Or.inr h
  have hS : va_S A s.heap s.heap [] := va_S.rf
  have hst := zSt.refl G S
  have hl := lv_entry ([.ref a]) (n := 1) (Nat.le_of_ble_eq_true rfl)
  rw [lg_entry_eq]
  generalize (lg_sl ([.ref a]) ++ List.replicate (1 - (lg_sl ([.ref a])).length) Slot.unset).toArray = ls at hl ⊢
  have hl : lv_has ls 1 [(0, .ref a)] := hl
  have hi4 : ∀ w ∈ wsX40, w ∈ wsX4_init := by decide +kernel
  refine lv_aload_n hx hb dX4_init_0 rfl (lv_at hl 0 rfl) ?_
  refine W.objInit hx hb hown (hts (.methodLink RX4 3 objectInit) (by decide +kernel)) (hts (.instanceMethod objectInit) (by decide +kernel)) (hts (.code objectInit ⟨#[0xb1]⟩ 1 none) (by decide +kernel)) rfl (by rw [hml]; exact hl.1) rfl dX4_init_1 (Nat.le_of_ble_eq_true rfl) (Nat.le_of_ble_eq_true rfl) ?_
  refine W.eq (g2 := F0 m 4 ls []) rfl ?_
  refine lv_aload_n hx hb dX4_init_4 rfl (lv_at hl 0 rfl) ?_
  refine lv_null hx hb dX4_init_5 ?_
  refine zputq (ci := 4) (v := none) (ty := .object "LinCluster$Frame") (C := RX4) (T := TX4) (N := 7) hx hb hts hi4 tyX4 tyX4_ok nmX4 hown hK hP hD hS hO_a rfl rfl 0 (by decide) (hts (.fieldLink RX4 9 "LinCluster$Response" "frame" "LLinCluster$Frame;") (by decide +kernel)) (fun _ h9 => h9) rfl (by decide +kernel) rfl rfl (Nat.le_of_ble_eq_true rfl) rfl dX4_init_6 (fun H locs hP hD hS => ?_)
  refine lv_aload_n hx hb dX4_init_9 rfl (lv_at hl 0 rfl) ?_
  refine lv_lconst (v := 0) hx hb dX4_init_10 (by decide) ?_
  refine zputj (ci := 4) (v := 0) (ty := .long) (C := RX4) (T := TX4) (N := 7) hx hb hts hi4 tyX4 tyX4_ok nmX4 hown hK hP hD hS hO_a rfl rfl 1 (by decide) (hts (.fieldLink RX4 15 "LinCluster$Response" "bytes" "J") (by decide +kernel)) (fun _ h9 => h9) rfl (by decide +kernel) rfl rfl (Nat.le_of_ble_eq_true rfl) rfl dX4_init_11 (fun H locs hP hD hS => ?_)
  refine lv_aload_n hx hb dX4_init_14 rfl (lv_at hl 0 rfl) ?_
  refine lv_iconst (v := 0) hx hb dX4_init_15 (by decide) ?_
  refine zputi (ci := 4) (v := 0) (ty := .int) (C := RX4) (T := TX4) (N := 7) hx hb hts hi4 tyX4 tyX4_ok nmX4 hown hK hP hD hS hO_a rfl rfl 2 (by decide) (hts (.fieldLink RX4 19 "LinCluster$Response" "passed" "I") (by decide +kernel)) (fun _ h9 => h9) rfl (by decide +kernel) rfl rfl (Nat.le_of_ble_eq_true rfl) rfl dX4_init_16 (fun H locs hP hD hS => ?_)
  refine lv_aload_n hx hb dX4_init_19 rfl (lv_at hl 0 rfl) ?_
  refine lv_iconst (v := 0) hx hb dX4_init_20 (by decide) ?_
  refine zputi (ci := 4) (v := 0) (ty := .int) (C := RX4) (T := TX4) (N := 7) hx hb hts hi4 tyX4 tyX4_ok nmX4 hown hK hP hD hS hO_a rfl rfl 3 (by decide) (hts (.fieldLink RX4 23 "LinCluster$Response" "characters" "I") (by decide +kernel)) (fun _ h9 => h9) rfl (by decide +kernel) rfl rfl (Nat.le_of_ble_eq_true rfl) rfl dX4_init_21 (fun H locs hP hD hS => ?_)
  refine lv_aload_n hx hb dX4_init_24 rfl (lv_at hl 0 rfl) ?_
  refine lv_iconst (v := 0) hx hb dX4_init_25 (by decide) ?_
  refine zputi (ci := 4) (v := 0) (ty := .int) (C := RX4) (T := TX4) (N := 7) hx hb hts hi4 tyX4 tyX4_ok nmX4 hown hK hP hD hS hO_a rfl rfl 4 (by decide) (hts (.fieldLink RX4 26 "LinCluster$Response" "checksum" "I") (by decide +kernel)) (fun _ h9 => h9) rfl (by decide +kernel) rfl rfl (Nat.le_of_ble_eq_true rfl) rfl dX4_init_26 (fun H locs hP hD hS => ?_)
  refine lv_aload_n hx hb dX4_init_29 rfl (lv_at hl 0 rfl) ?_
  refine lv_iconst (v := 0) hx hb dX4_init_30 (by decide) ?_
  refine zputi (ci := 4) (v := 0) (ty := .int) (C := RX4) (T := TX4) (N := 7) hx hb hts hi4 tyX4 tyX4_ok nmX4 hown hK hP hD hS hO_a rfl rfl 5 (by decide) (hts (.fieldLink RX4 29 "LinCluster$Response" "pause" "I") (by decide +kernel)) (fun _ h9 => h9) rfl (by decide +kernel) rfl rfl (Nat.le_of_ble_eq_true rfl) rfl dX4_init_31 (fun H locs hP hD hS => ?_)
  refine lv_aload_n hx hb dX4_init_34 rfl (lv_at hl 0 rfl) ?_
  refine lv_iconst (v := 0) hx hb dX4_init_35 (by decide) ?_
  refine zputi (ci := 4) (v := 0) (ty := .int) (C := RX4) (T := TX4) (N := 7) hx hb hts hi4 tyX4 tyX4_ok nmX4 hown hK hP hD hS hO_a rfl rfl 6 (by decide) (hts (.fieldLink RX4 32 "LinCluster$Response" "charactersTaken" "I") (by decide +kernel)) (fun _ h9 => h9) rfl (by decide +kernel) rfl rfl (Nat.le_of_ble_eq_true rfl) rfl dX4_init_36 (fun H locs hP hD hS => ?_)
  exact W.vret hx hb hr (fun t ht hW => ⟨⟨(zpi (zpi (zpi (zpi (zpi (zpj (zpq S a 0 none) a 1 0) a 2 0) a 3 0) a 4 0) a 5 0) a 6 0), rfl, rfl, by rw [ht]; exact hP, va_K.moved hW.alike hK, hD⟩, hS.F ht⟩) hS.2.2 dX4_init_39
set_option maxHeartbeats 4000000 in
set_option maxRecDepth 100000 in
theorem c_X0_init (l : Launch) (dC : Nat → ClassId) (dI : Nat → Nat → Nat) (cy : Nat → ClassId) (G : zG) (S : zS) (sz : Nat) (a : Nat) (hO_a : zO G a 0) : Met l yX0_init wsX0_init ({ frames := 1, cells := 2, slots := 128, locals := 12 }) (zP dC dI cy [.ref a] G S sz) (va_Qv (fun u : zG × zS => ∃ q1 q2 : Nat, q1 ∉ G.1 ∧ q2 ∉ (zGn G q1 9 64).1 ∧ u = ((zGn (zGn G q1 9 64) q2 9 64), (zpi (zpq (zSn (zpq (zSn S q1) a 0 (some q1)) q2) a 1 (some q2)) a 2 0))) (fun u => zB dC dI cy (zA cy G S sz) u.1 u.2) (zA cy G S sz)) 2 128 (zA cy G S sz) := by
  refine Met.ofW (cc := cX0_init) (maxL := 1) (ret := none) (by decide) rfl ?_
  intro p e s m args below meth c s₁ B hml hv
  obtain ⟨rfl, hsz, hP, hK, hD0, hN⟩ := hv
  have hx := B.exec
  have hb := B.bytes
  have hr := B.returns
  have hts := atoms_spec (ws := wsX0_init) B.pre
  have hown : s.vm.findClass RX0 = some m.cls := findClass_of_methodNamed B.named
  have hlocks := B.notSynchronized
  have hin : meth.name = "<init>" := (name_of_methodNamed B.named B.method).1
  subst hsz
  have hD : va_D (zA cy G S s.heap.size) (zW cy G S) := hD0.self
  generalize hAe : zA cy G S s.heap.size = A at hD ⊢
  have hA : ∀ q : Nat, s.heap.size ≤ q → A q := fun q h => by rw [← hAe]; exact Or.inr h
  have hS : va_S A s.heap s.heap [] := va_S.rf
  have hl := lv_entry ([.ref a]) (n := 1) (Nat.le_of_ble_eq_true rfl)
  rw [lg_entry_eq]
  generalize (lg_sl ([.ref a]) ++ List.replicate (1 - (lg_sl ([.ref a])).length) Slot.unset).toArray = ls at hl ⊢
  have hl : lv_has ls 1 [(0, .ref a)] := hl
  have hi0 : ∀ w ∈ wsX00, w ∈ wsX0_init := by decide +kernel
  refine lv_aload_n hx hb dX0_init_0 rfl (lv_at hl 0 rfl) ?_
  refine W.objInit hx hb hown (hts (.methodLink RX0 1 objectInit) (by decide +kernel)) (hts (.instanceMethod objectInit) (by decide +kernel)) (hts (.code objectInit ⟨#[0xb1]⟩ 1 none) (by decide +kernel)) rfl (by rw [hml]; exact hl.1) rfl dX0_init_1 (Nat.le_of_ble_eq_true rfl) (Nat.le_of_ble_eq_true rfl) ?_
  refine W.eq (g2 := F0 m 4 ls []) rfl ?_
  refine lv_aload_n hx hb dX0_init_4 rfl (lv_at hl 0 rfl) ?_
  refine lv_bipush (v := 64) hx hb dX0_init_5 (by decide) ?_
  refine znewal (n := 64) (N' := 64) hx hb (hts (.arrayClass .long) (by decide +kernel)) hK hP hD hS hA (by decide) (by decide) (by decide) (Nat.le_of_ble_eq_true rfl) (Nat.le_of_ble_eq_true rfl) dX0_init_7 (fun q1 H hq_q1 hP hD hS => ?_)
  have hO_a := hO_a.gn (kd' := 9) (n := 64) hq_q1
  have hO_q1 := zO.nw G q1 9 64
  have hL_q1 := zGn_len G q1 9 64
  refine zputqF (ci := 0) (v := (some q1)) (ty := .array .long) (C := RX0) (T := TX0) (N := 3) hx hb hts hi0 tyX0 tyX0_ok nmX0 hown hK hP hD hS hO_a rfl rfl 0 (by decide) (hts (.fieldLink RX0 9 "LinCluster$Disturbings" "marked" "[J") (by decide +kernel)) (fun _ h9 => h9) rfl hin rfl (by decide +kernel) rfl rfl (Nat.le_of_ble_eq_true rfl) rfl dX0_init_9 (fun H locs hP hD hS => ?_)
  refine lv_aload_n hx hb dX0_init_12 rfl (lv_at hl 0 rfl) ?_
  refine lv_bipush (v := 64) hx hb dX0_init_13 (by decide) ?_
  refine znewal (n := 64) (N' := 64) hx hb (hts (.arrayClass .long) (by decide +kernel)) hK hP hD hS hA (by decide) (by decide) (by decide) (Nat.le_of_ble_eq_true rfl) (Nat.le_of_ble_eq_true rfl) dX0_init_15 (fun q2 H hq_q2 hP hD hS => ?_)
  have hO_a := hO_a.gn (kd' := 9) (n := 64) hq_q2
  have hL_q1 := (zGn_len' (hO_q1.ne hq_q2) 9 64).trans hL_q1
  have hO_q1 := hO_q1.gn (kd' := 9) (n := 64) hq_q2
  have hO_q2 := zO.nw (zGn G q1 9 64) q2 9 64
  have hL_q2 := zGn_len (zGn G q1 9 64) q2 9 64
  refine zputqF (ci := 0) (v := (some q2)) (ty := .array .long) (C := RX0) (T := TX0) (N := 3) hx hb hts hi0 tyX0 tyX0_ok nmX0 hown hK hP hD hS hO_a rfl rfl 1 (by decide) (hts (.fieldLink RX0 13 "LinCluster$Disturbings" "values" "[J") (by decide +kernel)) (fun _ h9 => h9) rfl hin rfl (by decide +kernel) rfl rfl (Nat.le_of_ble_eq_true rfl) rfl dX0_init_17 (fun H locs hP hD hS => ?_)
  refine lv_aload_n hx hb dX0_init_20 rfl (lv_at hl 0 rfl) ?_
  refine lv_iconst (v := 0) hx hb dX0_init_21 (by decide) ?_
  refine zputi (ci := 0) (v := 0) (ty := .int) (C := RX0) (T := TX0) (N := 3) hx hb hts hi0 tyX0 tyX0_ok nmX0 hown hK hP hD hS hO_a rfl rfl 2 (by decide) (hts (.fieldLink RX0 16 "LinCluster$Disturbings" "toCome" "I") (by decide +kernel)) (fun _ h9 => h9) rfl (by decide +kernel) rfl rfl (Nat.le_of_ble_eq_true rfl) rfl dX0_init_22 (fun H locs hP hD hS => ?_)
  refine W.widen (k := 2) (n := 128) (Nat.le_of_ble_eq_true rfl) (Nat.le_of_ble_eq_true rfl) ?_
  exact W.vret hx hb hr (fun t ht hW => ⟨⟨((zGn (zGn G q1 9 64) q2 9 64), (zpi (zpq (zSn (zpq (zSn S q1) a 0 (some q1)) q2) a 1 (some q2)) a 2 0)), rfl, ⟨q1, q2, hq_q1, hq_q2, rfl⟩, by rw [ht]; exact hP, va_K.moved hW.alike hK, hD⟩, hS.F ht⟩) hS.2.2 dX0_init_25
set_option maxHeartbeats 4000000 in
set_option maxRecDepth 100000 in
theorem c_X5_init (l : Launch) (dC : Nat → ClassId) (dI : Nat → Nat → Nat) (cy : Nat → ClassId) (G : zG) (S : zS) (sz : Nat) (a : Nat) (hO_a : zO G a 5) : Met l yX5_init wsX5_init ({ frames := 1, cells := 2, slots := 32, locals := 12 }) (zP dC dI cy [.ref a] G S sz) (va_Qv (fun u : zG × zS => ∃ q1 q2 : Nat, q1 ∉ G.1 ∧ q2 ∉ (zGn G q1 8 16).1 ∧ u = ((zGn (zGn G q1 8 16) q2 8 16), (zpi (zpi (zpi (zpi (zpi (zpi (zpi (zpi (zpq (zSn (zpq (zSn S q1) a 0 (some q1)) q2) a 1 (some q2)) a 2 0) a 3 (-1)) a 4 0) a 5 0) a 6 0) a 7 0) a 8 0) a 9 0))) (fun u => zB dC dI cy (zA cy G S sz) u.1 u.2) (zA cy G S sz)) 2 32 (zA cy G S sz) := by
  refine Met.ofW (cc := cX5_init) (maxL := 1) (ret := none) (by decide) rfl ?_
  intro p e s m args below meth c s₁ B hml hv
  obtain ⟨rfl, hsz, hP, hK, hD0, hN⟩ := hv
  have hx := B.exec
  have hb := B.bytes
  have hr := B.returns
  have hts := atoms_spec (ws := wsX5_init) B.pre
  have hown : s.vm.findClass RX5 = some m.cls := findClass_of_methodNamed B.named
  have hlocks := B.notSynchronized
  have hin : meth.name = "<init>" := (name_of_methodNamed B.named B.method).1
  subst hsz
  have hD : va_D (zA cy G S s.heap.size) (zW cy G S) := hD0.self
  generalize hAe : zA cy G S s.heap.size = A at hD ⊢
  have hA : ∀ q : Nat, s.heap.size ≤ q → A q := fun q h => by rw [← hAe]; exact Or.inr h
  have hS : va_S A s.heap s.heap [] := va_S.rf
  have hl := lv_entry ([.ref a]) (n := 1) (Nat.le_of_ble_eq_true rfl)
  rw [lg_entry_eq]
  generalize (lg_sl ([.ref a]) ++ List.replicate (1 - (lg_sl ([.ref a])).length) Slot.unset).toArray = ls at hl ⊢
  have hl : lv_has ls 1 [(0, .ref a)] := hl
  have hi5 : ∀ w ∈ wsX50, w ∈ wsX5_init := by decide +kernel
  refine lv_aload_n hx hb dX5_init_0 rfl (lv_at hl 0 rfl) ?_
  refine W.objInit hx hb hown (hts (.methodLink RX5 3 objectInit) (by decide +kernel)) (hts (.instanceMethod objectInit) (by decide +kernel)) (hts (.code objectInit ⟨#[0xb1]⟩ 1 none) (by decide +kernel)) rfl (by rw [hml]; exact hl.1) rfl dX5_init_1 (Nat.le_of_ble_eq_true rfl) (Nat.le_of_ble_eq_true rfl) ?_
  refine W.eq (g2 := F0 m 4 ls []) rfl ?_
  refine lv_aload_n hx hb dX5_init_4 rfl (lv_at hl 0 rfl) ?_
  refine lv_bipush (v := 16) hx hb dX5_init_5 (by decide) ?_
  refine znewai (n := 16) (N' := 16) hx hb (hts (.arrayClass .int) (by decide +kernel)) hK hP hD hS hA (by decide) (by decide) (by decide) (Nat.le_of_ble_eq_true rfl) (Nat.le_of_ble_eq_true rfl) dX5_init_7 (fun q1 H hq_q1 hP hD hS => ?_)
  have hO_a := hO_a.gn (kd' := 8) (n := 16) hq_q1
  have hO_q1 := zO.nw G q1 8 16
  have hL_q1 := zGn_len G q1 8 16
  refine zputqF (ci := 5) (v := (some q1)) (ty := .array .int) (C := RX5) (T := TX5) (N := 10) hx hb hts hi5 tyX5 tyX5_ok nmX5 hown hK hP hD hS hO_a rfl rfl 0 (by decide) (hts (.fieldLink RX5 9 "LinCluster$Schedule" "ids" "[I") (by decide +kernel)) (fun _ h9 => h9) rfl hin rfl (by decide +kernel) rfl rfl (Nat.le_of_ble_eq_true rfl) rfl dX5_init_9 (fun H locs hP hD hS => ?_)
  refine lv_aload_n hx hb dX5_init_12 rfl (lv_at hl 0 rfl) ?_
  refine lv_bipush (v := 16) hx hb dX5_init_13 (by decide) ?_
  refine znewai (n := 16) (N' := 16) hx hb (hts (.arrayClass .int) (by decide +kernel)) hK hP hD hS hA (by decide) (by decide) (by decide) (Nat.le_of_ble_eq_true rfl) (Nat.le_of_ble_eq_true rfl) dX5_init_15 (fun q2 H hq_q2 hP hD hS => ?_)
  have hO_a := hO_a.gn (kd' := 8) (n := 16) hq_q2
  have hL_q1 := (zGn_len' (hO_q1.ne hq_q2) 8 16).trans hL_q1
  have hO_q1 := hO_q1.gn (kd' := 8) (n := 16) hq_q2
  have hO_q2 := zO.nw (zGn G q1 8 16) q2 8 16
  have hL_q2 := zGn_len (zGn G q1 8 16) q2 8 16
  refine zputqF (ci := 5) (v := (some q2)) (ty := .array .int) (C := RX5) (T := TX5) (N := 10) hx hb hts hi5 tyX5 tyX5_ok nmX5 hown hK hP hD hS hO_a rfl rfl 1 (by decide) (hts (.fieldLink RX5 15 "LinCluster$Schedule" "lengths" "[I") (by decide +kernel)) (fun _ h9 => h9) rfl hin rfl (by decide +kernel) rfl rfl (Nat.le_of_ble_eq_true rfl) rfl dX5_init_17 (fun H locs hP hD hS => ?_)
  refine lv_aload_n hx hb dX5_init_20 rfl (lv_at hl 0 rfl) ?_
  refine lv_iconst (v := 0) hx hb dX5_init_21 (by decide) ?_
  refine zputi (ci := 5) (v := 0) (ty := .int) (C := RX5) (T := TX5) (N := 10) hx hb hts hi5 tyX5 tyX5_ok nmX5 hown hK hP hD hS hO_a rfl rfl 2 (by decide) (hts (.fieldLink RX5 18 "LinCluster$Schedule" "slots" "I") (by decide +kernel)) (fun _ h9 => h9) rfl (by decide +kernel) rfl rfl (Nat.le_of_ble_eq_true rfl) rfl dX5_init_22 (fun H locs hP hD hS => ?_)
  refine lv_aload_n hx hb dX5_init_25 rfl (lv_at hl 0 rfl) ?_
  refine lv_iconst (v := (-1)) hx hb dX5_init_26 (by decide) ?_
  refine zputi (ci := 5) (v := (-1)) (ty := .int) (C := RX5) (T := TX5) (N := 10) hx hb hts hi5 tyX5 tyX5_ok nmX5 hown hK hP hD hS hO_a rfl rfl 3 (by decide) (hts (.fieldLink RX5 22 "LinCluster$Schedule" "atHand" "I") (by decide +kernel)) (fun _ h9 => h9) rfl (by decide +kernel) rfl rfl (Nat.le_of_ble_eq_true rfl) rfl dX5_init_27 (fun H locs hP hD hS => ?_)
  refine lv_aload_n hx hb dX5_init_30 rfl (lv_at hl 0 rfl) ?_
  refine lv_iconst (v := 0) hx hb dX5_init_31 (by decide) ?_
  refine zputi (ci := 5) (v := 0) (ty := .int) (C := RX5) (T := TX5) (N := 10) hx hb hts hi5 tyX5 tyX5_ok nmX5 hown hK hP hD hS hO_a rfl rfl 4 (by decide) (hts (.fieldLink RX5 25 "LinCluster$Schedule" "begun" "I") (by decide +kernel)) (fun _ h9 => h9) rfl (by decide +kernel) rfl rfl (Nat.le_of_ble_eq_true rfl) rfl dX5_init_32 (fun H locs hP hD hS => ?_)
  refine lv_aload_n hx hb dX5_init_35 rfl (lv_at hl 0 rfl) ?_
  refine lv_iconst (v := 0) hx hb dX5_init_36 (by decide) ?_
  refine zputi (ci := 5) (v := 0) (ty := .int) (C := RX5) (T := TX5) (N := 10) hx hb hts hi5 tyX5 tyX5_ok nmX5 hown hK hP hD hS hO_a rfl rfl 5 (by decide) (hts (.fieldLink RX5 28 "LinCluster$Schedule" "bitsSaid" "I") (by decide +kernel)) (fun _ h9 => h9) rfl (by decide +kernel) rfl rfl (Nat.le_of_ble_eq_true rfl) rfl dX5_init_37 (fun H locs hP hD hS => ?_)
  refine lv_aload_n hx hb dX5_init_40 rfl (lv_at hl 0 rfl) ?_
  refine lv_iconst (v := 0) hx hb dX5_init_41 (by decide) ?_
  refine zputi (ci := 5) (v := 0) (ty := .int) (C := RX5) (T := TX5) (N := 10) hx hb hts hi5 tyX5 tyX5_ok nmX5 hown hK hP hD hS hO_a rfl rfl 6 (by decide) (hts (.fieldLink RX5 31 "LinCluster$Schedule" "bitsOfSlot" "I") (by decide +kernel)) (fun _ h9 => h9) rfl (by decide +kernel) rfl rfl (Nat.le_of_ble_eq_true rfl) rfl dX5_init_42 (fun H locs hP hD hS => ?_)
  refine lv_aload_n hx hb dX5_init_45 rfl (lv_at hl 0 rfl) ?_
  refine lv_iconst (v := 0) hx hb dX5_init_46 (by decide) ?_
  refine zputi (ci := 5) (v := 0) (ty := .int) (C := RX5) (T := TX5) (N := 10) hx hb hts hi5 tyX5 tyX5_ok nmX5 hown hK hP hD hS hO_a rfl rfl 7 (by decide) (hts (.fieldLink RX5 34 "LinCluster$Schedule" "pid" "I") (by decide +kernel)) (fun _ h9 => h9) rfl (by decide +kernel) rfl rfl (Nat.le_of_ble_eq_true rfl) rfl dX5_init_47 (fun H locs hP hD hS => ?_)
  refine lv_aload_n hx hb dX5_init_50 rfl (lv_at hl 0 rfl) ?_
  refine lv_iconst (v := 0) hx hb dX5_init_51 (by decide) ?_
  refine zputi (ci := 5) (v := 0) (ty := .int) (C := RX5) (T := TX5) (N := 10) hx hb hts hi5 tyX5 tyX5_ok nmX5 hown hK hP hD hS hO_a rfl rfl 8 (by decide) (hts (.fieldLink RX5 37 "LinCluster$Schedule" "pause" "I") (by decide +kernel)) (fun _ h9 => h9) rfl (by decide +kernel) rfl rfl (Nat.le_of_ble_eq_true rfl) rfl dX5_init_52 (fun H locs hP hD hS => ?_)
  refine lv_aload_n hx hb dX5_init_55 rfl (lv_at hl 0 rfl) ?_
  refine lv_iconst (v := 0) hx hb dX5_init_56 (by decide) ?_
  refine zputi (ci := 5) (v := 0) (ty := .boolean) (C := RX5) (T := TX5) (N := 10) hx hb hts hi5 tyX5 tyX5_ok nmX5 hown hK hP hD hS hO_a rfl rfl 9 (by decide) (hts (.fieldLink RX5 40 "LinCluster$Schedule" "stopped" "Z") (by decide +kernel)) (fun _ h9 => h9) rfl (by decide +kernel) rfl rfl (Nat.le_of_ble_eq_true rfl) rfl dX5_init_57 (fun H locs hP hD hS => ?_)
  refine W.widen (k := 2) (n := 32) (Nat.le_of_ble_eq_true rfl) (Nat.le_of_ble_eq_true rfl) ?_
  exact W.vret hx hb hr (fun t ht hW => ⟨⟨((zGn (zGn G q1 8 16) q2 8 16), (zpi (zpi (zpi (zpi (zpi (zpi (zpi (zpi (zpq (zSn (zpq (zSn S q1) a 0 (some q1)) q2) a 1 (some q2)) a 2 0) a 3 (-1)) a 4 0) a 5 0) a 6 0) a 7 0) a 8 0) a 9 0)), rfl, ⟨q1, q2, hq_q1, hq_q2, rfl⟩, by rw [ht]; exact hP, va_K.moved hW.alike hK, hD⟩, hS.F ht⟩) hS.2.2 dX5_init_60
set_option maxHeartbeats 4000000 in
set_option maxRecDepth 100000 in
theorem c_X3_init (l : Launch) (dC : Nat → ClassId) (dI : Nat → Nat → Nat) (cy : Nat → ClassId) (G : zG) (S : zS) (sz : Nat) (a : Nat) (n : Int32) (hO_a : zO G a 3) : Met l yX3_init wsX3_init ({ frames := 2, cells := 2, slots := 9, locals := 32 }) (zP dC dI cy [.ref a, .int n] G S sz) (va_Qv (fun u : zG × zS => ∃ q1 q4 : Nat, q1 ∉ G.1 ∧ q4 ∉ (zGn G q1 2 0).1 ∧ u = ((zGn (zGn G q1 2 0) q4 4 0), (zpi (zpi (zpi (zpi (zpi (zpi (zpi (zpi (zpi (zpi (zpi (zpq (zpi (zpq (zpi (zpi (zpi (zpi (zpi (zpj (zpq (zSn (zpq (zpi (zpi (zSn S q1) q1 0 0) q1 1 0) a 1 (some q1)) q4) q4 0 none) q4 1 0) q4 2 0) q4 3 0) q4 4 0) q4 5 0) q4 6 0) a 2 (some q4)) a 3 0) a 4 none) a 5 0) a 6 1) a 7 0) a 8 0) a 9 0) a 10 0) a 11 0) a 12 0) a 13 0) a 14 0) a 0 n))) (fun u => zB dC dI cy (zA cy G S sz) u.1 u.2) (zA cy G S sz)) 2 9 (zA cy G S sz) := by
  refine Met.ofW (cc := cX3_init) (maxL := 2) (ret := none) (by decide) rfl ?_
  intro p e s m args below meth c s₁ B hml hv
  obtain ⟨rfl, hsz, hP, hK, hD0, hN⟩ := hv
  have hx := B.exec
  have hb := B.bytes
  have hr := B.returns
  have hts := atoms_spec (ws := wsX3_init) B.pre
  have hown : s.vm.findClass RX3 = some m.cls := findClass_of_methodNamed B.named
  have hlocks := B.notSynchronized
  have hin : meth.name = "<init>" := (name_of_methodNamed B.named B.method).1
  subst hsz
  have hD : va_D (zA cy G S s.heap.size) (zW cy G S) := hD0.self
  generalize hAe : zA cy G S s.heap.size = A at hD ⊢
  have hA : ∀ q : Nat, s.heap.size ≤ q → A q := fun q h => by rw [← hAe]; exact Or.inr h
  have hS : va_S A s.heap s.heap [] := va_S.rf
  have hl := lv_entry ([.ref a, .int n]) (n := 2) (Nat.le_of_ble_eq_true rfl)
  rw [lg_entry_eq]
  generalize (lg_sl ([.ref a, .int n]) ++ List.replicate (2 - (lg_sl ([.ref a, .int n])).length) Slot.unset).toArray = ls at hl ⊢
  have hl : lv_has ls 2 [(0, .ref a), (1, .int n)] := hl
  have hi2 : ∀ w ∈ wsX20, w ∈ wsX3_init := by decide +kernel
  have hi3 : ∀ w ∈ wsX30, w ∈ wsX3_init := by decide +kernel
  have hi4 : ∀ w ∈ wsX40, w ∈ wsX3_init := by decide +kernel
  refine lv_aload_n hx hb dX3_init_0 rfl (lv_at hl 0 rfl) ?_
  refine W.objInit hx hb hown (hts (.methodLink RX3 3 objectInit) (by decide +kernel)) (hts (.instanceMethod objectInit) (by decide +kernel)) (hts (.code objectInit ⟨#[0xb1]⟩ 1 none) (by decide +kernel)) rfl (by rw [hml]; exact hl.1) rfl dX3_init_1 (Nat.le_of_ble_eq_true rfl) (Nat.le_of_ble_eq_true rfl) ?_
  refine W.eq (g2 := F0 m 4 ls []) rfl ?_
  refine lv_aload_n hx hb dX3_init_4 rfl (lv_at hl 0 rfl) ?_
  refine znewo (ci := 2) (C := RX2) (T := TX2) (N := 2) (fs := [.int 0, .int 0]) hx hb hts hi2 tyX2 tyX2_ok hown (hts (.classLink RX3 9 RX2) (by decide +kernel)) (hts (.instantiable RX2 2) (by decide +kernel)) (hts (.initialized RX2) (by decide +kernel)) hK hP hD hS hA rfl zdef2 rfl (Nat.le_of_ble_eq_true rfl) (Nat.le_of_ble_eq_true rfl) dX3_init_5 (fun q1 H hq_q1 hP hD hS => ?_)
  have hO_a := hO_a.gn (kd' := 2) (n := 0) hq_q1
  have hO_q1 := zO.nw G q1 2 0
  refine lv_dup hx hb dX3_init_8 rfl ?_
  refine zcallv (va_runIN (As := []) (rest := [.ref q1, .ref a]) ⟨hx, hb, hml, hown, hts⟩ (c_X2_init l dC dI cy (zGn G q1 2 0) (zSn S q1) H.size q1 hO_q1) ⟨va_cnB 0 hts gX3_init_X2_init_n11 rfl rfl rfl (zN_X3_11 hN) (hts (.initialized RX2) (by decide +kernel)) (by decide +kernel) ⟨Nat.le_of_ble_eq_true rfl, Nat.le_of_ble_eq_true rfl⟩, rfl, hts (.instanceMethod yX2_init) (by decide +kernel)⟩ (zpreS hK hP hD hN) rfl rfl hl.1 rfl (lv_room (Nat.le_of_ble_eq_true rfl)) dX3_init_9 ⟨(Nat.le_of_ble_eq_true rfl), (Nat.le_of_ble_eq_true rfl)⟩) hS hD hA (fun S3 H locs hr2 hP hD hS => ?_)
  subst hr2
  refine zputqF (ci := 3) (v := (some q1)) (ty := .object "LinCluster$Incoming") (C := RX3) (T := TX3) (N := 15) hx hb hts hi3 tyX3 tyX3_ok nmX3 hown hK hP hD hS hO_a rfl rfl 1 (by decide) (hts (.fieldLink RX3 12 "LinCluster$Node" "incoming" "LLinCluster$Incoming;") (by decide +kernel)) (fun _ h9 => h9) rfl hin rfl (by decide +kernel) rfl rfl (Nat.le_of_ble_eq_true rfl) rfl dX3_init_12 (fun H locs hP hD hS => ?_)
  refine lv_aload_n hx hb dX3_init_15 rfl (lv_at hl 0 rfl) ?_
  refine znewo (ci := 4) (C := RX4) (T := TX4) (N := 7) (fs := [.null, .long 0, .int 0, .int 0, .int 0, .int 0, .int 0]) hx hb hts hi4 tyX4 tyX4_ok hown (hts (.classLink RX3 18 RX4) (by decide +kernel)) (hts (.instantiable RX4 7) (by decide +kernel)) (hts (.initialized RX4) (by decide +kernel)) hK hP hD hS hA rfl zdef4 rfl (Nat.le_of_ble_eq_true rfl) (Nat.le_of_ble_eq_true rfl) dX3_init_16 (fun q4 H hq_q4 hP hD hS => ?_)
  have hO_a := hO_a.gn (kd' := 4) (n := 0) hq_q4
  have hO_q1 := hO_q1.gn (kd' := 4) (n := 0) hq_q4
  have hO_q4 := zO.nw (zGn G q1 2 0) q4 4 0
  refine lv_dup hx hb dX3_init_19 rfl ?_
  refine zcallv (va_runIN (As := []) (rest := [.ref q4, .ref a]) ⟨hx, hb, hml, hown, hts⟩ (c_X4_init l dC dI cy (zGn (zGn G q1 2 0) q4 4 0) (zSn (zpq (zpi (zpi (zSn S q1) q1 0 0) q1 1 0) a 1 (some q1)) q4) H.size q4 hO_q4) ⟨va_cnB 0 hts gX3_init_X4_init_n20 rfl rfl rfl (zN_X3_20 hN) (hts (.initialized RX4) (by decide +kernel)) (by decide +kernel) ⟨Nat.le_of_ble_eq_true rfl, Nat.le_of_ble_eq_true rfl⟩, rfl, hts (.instanceMethod yX4_init) (by decide +kernel)⟩ (zpreS hK hP hD hN) rfl rfl hl.1 rfl (lv_room (Nat.le_of_ble_eq_true rfl)) dX3_init_20 ⟨(Nat.le_of_ble_eq_true rfl), (Nat.le_of_ble_eq_true rfl)⟩) hS hD hA (fun S6 H locs hr5 hP hD hS => ?_)
  subst hr5
  refine zputqF (ci := 3) (v := (some q4)) (ty := .object "LinCluster$Response") (C := RX3) (T := TX3) (N := 15) hx hb hts hi3 tyX3 tyX3_ok nmX3 hown hK hP hD hS hO_a rfl rfl 2 (by decide) (hts (.fieldLink RX3 21 "LinCluster$Node" "response" "LLinCluster$Response;") (by decide +kernel)) (fun _ h9 => h9) rfl hin rfl (by decide +kernel) rfl rfl (Nat.le_of_ble_eq_true rfl) rfl dX3_init_23 (fun H locs hP hD hS => ?_)
  refine lv_aload_n hx hb dX3_init_26 rfl (lv_at hl 0 rfl) ?_
  refine lv_iconst (v := 0) hx hb dX3_init_27 (by decide) ?_
  refine zputi (ci := 3) (v := 0) (ty := .int) (C := RX3) (T := TX3) (N := 15) hx hb hts hi3 tyX3 tyX3_ok nmX3 hown hK hP hD hS hO_a rfl rfl 3 (by decide) (hts (.fieldLink RX3 25 "LinCluster$Node" "space" "I") (by decide +kernel)) (fun _ h9 => h9) rfl (by decide +kernel) rfl rfl (Nat.le_of_ble_eq_true rfl) rfl dX3_init_28 (fun H locs hP hD hS => ?_)
  refine lv_aload_n hx hb dX3_init_31 rfl (lv_at hl 0 rfl) ?_
  refine lv_null hx hb dX3_init_32 ?_
  refine zputq (ci := 3) (v := none) (ty := .object "LinCluster$Frame") (C := RX3) (T := TX3) (N := 15) hx hb hts hi3 tyX3 tyX3_ok nmX3 hown hK hP hD hS hO_a rfl rfl 4 (by decide) (hts (.fieldLink RX3 29 "LinCluster$Node" "statusFrame" "LLinCluster$Frame;") (by decide +kernel)) (fun _ h9 => h9) rfl (by decide +kernel) rfl rfl (Nat.le_of_ble_eq_true rfl) rfl dX3_init_33 (fun H locs hP hD hS => ?_)
  refine lv_aload_n hx hb dX3_init_36 rfl (lv_at hl 0 rfl) ?_
  refine lv_iconst (v := 0) hx hb dX3_init_37 (by decide) ?_
  refine zputi (ci := 3) (v := 0) (ty := .int) (C := RX3) (T := TX3) (N := 15) hx hb hts hi3 tyX3 tyX3_ok nmX3 hown hK hP hD hS hO_a rfl rfl 5 (by decide) (hts (.fieldLink RX3 33 "LinCluster$Node" "statusPlace" "I") (by decide +kernel)) (fun _ h9 => h9) rfl (by decide +kernel) rfl rfl (Nat.le_of_ble_eq_true rfl) rfl dX3_init_38 (fun H locs hP hD hS => ?_)
  refine lv_aload_n hx hb dX3_init_41 rfl (lv_at hl 0 rfl) ?_
  refine lv_iconst (v := 1) hx hb dX3_init_42 (by decide) ?_
  refine zputi (ci := 3) (v := 1) (ty := .int) (C := RX3) (T := TX3) (N := 15) hx hb hts hi3 tyX3 tyX3_ok nmX3 hown hK hP hD hS hO_a rfl rfl 6 (by decide) (hts (.fieldLink RX3 36 "LinCluster$Node" "at" "I") (by decide +kernel)) (fun _ h9 => h9) rfl (by decide +kernel) rfl rfl (Nat.le_of_ble_eq_true rfl) rfl dX3_init_43 (fun H locs hP hD hS => ?_)
  refine lv_aload_n hx hb dX3_init_46 rfl (lv_at hl 0 rfl) ?_
  refine lv_iconst (v := 0) hx hb dX3_init_47 (by decide) ?_
  refine zputi (ci := 3) (v := 0) (ty := .boolean) (C := RX3) (T := TX3) (N := 15) hx hb hts hi3 tyX3 tyX3_ok nmX3 hown hK hP hD hS hO_a rfl rfl 7 (by decide) (hts (.fieldLink RX3 39 "LinCluster$Node" "synced" "Z") (by decide +kernel)) (fun _ h9 => h9) rfl (by decide +kernel) rfl rfl (Nat.le_of_ble_eq_true rfl) rfl dX3_init_48 (fun H locs hP hD hS => ?_)
  refine lv_aload_n hx hb dX3_init_51 rfl (lv_at hl 0 rfl) ?_
  refine lv_iconst (v := 0) hx hb dX3_init_52 (by decide) ?_
  refine zputi (ci := 3) (v := 0) (ty := .int) (C := RX3) (T := TX3) (N := 15) hx hb hts hi3 tyX3 tyX3_ok nmX3 hown hK hP hD hS hO_a rfl rfl 8 (by decide) (hts (.fieldLink RX3 43 "LinCluster$Node" "ones" "I") (by decide +kernel)) (fun _ h9 => h9) rfl (by decide +kernel) rfl rfl (Nat.le_of_ble_eq_true rfl) rfl dX3_init_53 (fun H locs hP hD hS => ?_)
  refine lv_aload_n hx hb dX3_init_56 rfl (lv_at hl 0 rfl) ?_
  refine lv_iconst (v := 0) hx hb dX3_init_57 (by decide) ?_
  refine zputi (ci := 3) (v := 0) (ty := .int) (C := RX3) (T := TX3) (N := 15) hx hb hts hi3 tyX3 tyX3_ok nmX3 hown hK hP hD hS hO_a rfl rfl 9 (by decide) (hts (.fieldLink RX3 46 "LinCluster$Node" "wakingBits" "I") (by decide +kernel)) (fun _ h9 => h9) rfl (by decide +kernel) rfl rfl (Nat.le_of_ble_eq_true rfl) rfl dX3_init_58 (fun H locs hP hD hS => ?_)
  refine lv_aload_n hx hb dX3_init_61 rfl (lv_at hl 0 rfl) ?_
  refine lv_iconst (v := 0) hx hb dX3_init_62 (by decide) ?_
  refine zputi (ci := 3) (v := 0) (ty := .boolean) (C := RX3) (T := TX3) (N := 15) hx hb hts hi3 tyX3 tyX3_ok nmX3 hown hK hP hD hS hO_a rfl rfl 10 (by decide) (hts (.fieldLink RX3 49 "LinCluster$Node" "error" "Z") (by decide +kernel)) (fun _ h9 => h9) rfl (by decide +kernel) rfl rfl (Nat.le_of_ble_eq_true rfl) rfl dX3_init_63 (fun H locs hP hD hS => ?_)
  refine lv_aload_n hx hb dX3_init_66 rfl (lv_at hl 0 rfl) ?_
  refine lv_iconst (v := 0) hx hb dX3_init_67 (by decide) ?_
  refine zputi (ci := 3) (v := 0) (ty := .int) (C := RX3) (T := TX3) (N := 15) hx hb hts hi3 tyX3 tyX3_ok nmX3 hown hK hP hD hS hO_a rfl rfl 11 (by decide) (hts (.fieldLink RX3 52 "LinCluster$Node" "headersLost" "I") (by decide +kernel)) (fun _ h9 => h9) rfl (by decide +kernel) rfl rfl (Nat.le_of_ble_eq_true rfl) rfl dX3_init_68 (fun H locs hP hD hS => ?_)
  refine lv_aload_n hx hb dX3_init_71 rfl (lv_at hl 0 rfl) ?_
  refine lv_iconst (v := 0) hx hb dX3_init_72 (by decide) ?_
  refine zputi (ci := 3) (v := 0) (ty := .int) (C := RX3) (T := TX3) (N := 15) hx hb hts hi3 tyX3 tyX3_ok nmX3 hown hK hP hD hS hO_a rfl rfl 12 (by decide) (hts (.fieldLink RX3 55 "LinCluster$Node" "responsesSaid" "I") (by decide +kernel)) (fun _ h9 => h9) rfl (by decide +kernel) rfl rfl (Nat.le_of_ble_eq_true rfl) rfl dX3_init_73 (fun H locs hP hD hS => ?_)
  refine lv_aload_n hx hb dX3_init_76 rfl (lv_at hl 0 rfl) ?_
  refine lv_iconst (v := 0) hx hb dX3_init_77 (by decide) ?_
  refine zputi (ci := 3) (v := 0) (ty := .int) (C := RX3) (T := TX3) (N := 15) hx hb hts hi3 tyX3 tyX3_ok nmX3 hown hK hP hD hS hO_a rfl rfl 13 (by decide) (hts (.fieldLink RX3 58 "LinCluster$Node" "responsesTaken" "I") (by decide +kernel)) (fun _ h9 => h9) rfl (by decide +kernel) rfl rfl (Nat.le_of_ble_eq_true rfl) rfl dX3_init_78 (fun H locs hP hD hS => ?_)
  refine lv_aload_n hx hb dX3_init_81 rfl (lv_at hl 0 rfl) ?_
  refine lv_iconst (v := 0) hx hb dX3_init_82 (by decide) ?_
  refine zputi (ci := 3) (v := 0) (ty := .int) (C := RX3) (T := TX3) (N := 15) hx hb hts hi3 tyX3 tyX3_ok nmX3 hown hK hP hD hS hO_a rfl rfl 14 (by decide) (hts (.fieldLink RX3 61 "LinCluster$Node" "errors" "I") (by decide +kernel)) (fun _ h9 => h9) rfl (by decide +kernel) rfl rfl (Nat.le_of_ble_eq_true rfl) rfl dX3_init_83 (fun H locs hP hD hS => ?_)
  refine lv_aload_n hx hb dX3_init_86 rfl (lv_at hl 0 rfl) ?_
  refine lv_iload_n hx hb dX3_init_87 rfl (lv_at hl 1 rfl) ?_
  refine zputiF (ci := 3) (v := n) (ty := .int) (C := RX3) (T := TX3) (N := 15) hx hb hts hi3 tyX3 tyX3_ok nmX3 hown hK hP hD hS hO_a rfl rfl 0 (by decide) (hts (.fieldLink RX3 64 "LinCluster$Node" "number" "I") (by decide +kernel)) (fun _ h9 => h9) rfl hin rfl (by decide +kernel) rfl rfl (Nat.le_of_ble_eq_true rfl) rfl dX3_init_88 (fun H locs hP hD hS => ?_)
  refine W.widen (k := 2) (n := 9) (Nat.le_of_ble_eq_true rfl) (Nat.le_of_ble_eq_true rfl) ?_
  exact W.vret hx hb hr (fun t ht hW => ⟨⟨((zGn (zGn G q1 2 0) q4 4 0), (zpi (zpi (zpi (zpi (zpi (zpi (zpi (zpi (zpi (zpi (zpi (zpq (zpi (zpq (zpi (zpi (zpi (zpi (zpi (zpj (zpq (zSn (zpq (zpi (zpi (zSn S q1) q1 0 0) q1 1 0) a 1 (some q1)) q4) q4 0 none) q4 1 0) q4 2 0) q4 3 0) q4 4 0) q4 5 0) q4 6 0) a 2 (some q4)) a 3 0) a 4 none) a 5 0) a 6 1) a 7 0) a 8 0) a 9 0) a 10 0) a 11 0) a 12 0) a 13 0) a 14 0) a 0 n)), rfl, ⟨q1, q4, hq_q1, hq_q4, rfl⟩, by rw [ht]; exact hP, va_K.moved hW.alike hK, hD⟩, hS.F ht⟩) hS.2.2 dX3_init_91
