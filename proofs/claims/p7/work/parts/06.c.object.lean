set_option maxHeartbeats 4000000 in
set_option maxRecDepth 100000 in
theorem c_X6_init (l : Launch) (dC : Nat → ClassId) (dI : Nat → Nat → Nat) (cy : Nat → ClassId) (G : zG) (S : zS) (sz : Nat) (a : Nat) (hO_a : zO G a 6) (hR0 : zR0 G S) : Met l yX6_init wsX6_init ({ frames := 3, cells := 32, slots := 435, locals := 53 }) (va_Pc [.ref a] (fun U => zU dC dI cy G S sz U ∧ va_AO RX1 U ∧ va_AO RX3 U)) (va_Qv (fun u : zG × zS => ∃ f n sc ia na d ka va : Nat, zMk a f n sc ia na d ka va 8 u.1 u.2) (fun u => zB dC dI cy (zA cy G S sz) u.1 u.2) (zA cy G S sz)) 32 435 (zA cy G S sz) := by
  refine Met.ofW (cc := cX6_init) (maxL := 2) (ret := none) (by decide) rfl ?_
  intro p e s m args below meth c s₁ B hml hv
  obtain ⟨rfl, ⟨hsz, hP, hK, hD0, hN⟩, hA_RX1, hA_RX3⟩ := hv
  have hO_a0 := hO_a
  have hx := B.exec
  have hb := B.bytes
  have hr := B.returns
  have hts := atoms_spec (ws := wsX6_init) B.pre
  have hown : s.vm.findClass RX6 = some m.cls := findClass_of_methodNamed B.named
  have hlocks := B.notSynchronized
  have hin : meth.name = "<init>" := (name_of_methodNamed B.named B.method).1
  subst hsz
  have hD : va_D (zA cy G S s.heap.size) (zW cy G S) := hD0.self
  generalize hAe : zA cy G S s.heap.size = A at hD ⊢
  have hA : ∀ q : Nat, s.heap.size ≤ q → A q := fun q h => by rw [← hAe]; exact Or.inr h
  have hS : va_S A s.heap s.heap [] := va_S.rf
  have hl := lv_entry ([.ref a]) (n := 2) (Nat.le_of_ble_eq_true rfl)
  rw [lg_entry_eq]
  generalize (lg_sl ([.ref a]) ++ List.replicate (2 - (lg_sl ([.ref a])).length) Slot.unset).toArray = ls at hl ⊢
  have hl : lv_has ls 2 [(0, .ref a)] := hl
  have hi0 : ∀ w ∈ wsX00, w ∈ wsX6_init := by decide +kernel
  have hi3 : ∀ w ∈ wsX30, w ∈ wsX6_init := by decide +kernel
  have hi5 : ∀ w ∈ wsX50, w ∈ wsX6_init := by decide +kernel
  have hi6 : ∀ w ∈ wsX60, w ∈ wsX6_init := by decide +kernel
  refine lv_aload_n hx hb dX6_init_0 rfl (lv_at hl 0 rfl) ?_
  refine W.objInit hx hb hown (hts (.methodLink RX6 3 objectInit) (by decide +kernel)) (hts (.instanceMethod objectInit) (by decide +kernel)) (hts (.code objectInit ⟨#[0xb1]⟩ 1 none) (by decide +kernel)) rfl (by rw [hml]; exact hl.1) rfl dX6_init_1 (Nat.le_of_ble_eq_true rfl) (Nat.le_of_ble_eq_true rfl) ?_
  refine W.eq (g2 := F0 m 4 ls []) rfl ?_
  refine lv_aload_n hx hb dX6_init_4 rfl (lv_at hl 0 rfl) ?_
  refine lv_bipush (v := 62) hx hb dX6_init_5 (by decide) ?_
  refine znewqf (n := 62) (N' := 62) hx hb hown (hts (.classLink RX6 9 RX1) (by decide +kernel)) hA_RX1 hK hP hD hS hA (by decide) (by decide) (by decide) (Nat.le_of_ble_eq_true rfl) (Nat.le_of_ble_eq_true rfl) dX6_init_7 (fun q1 H hq_q1 hP hD hS => ?_)
  have hne_a_q1 := hO_a.ne hq_q1
  have hO_a := hO_a.gn (kd' := 11) (n := 62) hq_q1
  have hO_q1 := zO.nw G q1 11 62
  have hL_q1 := zGn_len G q1 11 62
  refine zputqF (ci := 6) (v := (some q1)) (ty := .array (.object "LinCluster$Frame")) (C := RX6) (T := TX6) (N := 7) hx hb hts hi6 tyX6 tyX6_ok nmX6 hown hK hP hD hS hO_a rfl rfl 0 (by decide) (hts (.fieldLink RX6 11 "LinCluster" "frames" "[LLinCluster$Frame;") (by decide +kernel)) (fun _ h9 => h9) rfl hin rfl (by decide +kernel) rfl rfl (Nat.le_of_ble_eq_true rfl) rfl dX6_init_10 (fun H locs hP hD hS => ?_)
  refine lv_aload_n hx hb dX6_init_13 rfl (lv_at hl 0 rfl) ?_
  refine lv_bipush (v := 8) hx hb dX6_init_14 (by decide) ?_
  refine znewqn (n := 8) (N' := 8) hx hb hown (hts (.classLink RX6 15 RX3) (by decide +kernel)) hA_RX3 hK hP hD hS hA (by decide) (by decide) (by decide) (Nat.le_of_ble_eq_true rfl) (Nat.le_of_ble_eq_true rfl) dX6_init_16 (fun q2 H hq_q2 hP hD hS => ?_)
  have hne_a_q2 := hO_a.ne hq_q2
  have hO_a := hO_a.gn (kd' := 12) (n := 8) hq_q2
  have hL_q1 := (zGn_len' (hO_q1.ne hq_q2) 12 8).trans hL_q1
  have hne_q1_q2 := hO_q1.ne hq_q2
  have hO_q1 := hO_q1.gn (kd' := 12) (n := 8) hq_q2
  have hO_q2 := zO.nw (zGn G q1 11 62) q2 12 8
  have hL_q2 := zGn_len (zGn G q1 11 62) q2 12 8
  refine zputqF (ci := 6) (v := (some q2)) (ty := .array (.object "LinCluster$Node")) (C := RX6) (T := TX6) (N := 7) hx hb hts hi6 tyX6 tyX6_ok nmX6 hown hK hP hD hS hO_a rfl rfl 1 (by decide) (hts (.fieldLink RX6 17 "LinCluster" "nodes" "[LLinCluster$Node;") (by decide +kernel)) (fun _ h9 => h9) rfl hin rfl (by decide +kernel) rfl rfl (Nat.le_of_ble_eq_true rfl) rfl dX6_init_19 (fun H locs hP hD hS => ?_)
  refine lv_aload_n hx hb dX6_init_22 rfl (lv_at hl 0 rfl) ?_
  refine znewo (ci := 5) (C := RX5) (T := TX5) (N := 10) (fs := [.null, .null, .int 0, .int 0, .int 0, .int 0, .int 0, .int 0, .int 0, .int 0]) hx hb hts hi5 tyX5 tyX5_ok hown (hts (.classLink RX6 21 RX5) (by decide +kernel)) (hts (.instantiable RX5 10) (by decide +kernel)) (hts (.initialized RX5) (by decide +kernel)) hK hP hD hS hA rfl zdef5 rfl (Nat.le_of_ble_eq_true rfl) (Nat.le_of_ble_eq_true rfl) dX6_init_23 (fun q3 H hq_q3 hP hD hS => ?_)
  have hne_a_q3 := hO_a.ne hq_q3
  have hO_a := hO_a.gn (kd' := 5) (n := 0) hq_q3
  have hL_q1 := (zGn_len' (hO_q1.ne hq_q3) 5 0).trans hL_q1
  have hne_q1_q3 := hO_q1.ne hq_q3
  have hO_q1 := hO_q1.gn (kd' := 5) (n := 0) hq_q3
  have hL_q2 := (zGn_len' (hO_q2.ne hq_q3) 5 0).trans hL_q2
  have hne_q2_q3 := hO_q2.ne hq_q3
  have hO_q2 := hO_q2.gn (kd' := 5) (n := 0) hq_q3
  have hO_q3 := zO.nw (zGn (zGn G q1 11 62) q2 12 8) q3 5 0
  refine lv_dup hx hb dX6_init_26 rfl ?_
  refine zcallV (va_runIN (As := []) (rest := [.ref q3, .ref a]) ⟨hx, hb, hml, hown, hts⟩ (c_X5_init l dC dI cy (zGn (zGn (zGn G q1 11 62) q2 12 8) q3 5 0) (zSn (zpq (zSn (zpq (zSn S q1) a 0 (some q1)) q2) a 1 (some q2)) q3) H.size q3 hO_q3) ⟨va_cnB 0 hts gX6_init_X5_init_n23 rfl rfl rfl (zN_X6_23 hN) (hts (.initialized RX5) (by decide +kernel)) (by decide +kernel) ⟨Nat.le_of_ble_eq_true rfl, Nat.le_of_ble_eq_true rfl⟩, rfl, hts (.instanceMethod yX5_init) (by decide +kernel)⟩ (zpreS hK hP hD hN) rfl rfl hl.1 rfl (lv_room (Nat.le_of_ble_eq_true rfl)) dX6_init_27 ⟨(Nat.le_of_ble_eq_true rfl), (Nat.le_of_ble_eq_true rfl)⟩) hS hD hA (fun u5 H locs hr4 hP hD hS => ?_)
  obtain ⟨q6, q7, hq_q6, hq_q7, rfl⟩ := hr4
  have hne_a_q6 := hO_a.ne hq_q6
  have hO_a := hO_a.gn (kd' := 8) (n := 16) hq_q6
  have hL_q1 := (zGn_len' (hO_q1.ne hq_q6) 8 16).trans hL_q1
  have hne_q1_q6 := hO_q1.ne hq_q6
  have hO_q1 := hO_q1.gn (kd' := 8) (n := 16) hq_q6
  have hL_q2 := (zGn_len' (hO_q2.ne hq_q6) 8 16).trans hL_q2
  have hne_q2_q6 := hO_q2.ne hq_q6
  have hO_q2 := hO_q2.gn (kd' := 8) (n := 16) hq_q6
  have hne_q3_q6 := hO_q3.ne hq_q6
  have hO_q3 := hO_q3.gn (kd' := 8) (n := 16) hq_q6
  have hO_q6 := zO.nw (zGn (zGn (zGn G q1 11 62) q2 12 8) q3 5 0) q6 8 16
  have hL_q6 := zGn_len (zGn (zGn (zGn G q1 11 62) q2 12 8) q3 5 0) q6 8 16
  have hne_a_q7 := hO_a.ne hq_q7
  have hO_a := hO_a.gn (kd' := 8) (n := 16) hq_q7
  have hL_q1 := (zGn_len' (hO_q1.ne hq_q7) 8 16).trans hL_q1
  have hne_q1_q7 := hO_q1.ne hq_q7
  have hO_q1 := hO_q1.gn (kd' := 8) (n := 16) hq_q7
  have hL_q2 := (zGn_len' (hO_q2.ne hq_q7) 8 16).trans hL_q2
  have hne_q2_q7 := hO_q2.ne hq_q7
  have hO_q2 := hO_q2.gn (kd' := 8) (n := 16) hq_q7
  have hne_q3_q7 := hO_q3.ne hq_q7
  have hO_q3 := hO_q3.gn (kd' := 8) (n := 16) hq_q7
  have hL_q6 := (zGn_len' (hO_q6.ne hq_q7) 8 16).trans hL_q6
  have hne_q6_q7 := hO_q6.ne hq_q7
  have hO_q6 := hO_q6.gn (kd' := 8) (n := 16) hq_q7
  have hO_q7 := zO.nw (zGn (zGn (zGn (zGn G q1 11 62) q2 12 8) q3 5 0) q6 8 16) q7 8 16
  have hL_q7 := zGn_len (zGn (zGn (zGn (zGn G q1 11 62) q2 12 8) q3 5 0) q6 8 16) q7 8 16
  refine zputqF (ci := 6) (v := (some q3)) (ty := .object "LinCluster$Schedule") (C := RX6) (T := TX6) (N := 7) hx hb hts hi6 tyX6 tyX6_ok nmX6 hown hK hP hD hS hO_a rfl rfl 2 (by decide) (hts (.fieldLink RX6 24 "LinCluster" "schedule" "LLinCluster$Schedule;") (by decide +kernel)) (fun _ h9 => h9) rfl hin rfl (by decide +kernel) rfl rfl (Nat.le_of_ble_eq_true rfl) rfl dX6_init_30 (fun H locs hP hD hS => ?_)
  refine lv_aload_n hx hb dX6_init_33 rfl (lv_at hl 0 rfl) ?_
  refine znewo (ci := 0) (C := RX0) (T := TX0) (N := 3) (fs := [.null, .null, .int 0]) hx hb hts hi0 tyX0 tyX0_ok hown (hts (.classLink RX6 28 RX0) (by decide +kernel)) (hts (.instantiable RX0 3) (by decide +kernel)) (hts (.initialized RX0) (by decide +kernel)) hK hP hD hS hA rfl zdef0 rfl (Nat.le_of_ble_eq_true rfl) (Nat.le_of_ble_eq_true rfl) dX6_init_34 (fun q8 H hq_q8 hP hD hS => ?_)
  have hne_a_q8 := hO_a.ne hq_q8
  have hO_a := hO_a.gn (kd' := 0) (n := 0) hq_q8
  have hL_q1 := (zGn_len' (hO_q1.ne hq_q8) 0 0).trans hL_q1
  have hne_q1_q8 := hO_q1.ne hq_q8
  have hO_q1 := hO_q1.gn (kd' := 0) (n := 0) hq_q8
  have hL_q2 := (zGn_len' (hO_q2.ne hq_q8) 0 0).trans hL_q2
  have hne_q2_q8 := hO_q2.ne hq_q8
  have hO_q2 := hO_q2.gn (kd' := 0) (n := 0) hq_q8
  have hne_q3_q8 := hO_q3.ne hq_q8
  have hO_q3 := hO_q3.gn (kd' := 0) (n := 0) hq_q8
  have hL_q6 := (zGn_len' (hO_q6.ne hq_q8) 0 0).trans hL_q6
  have hne_q6_q8 := hO_q6.ne hq_q8
  have hO_q6 := hO_q6.gn (kd' := 0) (n := 0) hq_q8
  have hL_q7 := (zGn_len' (hO_q7.ne hq_q8) 0 0).trans hL_q7
  have hne_q7_q8 := hO_q7.ne hq_q8
  have hO_q7 := hO_q7.gn (kd' := 0) (n := 0) hq_q8
  have hO_q8 := zO.nw (zGn (zGn (zGn (zGn (zGn G q1 11 62) q2 12 8) q3 5 0) q6 8 16) q7 8 16) q8 0 0
  refine lv_dup hx hb dX6_init_37 rfl ?_
  refine zcallV (va_runIN (As := []) (rest := [.ref q8, .ref a]) ⟨hx, hb, hml, hown, hts⟩ (c_X0_init l dC dI cy (zGn (zGn (zGn (zGn (zGn (zGn G q1 11 62) q2 12 8) q3 5 0) q6 8 16) q7 8 16) q8 0 0) (zSn (zpq (zpi (zpi (zpi (zpi (zpi (zpi (zpi (zpi (zpq (zSn (zpq (zSn (zSn (zpq (zSn (zpq (zSn S q1) a 0 (some q1)) q2) a 1 (some q2)) q3) q6) q3 0 (some q6)) q7) q3 1 (some q7)) q3 2 0) q3 3 (-1)) q3 4 0) q3 5 0) q3 6 0) q3 7 0) q3 8 0) q3 9 0) a 2 (some q3)) q8) H.size q8 hO_q8) ⟨va_cnB 0 hts gX6_init_X0_init_n30 rfl rfl rfl (zN_X6_30 hN) (hts (.initialized RX0) (by decide +kernel)) (by decide +kernel) ⟨Nat.le_of_ble_eq_true rfl, Nat.le_of_ble_eq_true rfl⟩, rfl, hts (.instanceMethod yX0_init) (by decide +kernel)⟩ (zpreS hK hP hD hN) rfl rfl hl.1 rfl (lv_room (Nat.le_of_ble_eq_true rfl)) dX6_init_38 ⟨(Nat.le_of_ble_eq_true rfl), (Nat.le_of_ble_eq_true rfl)⟩) hS hD hA (fun u10 H locs hr9 hP hD hS => ?_)
  obtain ⟨q11, q12, hq_q11, hq_q12, rfl⟩ := hr9
  have hne_a_q11 := hO_a.ne hq_q11
  have hO_a := hO_a.gn (kd' := 9) (n := 64) hq_q11
  have hL_q1 := (zGn_len' (hO_q1.ne hq_q11) 9 64).trans hL_q1
  have hne_q1_q11 := hO_q1.ne hq_q11
  have hO_q1 := hO_q1.gn (kd' := 9) (n := 64) hq_q11
  have hL_q2 := (zGn_len' (hO_q2.ne hq_q11) 9 64).trans hL_q2
  have hne_q2_q11 := hO_q2.ne hq_q11
  have hO_q2 := hO_q2.gn (kd' := 9) (n := 64) hq_q11
  have hne_q3_q11 := hO_q3.ne hq_q11
  have hO_q3 := hO_q3.gn (kd' := 9) (n := 64) hq_q11
  have hL_q6 := (zGn_len' (hO_q6.ne hq_q11) 9 64).trans hL_q6
  have hne_q6_q11 := hO_q6.ne hq_q11
  have hO_q6 := hO_q6.gn (kd' := 9) (n := 64) hq_q11
  have hL_q7 := (zGn_len' (hO_q7.ne hq_q11) 9 64).trans hL_q7
  have hne_q7_q11 := hO_q7.ne hq_q11
  have hO_q7 := hO_q7.gn (kd' := 9) (n := 64) hq_q11
  have hne_q8_q11 := hO_q8.ne hq_q11
  have hO_q8 := hO_q8.gn (kd' := 9) (n := 64) hq_q11
  have hO_q11 := zO.nw (zGn (zGn (zGn (zGn (zGn (zGn G q1 11 62) q2 12 8) q3 5 0) q6 8 16) q7 8 16) q8 0 0) q11 9 64
  have hL_q11 := zGn_len (zGn (zGn (zGn (zGn (zGn (zGn G q1 11 62) q2 12 8) q3 5 0) q6 8 16) q7 8 16) q8 0 0) q11 9 64
  have hne_a_q12 := hO_a.ne hq_q12
  have hO_a := hO_a.gn (kd' := 9) (n := 64) hq_q12
  have hL_q1 := (zGn_len' (hO_q1.ne hq_q12) 9 64).trans hL_q1
  have hne_q1_q12 := hO_q1.ne hq_q12
  have hO_q1 := hO_q1.gn (kd' := 9) (n := 64) hq_q12
  have hL_q2 := (zGn_len' (hO_q2.ne hq_q12) 9 64).trans hL_q2
  have hne_q2_q12 := hO_q2.ne hq_q12
  have hO_q2 := hO_q2.gn (kd' := 9) (n := 64) hq_q12
  have hne_q3_q12 := hO_q3.ne hq_q12
  have hO_q3 := hO_q3.gn (kd' := 9) (n := 64) hq_q12
  have hL_q6 := (zGn_len' (hO_q6.ne hq_q12) 9 64).trans hL_q6
  have hne_q6_q12 := hO_q6.ne hq_q12
  have hO_q6 := hO_q6.gn (kd' := 9) (n := 64) hq_q12
  have hL_q7 := (zGn_len' (hO_q7.ne hq_q12) 9 64).trans hL_q7
  have hne_q7_q12 := hO_q7.ne hq_q12
  have hO_q7 := hO_q7.gn (kd' := 9) (n := 64) hq_q12
  have hne_q8_q12 := hO_q8.ne hq_q12
  have hO_q8 := hO_q8.gn (kd' := 9) (n := 64) hq_q12
  have hL_q11 := (zGn_len' (hO_q11.ne hq_q12) 9 64).trans hL_q11
  have hne_q11_q12 := hO_q11.ne hq_q12
  have hO_q11 := hO_q11.gn (kd' := 9) (n := 64) hq_q12
  have hO_q12 := zO.nw (zGn (zGn (zGn (zGn (zGn (zGn (zGn G q1 11 62) q2 12 8) q3 5 0) q6 8 16) q7 8 16) q8 0 0) q11 9 64) q12 9 64
  have hL_q12 := zGn_len (zGn (zGn (zGn (zGn (zGn (zGn (zGn G q1 11 62) q2 12 8) q3 5 0) q6 8 16) q7 8 16) q8 0 0) q11 9 64) q12 9 64
  refine zputqF (ci := 6) (v := (some q8)) (ty := .object "LinCluster$Disturbings") (C := RX6) (T := TX6) (N := 7) hx hb hts hi6 tyX6 tyX6_ok nmX6 hown hK hP hD hS hO_a rfl rfl 3 (by decide) (hts (.fieldLink RX6 31 "LinCluster" "disturbings" "LLinCluster$Disturbings;") (by decide +kernel)) (fun _ h9 => h9) rfl hin rfl (by decide +kernel) rfl rfl (Nat.le_of_ble_eq_true rfl) rfl dX6_init_41 (fun H locs hP hD hS => ?_)
  refine lv_aload_n hx hb dX6_init_44 rfl (lv_at hl 0 rfl) ?_
  refine lv_iconst (v := 0) hx hb dX6_init_45 (by decide) ?_
  refine zputi (ci := 6) (v := 0) (ty := .int) (C := RX6) (T := TX6) (N := 7) hx hb hts hi6 tyX6 tyX6_ok nmX6 hown hK hP hD hS hO_a rfl rfl 4 (by decide) (hts (.fieldLink RX6 35 "LinCluster" "time" "I") (by decide +kernel)) (fun _ h9 => h9) rfl (by decide +kernel) rfl rfl (Nat.le_of_ble_eq_true rfl) rfl dX6_init_46 (fun H locs hP hD hS => ?_)
  refine lv_aload_n hx hb dX6_init_49 rfl (lv_at hl 0 rfl) ?_
  refine lv_iconst (v := 0) hx hb dX6_init_50 (by decide) ?_
  refine zputi (ci := 6) (v := 0) (ty := .int) (C := RX6) (T := TX6) (N := 7) hx hb hts hi6 tyX6 tyX6_ok nmX6 hown hK hP hD hS hO_a rfl rfl 5 (by decide) (hts (.fieldLink RX6 39 "LinCluster" "zeros" "I") (by decide +kernel)) (fun _ h9 => h9) rfl (by decide +kernel) rfl rfl (Nat.le_of_ble_eq_true rfl) rfl dX6_init_51 (fun H locs hP hD hS => ?_)
  refine lv_aload_n hx hb dX6_init_54 rfl (lv_at hl 0 rfl) ?_
  refine lv_ldc2 (v := (-1)) hx hb hown (hts (.constantLong RX6 42 (-1)) (by decide +kernel)) dX6_init_55 ?_
  refine zputj (ci := 6) (v := (-1)) (ty := .long) (C := RX6) (T := TX6) (N := 7) hx hb hts hi6 tyX6 tyX6_ok nmX6 hown hK hP hD hS hO_a rfl rfl 6 (by decide) (hts (.fieldLink RX6 44 "LinCluster" "past" "J") (by decide +kernel)) (fun _ h9 => h9) rfl (by decide +kernel) rfl rfl (Nat.le_of_ble_eq_true rfl) rfl dX6_init_58 (fun H locs hP hD hS => ?_)
  refine lv_iconst (v := 0) hx hb dX6_init_61 (by decide) ?_
  refine lv_istore_n (lv' := [(1, .int 0), (0, .ref a)]) hx hb dX6_init_62 rfl hl (by decide) rfl (fun ls hl => ?_)
  have hmk : zMk a q1 q2 q3 q6 q7 q8 q11 q12 0 (zGn (zGn (zGn (zGn (zGn (zGn (zGn (zGn G q1 11 62) q2 12 8) q3 5 0) q6 8 16) q7 8 16) q8 0 0) q11 9 64) q12 9 64) (zpj (zpi (zpi (zpq (zpi (zpq (zSn (zpq (zSn (zSn (zpq (zpi (zpi (zpi (zpi (zpi (zpi (zpi (zpi (zpq (zSn (zpq (zSn (zSn (zpq (zSn (zpq (zSn S q1) a 0 (some q1)) q2) a 1 (some q2)) q3) q6) q3 0 (some q6)) q7) q3 1 (some q7)) q3 2 0) q3 3 (-1)) q3 4 0) q3 5 0) q3 6 0) q3 7 0) q3 8 0) q3 9 0) a 2 (some q3)) q8) q11) q8 0 (some q11)) q12) q8 1 (some q12)) q8 2 0) a 3 (some q8)) a 4 0) a 5 0) a 6 (-1)) := by
    refine ⟨⟨⟨hO_a, by simp [zpi_at, zpj_at, zpq_at, zpi_2, zpj_1, zpj_22, zpq_1, zpq_21, zSn_1, zSn_21, zSn_22, hne_a_q1, hne_a_q1.symm, hne_a_q2, hne_a_q2.symm, hne_q1_q2, hne_q1_q2.symm, hne_a_q3, hne_a_q3.symm, hne_q1_q3, hne_q1_q3.symm, hne_q2_q3, hne_q2_q3.symm, hne_a_q6, hne_a_q6.symm, hne_q1_q6, hne_q1_q6.symm, hne_q2_q6, hne_q2_q6.symm, hne_q3_q6, hne_q3_q6.symm, hne_a_q7, hne_a_q7.symm, hne_q1_q7, hne_q1_q7.symm, hne_q2_q7, hne_q2_q7.symm, hne_q3_q7, hne_q3_q7.symm, hne_q6_q7, hne_q6_q7.symm, hne_a_q8, hne_a_q8.symm, hne_q1_q8, hne_q1_q8.symm, hne_q2_q8, hne_q2_q8.symm, hne_q3_q8, hne_q3_q8.symm, hne_q6_q8, hne_q6_q8.symm, hne_q7_q8, hne_q7_q8.symm, hne_a_q11, hne_a_q11.symm, hne_q1_q11, hne_q1_q11.symm, hne_q2_q11, hne_q2_q11.symm, hne_q3_q11, hne_q3_q11.symm, hne_q6_q11, hne_q6_q11.symm, hne_q7_q11, hne_q7_q11.symm, hne_q8_q11, hne_q8_q11.symm, hne_a_q12, hne_a_q12.symm, hne_q1_q12, hne_q1_q12.symm, hne_q2_q12, hne_q2_q12.symm, hne_q3_q12, hne_q3_q12.symm, hne_q6_q12, hne_q6_q12.symm, hne_q7_q12, hne_q7_q12.symm, hne_q8_q12, hne_q8_q12.symm, hne_q11_q12, hne_q11_q12.symm], by simp [zpi_at, zpj_at, zpq_at, zpi_2, zpj_1, zpj_22, zpq_1, zpq_21, zSn_1, zSn_21, zSn_22, hne_a_q1, hne_a_q1.symm, hne_a_q2, hne_a_q2.symm, hne_q1_q2, hne_q1_q2.symm, hne_a_q3, hne_a_q3.symm, hne_q1_q3, hne_q1_q3.symm, hne_q2_q3, hne_q2_q3.symm, hne_a_q6, hne_a_q6.symm, hne_q1_q6, hne_q1_q6.symm, hne_q2_q6, hne_q2_q6.symm, hne_q3_q6, hne_q3_q6.symm, hne_a_q7, hne_a_q7.symm, hne_q1_q7, hne_q1_q7.symm, hne_q2_q7, hne_q2_q7.symm, hne_q3_q7, hne_q3_q7.symm, hne_q6_q7, hne_q6_q7.symm, hne_a_q8, hne_a_q8.symm, hne_q1_q8, hne_q1_q8.symm, hne_q2_q8, hne_q2_q8.symm, hne_q3_q8, hne_q3_q8.symm, hne_q6_q8, hne_q6_q8.symm, hne_q7_q8, hne_q7_q8.symm, hne_a_q11, hne_a_q11.symm, hne_q1_q11, hne_q1_q11.symm, hne_q2_q11, hne_q2_q11.symm, hne_q3_q11, hne_q3_q11.symm, hne_q6_q11, hne_q6_q11.symm, hne_q7_q11, hne_q7_q11.symm, hne_q8_q11, hne_q8_q11.symm, hne_a_q12, hne_a_q12.symm, hne_q1_q12, hne_q1_q12.symm, hne_q2_q12, hne_q2_q12.symm, hne_q3_q12, hne_q3_q12.symm, hne_q6_q12, hne_q6_q12.symm, hne_q7_q12, hne_q7_q12.symm, hne_q8_q12, hne_q8_q12.symm, hne_q11_q12, hne_q11_q12.symm], by simp [zpi_at, zpj_at, zpq_at, zpi_2, zpj_1, zpj_22, zpq_1, zpq_21, zSn_1, zSn_21, zSn_22, hne_a_q1, hne_a_q1.symm, hne_a_q2, hne_a_q2.symm, hne_q1_q2, hne_q1_q2.symm, hne_a_q3, hne_a_q3.symm, hne_q1_q3, hne_q1_q3.symm, hne_q2_q3, hne_q2_q3.symm, hne_a_q6, hne_a_q6.symm, hne_q1_q6, hne_q1_q6.symm, hne_q2_q6, hne_q2_q6.symm, hne_q3_q6, hne_q3_q6.symm, hne_a_q7, hne_a_q7.symm, hne_q1_q7, hne_q1_q7.symm, hne_q2_q7, hne_q2_q7.symm, hne_q3_q7, hne_q3_q7.symm, hne_q6_q7, hne_q6_q7.symm, hne_a_q8, hne_a_q8.symm, hne_q1_q8, hne_q1_q8.symm, hne_q2_q8, hne_q2_q8.symm, hne_q3_q8, hne_q3_q8.symm, hne_q6_q8, hne_q6_q8.symm, hne_q7_q8, hne_q7_q8.symm, hne_a_q11, hne_a_q11.symm, hne_q1_q11, hne_q1_q11.symm, hne_q2_q11, hne_q2_q11.symm, hne_q3_q11, hne_q3_q11.symm, hne_q6_q11, hne_q6_q11.symm, hne_q7_q11, hne_q7_q11.symm, hne_q8_q11, hne_q8_q11.symm, hne_a_q12, hne_a_q12.symm, hne_q1_q12, hne_q1_q12.symm, hne_q2_q12, hne_q2_q12.symm, hne_q3_q12, hne_q3_q12.symm, hne_q6_q12, hne_q6_q12.symm, hne_q7_q12, hne_q7_q12.symm, hne_q8_q12, hne_q8_q12.symm, hne_q11_q12, hne_q11_q12.symm], by simp [zpi_at, zpj_at, zpq_at, zpi_2, zpj_1, zpj_22, zpq_1, zpq_21, zSn_1, zSn_21, zSn_22, hne_a_q1, hne_a_q1.symm, hne_a_q2, hne_a_q2.symm, hne_q1_q2, hne_q1_q2.symm, hne_a_q3, hne_a_q3.symm, hne_q1_q3, hne_q1_q3.symm, hne_q2_q3, hne_q2_q3.symm, hne_a_q6, hne_a_q6.symm, hne_q1_q6, hne_q1_q6.symm, hne_q2_q6, hne_q2_q6.symm, hne_q3_q6, hne_q3_q6.symm, hne_a_q7, hne_a_q7.symm, hne_q1_q7, hne_q1_q7.symm, hne_q2_q7, hne_q2_q7.symm, hne_q3_q7, hne_q3_q7.symm, hne_q6_q7, hne_q6_q7.symm, hne_a_q8, hne_a_q8.symm, hne_q1_q8, hne_q1_q8.symm, hne_q2_q8, hne_q2_q8.symm, hne_q3_q8, hne_q3_q8.symm, hne_q6_q8, hne_q6_q8.symm, hne_q7_q8, hne_q7_q8.symm, hne_a_q11, hne_a_q11.symm, hne_q1_q11, hne_q1_q11.symm, hne_q2_q11, hne_q2_q11.symm, hne_q3_q11, hne_q3_q11.symm, hne_q6_q11, hne_q6_q11.symm, hne_q7_q11, hne_q7_q11.symm, hne_q8_q11, hne_q8_q11.symm, hne_a_q12, hne_a_q12.symm, hne_q1_q12, hne_q1_q12.symm, hne_q2_q12, hne_q2_q12.symm, hne_q3_q12, hne_q3_q12.symm, hne_q6_q12, hne_q6_q12.symm, hne_q7_q12, hne_q7_q12.symm, hne_q8_q12, hne_q8_q12.symm, hne_q11_q12, hne_q11_q12.symm]⟩, by simp [zpi_at, zpj_at, zpq_at, zpi_2, zpj_1, zpj_22, zpq_1, zpq_21, zSn_1, zSn_21, zSn_22, hne_a_q1, hne_a_q1.symm, hne_a_q2, hne_a_q2.symm, hne_q1_q2, hne_q1_q2.symm, hne_a_q3, hne_a_q3.symm, hne_q1_q3, hne_q1_q3.symm, hne_q2_q3, hne_q2_q3.symm, hne_a_q6, hne_a_q6.symm, hne_q1_q6, hne_q1_q6.symm, hne_q2_q6, hne_q2_q6.symm, hne_q3_q6, hne_q3_q6.symm, hne_a_q7, hne_a_q7.symm, hne_q1_q7, hne_q1_q7.symm, hne_q2_q7, hne_q2_q7.symm, hne_q3_q7, hne_q3_q7.symm, hne_q6_q7, hne_q6_q7.symm, hne_a_q8, hne_a_q8.symm, hne_q1_q8, hne_q1_q8.symm, hne_q2_q8, hne_q2_q8.symm, hne_q3_q8, hne_q3_q8.symm, hne_q6_q8, hne_q6_q8.symm, hne_q7_q8, hne_q7_q8.symm, hne_a_q11, hne_a_q11.symm, hne_q1_q11, hne_q1_q11.symm, hne_q2_q11, hne_q2_q11.symm, hne_q3_q11, hne_q3_q11.symm, hne_q6_q11, hne_q6_q11.symm, hne_q7_q11, hne_q7_q11.symm, hne_q8_q11, hne_q8_q11.symm, hne_a_q12, hne_a_q12.symm, hne_q1_q12, hne_q1_q12.symm, hne_q2_q12, hne_q2_q12.symm, hne_q3_q12, hne_q3_q12.symm, hne_q6_q12, hne_q6_q12.symm, hne_q7_q12, hne_q7_q12.symm, hne_q8_q12, hne_q8_q12.symm, hne_q11_q12, hne_q11_q12.symm], by simp [zpi_at, zpj_at, zpq_at, zpi_2, zpj_1, zpj_22, zpq_1, zpq_21, zSn_1, zSn_21, zSn_22, hne_a_q1, hne_a_q1.symm, hne_a_q2, hne_a_q2.symm, hne_q1_q2, hne_q1_q2.symm, hne_a_q3, hne_a_q3.symm, hne_q1_q3, hne_q1_q3.symm, hne_q2_q3, hne_q2_q3.symm, hne_a_q6, hne_a_q6.symm, hne_q1_q6, hne_q1_q6.symm, hne_q2_q6, hne_q2_q6.symm, hne_q3_q6, hne_q3_q6.symm, hne_a_q7, hne_a_q7.symm, hne_q1_q7, hne_q1_q7.symm, hne_q2_q7, hne_q2_q7.symm, hne_q3_q7, hne_q3_q7.symm, hne_q6_q7, hne_q6_q7.symm, hne_a_q8, hne_a_q8.symm, hne_q1_q8, hne_q1_q8.symm, hne_q2_q8, hne_q2_q8.symm, hne_q3_q8, hne_q3_q8.symm, hne_q6_q8, hne_q6_q8.symm, hne_q7_q8, hne_q7_q8.symm, hne_a_q11, hne_a_q11.symm, hne_q1_q11, hne_q1_q11.symm, hne_q2_q11, hne_q2_q11.symm, hne_q3_q11, hne_q3_q11.symm, hne_q6_q11, hne_q6_q11.symm, hne_q7_q11, hne_q7_q11.symm, hne_q8_q11, hne_q8_q11.symm, hne_a_q12, hne_a_q12.symm, hne_q1_q12, hne_q1_q12.symm, hne_q2_q12, hne_q2_q12.symm, hne_q3_q12, hne_q3_q12.symm, hne_q6_q12, hne_q6_q12.symm, hne_q7_q12, hne_q7_q12.symm, hne_q8_q12, hne_q8_q12.symm, hne_q11_q12, hne_q11_q12.symm], by simp [zpi_at, zpj_at, zpq_at, zpi_2, zpj_1, zpj_22, zpq_1, zpq_21, zSn_1, zSn_21, zSn_22, hne_a_q1, hne_a_q1.symm, hne_a_q2, hne_a_q2.symm, hne_q1_q2, hne_q1_q2.symm, hne_a_q3, hne_a_q3.symm, hne_q1_q3, hne_q1_q3.symm, hne_q2_q3, hne_q2_q3.symm, hne_a_q6, hne_a_q6.symm, hne_q1_q6, hne_q1_q6.symm, hne_q2_q6, hne_q2_q6.symm, hne_q3_q6, hne_q3_q6.symm, hne_a_q7, hne_a_q7.symm, hne_q1_q7, hne_q1_q7.symm, hne_q2_q7, hne_q2_q7.symm, hne_q3_q7, hne_q3_q7.symm, hne_q6_q7, hne_q6_q7.symm, hne_a_q8, hne_a_q8.symm, hne_q1_q8, hne_q1_q8.symm, hne_q2_q8, hne_q2_q8.symm, hne_q3_q8, hne_q3_q8.symm, hne_q6_q8, hne_q6_q8.symm, hne_q7_q8, hne_q7_q8.symm, hne_a_q11, hne_a_q11.symm, hne_q1_q11, hne_q1_q11.symm, hne_q2_q11, hne_q2_q11.symm, hne_q3_q11, hne_q3_q11.symm, hne_q6_q11, hne_q6_q11.symm, hne_q7_q11, hne_q7_q11.symm, hne_q8_q11, hne_q8_q11.symm, hne_a_q12, hne_a_q12.symm, hne_q1_q12, hne_q1_q12.symm, hne_q2_q12, hne_q2_q12.symm, hne_q3_q12, hne_q3_q12.symm, hne_q6_q12, hne_q6_q12.symm, hne_q7_q12, hne_q7_q12.symm, hne_q8_q12, hne_q8_q12.symm, hne_q11_q12, hne_q11_q12.symm]⟩, ⟨⟨hO_q1, hL_q1, fun j => by simp [zpi_at, zpj_at, zpq_at, zpi_2, zpj_1, zpj_22, zpq_1, zpq_21, zSn_1, zSn_21, zSn_22, hne_a_q1, hne_a_q1.symm, hne_a_q2, hne_a_q2.symm, hne_q1_q2, hne_q1_q2.symm, hne_a_q3, hne_a_q3.symm, hne_q1_q3, hne_q1_q3.symm, hne_q2_q3, hne_q2_q3.symm, hne_a_q6, hne_a_q6.symm, hne_q1_q6, hne_q1_q6.symm, hne_q2_q6, hne_q2_q6.symm, hne_q3_q6, hne_q3_q6.symm, hne_a_q7, hne_a_q7.symm, hne_q1_q7, hne_q1_q7.symm, hne_q2_q7, hne_q2_q7.symm, hne_q3_q7, hne_q3_q7.symm, hne_q6_q7, hne_q6_q7.symm, hne_a_q8, hne_a_q8.symm, hne_q1_q8, hne_q1_q8.symm, hne_q2_q8, hne_q2_q8.symm, hne_q3_q8, hne_q3_q8.symm, hne_q6_q8, hne_q6_q8.symm, hne_q7_q8, hne_q7_q8.symm, hne_a_q11, hne_a_q11.symm, hne_q1_q11, hne_q1_q11.symm, hne_q2_q11, hne_q2_q11.symm, hne_q3_q11, hne_q3_q11.symm, hne_q6_q11, hne_q6_q11.symm, hne_q7_q11, hne_q7_q11.symm, hne_q8_q11, hne_q8_q11.symm, hne_a_q12, hne_a_q12.symm, hne_q1_q12, hne_q1_q12.symm, hne_q2_q12, hne_q2_q12.symm, hne_q3_q12, hne_q3_q12.symm, hne_q6_q12, hne_q6_q12.symm, hne_q7_q12, hne_q7_q12.symm, hne_q8_q12, hne_q8_q12.symm, hne_q11_q12, hne_q11_q12.symm]⟩, hO_q2, hL_q2⟩, ⟨⟨hO_q3, by simp [zpi_at, zpj_at, zpq_at, zpi_2, zpj_1, zpj_22, zpq_1, zpq_21, zSn_1, zSn_21, zSn_22, hne_a_q1, hne_a_q1.symm, hne_a_q2, hne_a_q2.symm, hne_q1_q2, hne_q1_q2.symm, hne_a_q3, hne_a_q3.symm, hne_q1_q3, hne_q1_q3.symm, hne_q2_q3, hne_q2_q3.symm, hne_a_q6, hne_a_q6.symm, hne_q1_q6, hne_q1_q6.symm, hne_q2_q6, hne_q2_q6.symm, hne_q3_q6, hne_q3_q6.symm, hne_a_q7, hne_a_q7.symm, hne_q1_q7, hne_q1_q7.symm, hne_q2_q7, hne_q2_q7.symm, hne_q3_q7, hne_q3_q7.symm, hne_q6_q7, hne_q6_q7.symm, hne_a_q8, hne_a_q8.symm, hne_q1_q8, hne_q1_q8.symm, hne_q2_q8, hne_q2_q8.symm, hne_q3_q8, hne_q3_q8.symm, hne_q6_q8, hne_q6_q8.symm, hne_q7_q8, hne_q7_q8.symm, hne_a_q11, hne_a_q11.symm, hne_q1_q11, hne_q1_q11.symm, hne_q2_q11, hne_q2_q11.symm, hne_q3_q11, hne_q3_q11.symm, hne_q6_q11, hne_q6_q11.symm, hne_q7_q11, hne_q7_q11.symm, hne_q8_q11, hne_q8_q11.symm, hne_a_q12, hne_a_q12.symm, hne_q1_q12, hne_q1_q12.symm, hne_q2_q12, hne_q2_q12.symm, hne_q3_q12, hne_q3_q12.symm, hne_q6_q12, hne_q6_q12.symm, hne_q7_q12, hne_q7_q12.symm, hne_q8_q12, hne_q8_q12.symm, hne_q11_q12, hne_q11_q12.symm], by simp [zpi_at, zpj_at, zpq_at, zpi_2, zpj_1, zpj_22, zpq_1, zpq_21, zSn_1, zSn_21, zSn_22, hne_a_q1, hne_a_q1.symm, hne_a_q2, hne_a_q2.symm, hne_q1_q2, hne_q1_q2.symm, hne_a_q3, hne_a_q3.symm, hne_q1_q3, hne_q1_q3.symm, hne_q2_q3, hne_q2_q3.symm, hne_a_q6, hne_a_q6.symm, hne_q1_q6, hne_q1_q6.symm, hne_q2_q6, hne_q2_q6.symm, hne_q3_q6, hne_q3_q6.symm, hne_a_q7, hne_a_q7.symm, hne_q1_q7, hne_q1_q7.symm, hne_q2_q7, hne_q2_q7.symm, hne_q3_q7, hne_q3_q7.symm, hne_q6_q7, hne_q6_q7.symm, hne_a_q8, hne_a_q8.symm, hne_q1_q8, hne_q1_q8.symm, hne_q2_q8, hne_q2_q8.symm, hne_q3_q8, hne_q3_q8.symm, hne_q6_q8, hne_q6_q8.symm, hne_q7_q8, hne_q7_q8.symm, hne_a_q11, hne_a_q11.symm, hne_q1_q11, hne_q1_q11.symm, hne_q2_q11, hne_q2_q11.symm, hne_q3_q11, hne_q3_q11.symm, hne_q6_q11, hne_q6_q11.symm, hne_q7_q11, hne_q7_q11.symm, hne_q8_q11, hne_q8_q11.symm, hne_a_q12, hne_a_q12.symm, hne_q1_q12, hne_q1_q12.symm, hne_q2_q12, hne_q2_q12.symm, hne_q3_q12, hne_q3_q12.symm, hne_q6_q12, hne_q6_q12.symm, hne_q7_q12, hne_q7_q12.symm, hne_q8_q12, hne_q8_q12.symm, hne_q11_q12, hne_q11_q12.symm], hO_q6, hL_q6, hO_q7, hL_q7⟩, by simp [zpi_at, zpj_at, zpq_at, zpi_2, zpj_1, zpj_22, zpq_1, zpq_21, zSn_1, zSn_21, zSn_22, hne_a_q1, hne_a_q1.symm, hne_a_q2, hne_a_q2.symm, hne_q1_q2, hne_q1_q2.symm, hne_a_q3, hne_a_q3.symm, hne_q1_q3, hne_q1_q3.symm, hne_q2_q3, hne_q2_q3.symm, hne_a_q6, hne_a_q6.symm, hne_q1_q6, hne_q1_q6.symm, hne_q2_q6, hne_q2_q6.symm, hne_q3_q6, hne_q3_q6.symm, hne_a_q7, hne_a_q7.symm, hne_q1_q7, hne_q1_q7.symm, hne_q2_q7, hne_q2_q7.symm, hne_q3_q7, hne_q3_q7.symm, hne_q6_q7, hne_q6_q7.symm, hne_a_q8, hne_a_q8.symm, hne_q1_q8, hne_q1_q8.symm, hne_q2_q8, hne_q2_q8.symm, hne_q3_q8, hne_q3_q8.symm, hne_q6_q8, hne_q6_q8.symm, hne_q7_q8, hne_q7_q8.symm, hne_a_q11, hne_a_q11.symm, hne_q1_q11, hne_q1_q11.symm, hne_q2_q11, hne_q2_q11.symm, hne_q3_q11, hne_q3_q11.symm, hne_q6_q11, hne_q6_q11.symm, hne_q7_q11, hne_q7_q11.symm, hne_q8_q11, hne_q8_q11.symm, hne_a_q12, hne_a_q12.symm, hne_q1_q12, hne_q1_q12.symm, hne_q2_q12, hne_q2_q12.symm, hne_q3_q12, hne_q3_q12.symm, hne_q6_q12, hne_q6_q12.symm, hne_q7_q12, hne_q7_q12.symm, hne_q8_q12, hne_q8_q12.symm, hne_q11_q12, hne_q11_q12.symm], by simp [zpi_at, zpj_at, zpq_at, zpi_2, zpj_1, zpj_22, zpq_1, zpq_21, zSn_1, zSn_21, zSn_22, hne_a_q1, hne_a_q1.symm, hne_a_q2, hne_a_q2.symm, hne_q1_q2, hne_q1_q2.symm, hne_a_q3, hne_a_q3.symm, hne_q1_q3, hne_q1_q3.symm, hne_q2_q3, hne_q2_q3.symm, hne_a_q6, hne_a_q6.symm, hne_q1_q6, hne_q1_q6.symm, hne_q2_q6, hne_q2_q6.symm, hne_q3_q6, hne_q3_q6.symm, hne_a_q7, hne_a_q7.symm, hne_q1_q7, hne_q1_q7.symm, hne_q2_q7, hne_q2_q7.symm, hne_q3_q7, hne_q3_q7.symm, hne_q6_q7, hne_q6_q7.symm, hne_a_q8, hne_a_q8.symm, hne_q1_q8, hne_q1_q8.symm, hne_q2_q8, hne_q2_q8.symm, hne_q3_q8, hne_q3_q8.symm, hne_q6_q8, hne_q6_q8.symm, hne_q7_q8, hne_q7_q8.symm, hne_a_q11, hne_a_q11.symm, hne_q1_q11, hne_q1_q11.symm, hne_q2_q11, hne_q2_q11.symm, hne_q3_q11, hne_q3_q11.symm, hne_q6_q11, hne_q6_q11.symm, hne_q7_q11, hne_q7_q11.symm, hne_q8_q11, hne_q8_q11.symm, hne_a_q12, hne_a_q12.symm, hne_q1_q12, hne_q1_q12.symm, hne_q2_q12, hne_q2_q12.symm, hne_q3_q12, hne_q3_q12.symm, hne_q6_q12, hne_q6_q12.symm, hne_q7_q12, hne_q7_q12.symm, hne_q8_q12, hne_q8_q12.symm, hne_q11_q12, hne_q11_q12.symm], by simp [zpi_at, zpj_at, zpq_at, zpi_2, zpj_1, zpj_22, zpq_1, zpq_21, zSn_1, zSn_21, zSn_22, hne_a_q1, hne_a_q1.symm, hne_a_q2, hne_a_q2.symm, hne_q1_q2, hne_q1_q2.symm, hne_a_q3, hne_a_q3.symm, hne_q1_q3, hne_q1_q3.symm, hne_q2_q3, hne_q2_q3.symm, hne_a_q6, hne_a_q6.symm, hne_q1_q6, hne_q1_q6.symm, hne_q2_q6, hne_q2_q6.symm, hne_q3_q6, hne_q3_q6.symm, hne_a_q7, hne_a_q7.symm, hne_q1_q7, hne_q1_q7.symm, hne_q2_q7, hne_q2_q7.symm, hne_q3_q7, hne_q3_q7.symm, hne_q6_q7, hne_q6_q7.symm, hne_a_q8, hne_a_q8.symm, hne_q1_q8, hne_q1_q8.symm, hne_q2_q8, hne_q2_q8.symm, hne_q3_q8, hne_q3_q8.symm, hne_q6_q8, hne_q6_q8.symm, hne_q7_q8, hne_q7_q8.symm, hne_a_q11, hne_a_q11.symm, hne_q1_q11, hne_q1_q11.symm, hne_q2_q11, hne_q2_q11.symm, hne_q3_q11, hne_q3_q11.symm, hne_q6_q11, hne_q6_q11.symm, hne_q7_q11, hne_q7_q11.symm, hne_q8_q11, hne_q8_q11.symm, hne_a_q12, hne_a_q12.symm, hne_q1_q12, hne_q1_q12.symm, hne_q2_q12, hne_q2_q12.symm, hne_q3_q12, hne_q3_q12.symm, hne_q6_q12, hne_q6_q12.symm, hne_q7_q12, hne_q7_q12.symm, hne_q8_q12, hne_q8_q12.symm, hne_q11_q12, hne_q11_q12.symm]⟩, ⟨⟨hO_q8, by simp [zpi_at, zpj_at, zpq_at, zpi_2, zpj_1, zpj_22, zpq_1, zpq_21, zSn_1, zSn_21, zSn_22, hne_a_q1, hne_a_q1.symm, hne_a_q2, hne_a_q2.symm, hne_q1_q2, hne_q1_q2.symm, hne_a_q3, hne_a_q3.symm, hne_q1_q3, hne_q1_q3.symm, hne_q2_q3, hne_q2_q3.symm, hne_a_q6, hne_a_q6.symm, hne_q1_q6, hne_q1_q6.symm, hne_q2_q6, hne_q2_q6.symm, hne_q3_q6, hne_q3_q6.symm, hne_a_q7, hne_a_q7.symm, hne_q1_q7, hne_q1_q7.symm, hne_q2_q7, hne_q2_q7.symm, hne_q3_q7, hne_q3_q7.symm, hne_q6_q7, hne_q6_q7.symm, hne_a_q8, hne_a_q8.symm, hne_q1_q8, hne_q1_q8.symm, hne_q2_q8, hne_q2_q8.symm, hne_q3_q8, hne_q3_q8.symm, hne_q6_q8, hne_q6_q8.symm, hne_q7_q8, hne_q7_q8.symm, hne_a_q11, hne_a_q11.symm, hne_q1_q11, hne_q1_q11.symm, hne_q2_q11, hne_q2_q11.symm, hne_q3_q11, hne_q3_q11.symm, hne_q6_q11, hne_q6_q11.symm, hne_q7_q11, hne_q7_q11.symm, hne_q8_q11, hne_q8_q11.symm, hne_a_q12, hne_a_q12.symm, hne_q1_q12, hne_q1_q12.symm, hne_q2_q12, hne_q2_q12.symm, hne_q3_q12, hne_q3_q12.symm, hne_q6_q12, hne_q6_q12.symm, hne_q7_q12, hne_q7_q12.symm, hne_q8_q12, hne_q8_q12.symm, hne_q11_q12, hne_q11_q12.symm], by simp [zpi_at, zpj_at, zpq_at, zpi_2, zpj_1, zpj_22, zpq_1, zpq_21, zSn_1, zSn_21, zSn_22, hne_a_q1, hne_a_q1.symm, hne_a_q2, hne_a_q2.symm, hne_q1_q2, hne_q1_q2.symm, hne_a_q3, hne_a_q3.symm, hne_q1_q3, hne_q1_q3.symm, hne_q2_q3, hne_q2_q3.symm, hne_a_q6, hne_a_q6.symm, hne_q1_q6, hne_q1_q6.symm, hne_q2_q6, hne_q2_q6.symm, hne_q3_q6, hne_q3_q6.symm, hne_a_q7, hne_a_q7.symm, hne_q1_q7, hne_q1_q7.symm, hne_q2_q7, hne_q2_q7.symm, hne_q3_q7, hne_q3_q7.symm, hne_q6_q7, hne_q6_q7.symm, hne_a_q8, hne_a_q8.symm, hne_q1_q8, hne_q1_q8.symm, hne_q2_q8, hne_q2_q8.symm, hne_q3_q8, hne_q3_q8.symm, hne_q6_q8, hne_q6_q8.symm, hne_q7_q8, hne_q7_q8.symm, hne_a_q11, hne_a_q11.symm, hne_q1_q11, hne_q1_q11.symm, hne_q2_q11, hne_q2_q11.symm, hne_q3_q11, hne_q3_q11.symm, hne_q6_q11, hne_q6_q11.symm, hne_q7_q11, hne_q7_q11.symm, hne_q8_q11, hne_q8_q11.symm, hne_a_q12, hne_a_q12.symm, hne_q1_q12, hne_q1_q12.symm, hne_q2_q12, hne_q2_q12.symm, hne_q3_q12, hne_q3_q12.symm, hne_q6_q12, hne_q6_q12.symm, hne_q7_q12, hne_q7_q12.symm, hne_q8_q12, hne_q8_q12.symm, hne_q11_q12, hne_q11_q12.symm], hO_q11, hL_q11, hO_q12, hL_q12⟩, by simp [zpi_at, zpj_at, zpq_at, zpi_2, zpj_1, zpj_22, zpq_1, zpq_21, zSn_1, zSn_21, zSn_22, hne_a_q1, hne_a_q1.symm, hne_a_q2, hne_a_q2.symm, hne_q1_q2, hne_q1_q2.symm, hne_a_q3, hne_a_q3.symm, hne_q1_q3, hne_q1_q3.symm, hne_q2_q3, hne_q2_q3.symm, hne_a_q6, hne_a_q6.symm, hne_q1_q6, hne_q1_q6.symm, hne_q2_q6, hne_q2_q6.symm, hne_q3_q6, hne_q3_q6.symm, hne_a_q7, hne_a_q7.symm, hne_q1_q7, hne_q1_q7.symm, hne_q2_q7, hne_q2_q7.symm, hne_q3_q7, hne_q3_q7.symm, hne_q6_q7, hne_q6_q7.symm, hne_a_q8, hne_a_q8.symm, hne_q1_q8, hne_q1_q8.symm, hne_q2_q8, hne_q2_q8.symm, hne_q3_q8, hne_q3_q8.symm, hne_q6_q8, hne_q6_q8.symm, hne_q7_q8, hne_q7_q8.symm, hne_a_q11, hne_a_q11.symm, hne_q1_q11, hne_q1_q11.symm, hne_q2_q11, hne_q2_q11.symm, hne_q3_q11, hne_q3_q11.symm, hne_q6_q11, hne_q6_q11.symm, hne_q7_q11, hne_q7_q11.symm, hne_q8_q11, hne_q8_q11.symm, hne_a_q12, hne_a_q12.symm, hne_q1_q12, hne_q1_q12.symm, hne_q2_q12, hne_q2_q12.symm, hne_q3_q12, hne_q3_q12.symm, hne_q6_q12, hne_q6_q12.symm, hne_q7_q12, hne_q7_q12.symm, hne_q8_q12, hne_q8_q12.symm, hne_q11_q12, hne_q11_q12.symm]⟩, fun j hj => absurd hj (by omega), fun i j hi => absurd hi (by omega), ?_⟩
    intro z hz
    by_cases c7 : z = q12
    · subst c7; unfold zGn at hz; simp only [va_up_self] at hz; cases hz
    have hz7 : (zGn (zGn (zGn (zGn (zGn (zGn (zGn G q1 11 62) q2 12 8) q3 5 0) q6 8 16) q7 8 16) q8 0 0) q11 9 64).2.1 z = 4 := by have := hz; unfold zGn at this ⊢; simp only [va_up_ne _ _ c7] at this ⊢; exact this
    by_cases c6 : z = q11
    · subst c6; unfold zGn at hz7; simp only [va_up_self] at hz7; cases hz7
    have hz6 : (zGn (zGn (zGn (zGn (zGn (zGn G q1 11 62) q2 12 8) q3 5 0) q6 8 16) q7 8 16) q8 0 0).2.1 z = 4 := by have := hz7; unfold zGn at this ⊢; simp only [va_up_ne _ _ c6] at this ⊢; exact this
    by_cases c5 : z = q8
    · subst c5; unfold zGn at hz6; simp only [va_up_self] at hz6; cases hz6
    have hz5 : (zGn (zGn (zGn (zGn (zGn G q1 11 62) q2 12 8) q3 5 0) q6 8 16) q7 8 16).2.1 z = 4 := by have := hz6; unfold zGn at this ⊢; simp only [va_up_ne _ _ c5] at this ⊢; exact this
    by_cases c4 : z = q7
    · subst c4; unfold zGn at hz5; simp only [va_up_self] at hz5; cases hz5
    have hz4 : (zGn (zGn (zGn (zGn G q1 11 62) q2 12 8) q3 5 0) q6 8 16).2.1 z = 4 := by have := hz5; unfold zGn at this ⊢; simp only [va_up_ne _ _ c4] at this ⊢; exact this
    by_cases c3 : z = q6
    · subst c3; unfold zGn at hz4; simp only [va_up_self] at hz4; cases hz4
    have hz3 : (zGn (zGn (zGn G q1 11 62) q2 12 8) q3 5 0).2.1 z = 4 := by have := hz4; unfold zGn at this ⊢; simp only [va_up_ne _ _ c3] at this ⊢; exact this
    by_cases c2 : z = q3
    · subst c2; unfold zGn at hz3; simp only [va_up_self] at hz3; cases hz3
    have hz2 : (zGn (zGn G q1 11 62) q2 12 8).2.1 z = 4 := by have := hz3; unfold zGn at this ⊢; simp only [va_up_ne _ _ c2] at this ⊢; exact this
    by_cases c1 : z = q2
    · subst c1; unfold zGn at hz2; simp only [va_up_self] at hz2; cases hz2
    have hz1 : (zGn G q1 11 62).2.1 z = 4 := by have := hz2; unfold zGn at this ⊢; simp only [va_up_ne _ _ c1] at this ⊢; exact this
    by_cases c0 : z = q1
    · subst c0; unfold zGn at hz1; simp only [va_up_self] at hz1; cases hz1
    have hz0 : G.2.1 z = 4 := by have := hz1; unfold zGn at this; simp only [va_up_ne _ _ c0] at this; exact this
    have ca : z ≠ a := fun q9 => by rw [q9, hO_a0.2] at hz0; cases hz0
    have h9 := hR0 z hz0
    simp [zpi_at, zpj_at, zpq_at, zpi_2, zpj_1, zpj_22, zpq_1, zpq_21, zSn_1, zSn_21, zSn_22, ca, c0, c1, c2, c3, c4, c5, c6, c7, h9]
  refine W.widen (k := 8 + 3 * 0) (n := 243 + 24 * 0) (by omega) (by omega) ?_
  refine zloopG 8 8 3 243 24 (fun k9 => [(0, .ref a), (1, .int (nI k9))]) (fun k9 G' S' => zMk a q1 q2 q3 q6 q7 q8 q11 q12 k9 G' S') ?_ ?_ 8 0 (zGn (zGn (zGn (zGn (zGn (zGn (zGn (zGn G q1 11 62) q2 12 8) q3 5 0) q6 8 16) q7 8 16) q8 0 0) q11 9 64) q12 9 64) (zpj (zpi (zpi (zpq (zpi (zpq (zSn (zpq (zSn (zSn (zpq (zpi (zpi (zpi (zpi (zpi (zpi (zpi (zpi (zpq (zSn (zpq (zSn (zSn (zpq (zSn (zpq (zSn S q1) a 0 (some q1)) q2) a 1 (some q2)) q3) q6) q3 0 (some q6)) q7) q3 1 (some q7)) q3 2 0) q3 3 (-1)) q3 4 0) q3 5 0) q3 6 0) q3 7 0) q3 8 0) q3 9 0) a 2 (some q3)) q8) q11) q8 0 (some q11)) q12) q8 1 (some q12)) q8 2 0) a 3 (some q8)) a 4 0) a 5 0) a 6 (-1)) H locs ls rfl hmk hP hD hS (lv_sub hl [1, 0] rfl)
  · intro G9 S9 H locs ls hJ9 hP hD hS hl
    have hl : lv_has ls 2 [(0, .ref a), (1, .int (nI 8))] := hl
    have hO_a := hJ9.1.1.1
    have hO_q2 := hJ9.2.1.2.1
    have hL_q2 := hJ9.2.1.2.2
    refine lv_iload_n hx hb dX6_init_63 rfl (lv_at hl 1 rfl) ?_
    refine lv_aload_n hx hb dX6_init_64 rfl (lv_at hl 0 rfl) ?_
    refine zget (ci := 6) (C := RX6) (T := TX6) (N := 7) hx hb hts hi6 hown hK hP hO_a rfl rfl 1 (by decide) (hts (.fieldLink RX6 17 "LinCluster" "nodes" "[LLinCluster$Node;") (by decide +kernel)) (fun _ h9 => h9) (v := .ref q2) (congrArg (fun z => some (va_rf z)) (hJ9.1.1.2.2.1)) dX6_init_65 ?_
    refine znalen (v := 8) hx hb hK hP hO_q2 hL_q2 (by decide) dX6_init_68 ?_
    refine lv_icmp_ge (tgt := 92) hx hb dX6_init_69 (by decide) (fun c13 => ?_) (fun c13 => ?_)
    · skip
      refine W.widen (k := 32) (n := 435) (by omega) (by omega) ?_
      exact W.vret hx hb hr (fun t ht hW => ⟨⟨(G9, S9), rfl, ⟨q1, q2, q3, q6, q7, q8, q11, q12, hJ9⟩, by rw [ht]; exact hP, va_K.moved hW.alike hK, hD⟩, hS.F ht⟩) hS.2.2 dX6_init_92
    · exact absurd (nI_le (a := 8) (b := 8) (Nat.le_refl _) (by omega)) c13
  · intro n8 k9 G9 S9 H locs ls hk9 ih hJ9 hP hD hS hl
    have hl : lv_has ls 2 [(0, .ref a), (1, .int (nI k9))] := hl
    have hO_a := hJ9.1.1.1
    have hO_q2 := hJ9.2.1.2.1
    have hL_q2 := hJ9.2.1.2.2
    refine lv_iload_n hx hb dX6_init_63 rfl (lv_at hl 1 rfl) ?_
    refine lv_aload_n hx hb dX6_init_64 rfl (lv_at hl 0 rfl) ?_
    refine zget (ci := 6) (C := RX6) (T := TX6) (N := 7) hx hb hts hi6 hown hK hP hO_a rfl rfl 1 (by decide) (hts (.fieldLink RX6 17 "LinCluster" "nodes" "[LLinCluster$Node;") (by decide +kernel)) (fun _ h9 => h9) (v := .ref q2) (congrArg (fun z => some (va_rf z)) (hJ9.1.1.2.2.1)) dX6_init_65 ?_
    refine znalen (v := 8) hx hb hK hP hO_q2 hL_q2 (by decide) dX6_init_68 ?_
    refine lv_icmp_ge (tgt := 92) hx hb dX6_init_69 (by decide) (fun c14 => ?_) (fun c14 => ?_)
    · exact absurd c14 (nI_ge (a := k9) (b := 8) (by omega) (by omega))
    · skip
      refine lv_aload_n hx hb dX6_init_72 rfl (lv_at hl 0 rfl) ?_
      refine zget (ci := 6) (C := RX6) (T := TX6) (N := 7) hx hb hts hi6 hown hK hP hO_a rfl rfl 1 (by decide) (hts (.fieldLink RX6 17 "LinCluster" "nodes" "[LLinCluster$Node;") (by decide +kernel)) (fun _ h9 => h9) (v := .ref q2) (congrArg (fun z => some (va_rf z)) (hJ9.1.1.2.2.1)) dX6_init_73 ?_
      refine lv_iload_n hx hb dX6_init_76 rfl (lv_at hl 1 rfl) ?_
      refine znewo (ci := 3) (C := RX3) (T := TX3) (N := 15) (fs := [.int 0, .null, .null, .int 0, .null, .int 0, .int 0, .int 0, .int 0, .int 0, .int 0, .int 0, .int 0, .int 0, .int 0]) hx hb hts hi3 tyX3 tyX3_ok hown (hts (.classLink RX6 15 RX3) (by decide +kernel)) (hts (.instantiable RX3 15) (by decide +kernel)) (hts (.initialized RX3) (by decide +kernel)) hK hP hD hS hA rfl zdef3 rfl (by show _ ≤ _; simp only [headSpec]; omega) (by show _ ≤ _; simp only [headSpec]; omega) dX6_init_77 (fun q15 H hq_q15 hP hD hS => ?_)
      have hne_a_q15 := hO_a.ne hq_q15
      have hO_a := hO_a.gn (kd' := 3) (n := 0) hq_q15
      have hL_q2 := (zGn_len' (hO_q2.ne hq_q15) 3 0).trans hL_q2
      have hne_q2_q15 := hO_q2.ne hq_q15
      have hO_q2 := hO_q2.gn (kd' := 3) (n := 0) hq_q15
      have hO_q15 := zO.nw G9 q15 3 0
      refine lv_dup hx hb dX6_init_80 rfl ?_
      refine lv_iload_n hx hb dX6_init_81 rfl (lv_at hl 1 rfl) ?_
      refine zcallV (va_runI (As := [.int (nI k9)]) (rest := [.ref q15, .int (nI k9), .ref q2]) ⟨hx, hb, hml, hown, hts⟩ (c_X3_init l dC dI cy (zGn G9 q15 3 0) (zSn S9 q15) H.size q15 (nI k9) hO_q15) (cwI 1 hts gX6_init_X3_init rfl rfl rfl (hts (.initialized RX3) (by decide +kernel)) (hts (.methodLink RX6 48 yX3_init) (by decide +kernel)) (hts (.instanceMethod yX3_init) (by decide +kernel)) rfl (by decide +kernel) ⟨Nat.le_of_ble_eq_true rfl, Nat.le_of_ble_eq_true rfl⟩) (zpreS hK hP hD hN) rfl rfl hl.1 rfl (lv_room (Nat.le_of_ble_eq_true rfl)) dX6_init_82 ⟨(by show _ ≤ _; simp only [headSpec]; omega), (by show _ ≤ _; simp only [headSpec]; omega)⟩) hS hD hA (fun u17 H locs hr16 hP hD hS => ?_)
      obtain ⟨q18, q19, hq_q18, hq_q19, rfl⟩ := hr16
      have hne_a_q18 := hO_a.ne hq_q18
      have hO_a := hO_a.gn (kd' := 2) (n := 0) hq_q18
      have hL_q2 := (zGn_len' (hO_q2.ne hq_q18) 2 0).trans hL_q2
      have hne_q2_q18 := hO_q2.ne hq_q18
      have hO_q2 := hO_q2.gn (kd' := 2) (n := 0) hq_q18
      have hne_q15_q18 := hO_q15.ne hq_q18
      have hO_q15 := hO_q15.gn (kd' := 2) (n := 0) hq_q18
      have hO_q18 := zO.nw (zGn G9 q15 3 0) q18 2 0
      have hne_a_q19 := hO_a.ne hq_q19
      have hO_a := hO_a.gn (kd' := 4) (n := 0) hq_q19
      have hL_q2 := (zGn_len' (hO_q2.ne hq_q19) 4 0).trans hL_q2
      have hne_q2_q19 := hO_q2.ne hq_q19
      have hO_q2 := hO_q2.gn (kd' := 4) (n := 0) hq_q19
      have hne_q15_q19 := hO_q15.ne hq_q19
      have hO_q15 := hO_q15.gn (kd' := 4) (n := 0) hq_q19
      have hne_q18_q19 := hO_q18.ne hq_q19
      have hO_q18 := hO_q18.gn (kd' := 4) (n := 0) hq_q19
      have hO_q19 := zO.nw (zGn (zGn G9 q15 3 0) q18 2 0) q19 4 0
      have hP : va_P (dC, dI) vwCl (zW cy (zGn (zGn (zGn G9 q15 3 0) q18 2 0) q19 4 0) (zNi (zSn S9 q15) q15 q18 q19 (nI k9))) H := hP
      have hD : va_D A (zW cy (zGn (zGn (zGn G9 q15 3 0) q18 2 0) q19 4 0) (zNi (zSn S9 q15) q15 q18 q19 (nI k9))) := hD
      refine znast hx hb hK hP hD hS hO_q2 hL_q2 hO_q15 (vp_in_nI (n := k9) (by omega) (by omega)) dX6_init_85 (fun H locs hP hD hS => ?_)
      rw [(nI_clamp (n := k9) (by omega))] at hP hD
      obtain ⟨v20, ev20⟩ : ∃ y : Int32, y = (nI k9) + 1 := ⟨_, rfl⟩
      refine lv_iinc (v := v20) (lv' := [(1, .int v20), (0, .ref a)]) hx hb dX6_init_86 hl (k := 1) rfl (by rw [ev20]; rfl) (by decide) rfl (fun ls hl => ?_)
      refine lv_goto (tgt := 63) hx hb dX6_init_89 (by decide) ?_
      have e9 : v20 = nI (k9 + 1) := by rw [ev20]; exact nI_1 k9
      rw [e9] at hl
      refine W.widen (k := 8 + 3 * (k9 + 1)) (n := 243 + 24 * (k9 + 1)) (by omega) (by omega) ?_
      exact ih _ _ H locs ls (hJ9.step hq_q15 hq_q18 hq_q19) hP hD hS (lv_sub hl [1, 0] rfl)
