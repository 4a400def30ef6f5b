set_option maxHeartbeats 4000000 in
set_option maxRecDepth 100000 in
theorem c_X7_bitTime (l : Launch) (dC : Nat → ClassId) (dI : Nat → Nat → Nat) (cy : Nat → ClassId) (G : zG) (S : zS) (sz : Nat) (mo : Nat) (ad : Nat → Nat) (t8 : Nat) (hM : zM G S mo ad) (hI : zI mo ad S) (ht8 : S.1 mo 33 = nI t8) (hlt8 : t8 < 200000) : Met l yX7_bitTime wsX7_bitTime ({ frames := 5, cells := 0, slots := 0, locals := 115 }) (zP dC dI cy [.ref mo] G S sz) (va_Qv (fun S' => (zC mo ad [7, 8, 16, 17, 18, 19, 20, 21, 22, 23, 24, 25, 26, 27, 28, 29, 30, 31, 32, 38, 39, 40] [33, 34, 35, 36, 37, 41] S S' ∧ zI mo ad S') ∧ S'.1 mo 33 = nI (t8 + 1)) (zB dC dI cy (zA cy G S sz) G) (zA cy G S sz)) 0 0 (zA cy G S sz) := by
  refine Met.ofW (cc := cX7_bitTime) (maxL := 3) (ret := none) (by decide) rfl ?_
  intro p e s m args below meth c s₁ B hml hv
  obtain ⟨rfl, hsz, hP, hK, hD0, hN⟩ := hv
  have hx := B.exec
  have hb := B.bytes
  have hr := B.returns
  have hts := atoms_spec (ws := wsX7_bitTime) B.pre
  have hown : s.vm.findClass RX7 = some m.cls := findClass_of_methodNamed B.named
  have hlocks := B.notSynchronized
  subst hsz
  have hD : va_D (zA cy G S s.heap.size) (zW cy G S) := hD0.self
  generalize hAe : zA cy G S s.heap.size = A at hD ⊢
  have hA : ∀ q : Nat, s.heap.size ≤ q → A q := fun q h => by rw [← hAe]; exact Or.inr h
  have hS : va_S A s.heap s.heap [] := va_S.rf
  have hst := zC.refl mo ad [7, 8, 16, 17, 18, 19, 20, 21, 22, 23, 24, 25, 26, 27, 28, 29, 30, 31, 32, 38, 39, 40] [33, 34, 35, 36, 37, 41] S
  have hl := lv_entry ([.ref mo]) (n := 3) (Nat.le_of_ble_eq_true rfl)
  rw [lg_entry_eq]
  generalize (lg_sl ([.ref mo]) ++ List.replicate (3 - (lg_sl ([.ref mo])).length) Slot.unset).toArray = ls at hl ⊢
  have hl : lv_has ls 3 [(0, .ref mo)] := hl
  have hi7 : ∀ w ∈ wsX70, w ∈ wsX7_bitTime := by decide +kernel
  refine lv_aload_n hx hb dX7_bitTime_0 rfl (lv_at hl 0 rfl) ?_
  refine zcallv (va_runV (As := []) (rest := []) ⟨hx, hb, hml, hown, hts⟩ (c_X7_schedule l dC dI cy G S s.heap.size mo ad  (hM.eq hst.1) hI) (cwV 0 hts gX7_bitTime_X7_schedule rfl rfl rfl (by decide +kernel) ⟨Nat.le_of_ble_eq_true rfl, Nat.le_of_ble_eq_true rfl⟩) (zpreV hK hP hD hN (zrecv7 hK hP hM.1)) rfl rfl hl.1 rfl (lv_room (Nat.le_of_ble_eq_true rfl)) dX7_bitTime_1 ⟨Nat.le_of_ble_eq_true rfl, Nat.le_of_ble_eq_true rfl⟩) hS hD hA (fun S2 H locs hr1 hP hD hS => ?_)
  have hst := hst.trans (hr1.1.mono (by decide) (by decide))
  have hI := hr1.2
  have kn3 := (hr1.1.2.2 33 (by decide)).trans ht8
  refine lv_aload_n hx hb dX7_bitTime_4 rfl (lv_at hl 0 rfl) ?_
  refine zget (ci := 7) (C := RX7) (T := TX7) (N := 42) hx hb hts hi7 hown hK hP hM.1 rfl rfl 34 (by decide) (hts (.fieldLink RX7 104 "LinClusterModel" "slot" "I") (by decide +kernel)) (fun _ h9 => h9) rfl dX7_bitTime_5 ?_
  refine lv_topi (fun v4 ev4 => ?_)
  refine lv_iconst (v := (-1)) hx hb dX7_bitTime_8 (by decide) ?_
  refine lv_icmp_eq (tgt := 42) hx hb dX7_bitTime_9 (by decide) (fun c5 => ?_) (fun c5 => ?_)
  · skip
    refine lv_iconst (v := 1) hx hb dX7_bitTime_42 (by decide) ?_
    refine lv_istore_n (lv' := [(1, .int 1), (0, .ref mo)]) hx hb dX7_bitTime_43 rfl hl (by decide) rfl (fun ls hl => ?_)
    refine lv_iconst (v := 0) hx hb dX7_bitTime_44 (by decide) ?_
    refine lv_istore_n (lv' := [(2, .int 0), (1, .int 1), (0, .ref mo)]) hx hb dX7_bitTime_45 rfl hl (by decide) rfl (fun ls hl => ?_)
    refine zloopW 8 (fun k9 (x9 : Int32) => [(0, .ref mo), (1, .int x9), (2, .int (nI k9))]) (fun _ S' => zC mo ad [7, 8, 16, 17, 18, 19, 20, 21, 22, 23, 24, 25, 26, 27, 28, 29, 30, 31, 32, 38, 39, 40] [33, 34, 35, 36, 37, 41] S S' ∧ zI mo ad S' ∧ S'.1 mo 33 = nI t8) ?_ ?_ 8 0 1 S2 H locs ls rfl ⟨hst, hI, kn3⟩ hP hD hS (lv_sub hl [2, 1, 0] rfl)
    · intro x46 S46_ H locs ls hJ9 hP hD hS hl
      obtain ⟨hst, hI, kt46⟩ := hJ9
      have hl : lv_has ls 3 [(0, .ref mo), (1, .int x46), (2, .int (nI 8))] := hl
      refine lv_iload_n hx hb dX7_bitTime_46 rfl (lv_at hl 2 rfl) ?_
      refine lv_bipush (v := 8) hx hb dX7_bitTime_47 (by decide) ?_
      refine lv_icmp_ge (tgt := 108) hx hb dX7_bitTime_49 (by decide) (fun c6 => ?_) (fun c6 => ?_)
      · skip
        refine lv_iconst (v := 0) hx hb dX7_bitTime_108 (by decide) ?_
        refine lv_istore_n (lv' := [(2, .int 0), (0, .ref mo), (1, .int x46)]) hx hb dX7_bitTime_109 rfl hl (by decide) rfl (fun ls hl => ?_)
        obtain ⟨d8, hd8, ed8⟩ := hI.2.2.2.2
        refine zloopW d8 (fun k9 (_ : Unit) => [(0, .ref mo), (1, .int x46), (2, .int (nI k9))]) (fun _ S' => zC mo ad [7, 8, 16, 17, 18, 19, 20, 21, 22, 23, 24, 25, 26, 27, 28, 29, 30, 31, 32, 38, 39, 40] [33, 34, 35, 36, 37, 41] S S' ∧ zI mo ad S' ∧ S'.1 mo 33 = nI t8 ∧ S'.1 mo 41 = nI d8) ?_ ?_ d8 0 () S46_ H locs ls (Nat.zero_add _) ⟨hst, hI, kt46, ed8⟩ hP hD hS (lv_sub hl [1, 2, 0] rfl)
        · intro x110 S110_ H locs ls hJ9 hP hD hS hl
          obtain ⟨hst, hI, kt110, kd9⟩ := hJ9
          have hl : lv_has ls 3 [(0, .ref mo), (1, .int x46), (2, .int (nI d8))] := hl
          refine lv_iload_n hx hb dX7_bitTime_110 rfl (lv_at hl 2 rfl) ?_
          refine lv_aload_n hx hb dX7_bitTime_111 rfl (lv_at hl 0 rfl) ?_
          refine zget (ci := 7) (C := RX7) (T := TX7) (N := 42) hx hb hts hi7 hown hK hP hM.1 rfl rfl 41 (by decide) (hts (.fieldLink RX7 137 "LinClusterModel" "disturbed" "I") (by decide +kernel)) (fun _ h9 => h9) rfl dX7_bitTime_112 ?_
          refine lv_topi (fun v7 ev7 => ?_)
          obtain rfl : v7 = (nI d8) := ev7.trans kd9
          refine lv_icmp_ge (tgt := 189) hx hb dX7_bitTime_115 (by decide) (fun c8 => ?_) (fun c8 => ?_)
          · skip
            refine lv_aload_n hx hb dX7_bitTime_189 rfl (lv_at hl 0 rfl) ?_
            refine zget (ci := 7) (C := RX7) (T := TX7) (N := 42) hx hb hts hi7 hown hK hP hM.1 rfl rfl 38 (by decide) (hts (.fieldLink RX7 108 "LinClusterModel" "lines" "[I") (by decide +kernel)) (fun _ h9 => h9) (v := .ref (ad 38)) (congrArg (fun z => some (va_rf z)) (((hM.eq hst.1).2.1 38 (by decide)).1)) dX7_bitTime_190 ?_
            refine lv_aload_n hx hb dX7_bitTime_193 rfl (lv_at hl 0 rfl) ?_
            refine zget (ci := 7) (C := RX7) (T := TX7) (N := 42) hx hb hts hi7 hown hK hP hM.1 rfl rfl 33 (by decide) (hts (.fieldLink RX7 128 "LinClusterModel" "time" "I") (by decide +kernel)) (fun _ h9 => h9) rfl dX7_bitTime_194 ?_
            refine lv_topi (fun v9 ev9 => ?_)
            obtain rfl : v9 = (nI t8) := ev9.trans kt110
            refine lv_bipush (v := 64) hx hb dX7_bitTime_197 (by decide) ?_
            refine lv_irem hx hb dX7_bitTime_199 (by decide) ?_
            refine lv_topi (fun v10 ev10 => ?_)
            obtain rfl : v10 = nI (t8 % 64) := ev10.trans (pk_rem (a := t8) (d := 64) (by omega) (by omega) (by omega))
            refine lv_iload_n hx hb dX7_bitTime_200 rfl (lv_at hl 1 rfl) ?_
            refine ziast (x := x46) hx hb hK hP hD hS (hM.2.1 38 (by decide)).2.1 (show G.2.2 (ad 38) = 64 from (hM.2.1 38 (by decide)).2.2) (vp_in_nI (n := (t8 % 64)) (N := 64) (by omega) (by omega)) dX7_bitTime_201 (fun H locs hP hD hS => ?_)
            rw [(nI_clamp (n := (t8 % 64)) (by omega))] at hP hD
            have hst := zC.pa hM hst (k := 38) (by decide) (by decide) (t8 % 64) x46
            have kn11 := zpi_af hM S110_ (k := 38) (by decide) (t8 % 64) x46 (i := 33) kt110
            have kn12 := zpi_af hM S110_ (k := 38) (by decide) (t8 % 64) x46 (i := 41) kd9
            have hI := hI.free hM (k := 38) (by decide) (by decide) (t8 % 64) x46
            have kn13 := zpi_s S110_ (ad 38) (t8 % 64) x46
            refine lv_iconst (v := 0) hx hb dX7_bitTime_202 (by decide) ?_
            refine lv_istore_n (lv' := [(2, .int 0), (0, .ref mo), (1, .int x46)]) hx hb dX7_bitTime_203 rfl hl (by decide) rfl (fun ls hl => ?_)
            refine zloopW 8 (fun k9 (x9 : Int32) => [(0, .ref mo), (1, .int x9), (2, .int (nI k9))]) (fun _ S' => zC mo ad [7, 8, 16, 17, 18, 19, 20, 21, 22, 23, 24, 25, 26, 27, 28, 29, 30, 31, 32, 38, 39, 40] [33, 34, 35, 36, 37, 41] S S' ∧ zI mo ad S' ∧ S'.1 mo 33 = nI t8) ?_ ?_ 8 0 x46 (zpi S110_ (ad 38) (t8 % 64) x46) H locs ls rfl ⟨hst, hI, kn11⟩ hP hD hS (lv_sub hl [1, 2, 0] rfl)
            · intro x204 S204_ H locs ls hJ9 hP hD hS hl
              obtain ⟨hst, hI, kt204⟩ := hJ9
              have hl : lv_has ls 3 [(0, .ref mo), (1, .int x204), (2, .int (nI 8))] := hl
              refine lv_iload_n hx hb dX7_bitTime_204 rfl (lv_at hl 2 rfl) ?_
              refine lv_bipush (v := 8) hx hb dX7_bitTime_205 (by decide) ?_
              refine lv_icmp_ge (tgt := 222) hx hb dX7_bitTime_207 (by decide) (fun c14 => ?_) (fun c14 => ?_)
              · skip
                refine lv_aload_n hx hb dX7_bitTime_222 rfl (lv_at hl 0 rfl) ?_
                refine lv_dup hx hb dX7_bitTime_223 rfl ?_
                refine zget (ci := 7) (C := RX7) (T := TX7) (N := 42) hx hb hts hi7 hown hK hP hM.1 rfl rfl 33 (by decide) (hts (.fieldLink RX7 128 "LinClusterModel" "time" "I") (by decide +kernel)) (fun _ h9 => h9) rfl dX7_bitTime_224 ?_
                refine lv_topi (fun v15 ev15 => ?_)
                obtain rfl : v15 = (nI t8) := ev15.trans kt204
                refine lv_iconst (v := 1) hx hb dX7_bitTime_227 (by decide) ?_
                refine lv_iadd hx hb dX7_bitTime_228 ?_
                refine lv_topi (fun v16 ev16 => ?_)
                obtain rfl : v16 = nI (t8 + 1) := ev16.trans (nI_add t8 1)
                refine zputi (ci := 7) (v := (nI (t8 + 1))) (ty := .int) (C := RX7) (T := TX7) (N := 42) hx hb hts hi7 tyX7 tyX7_ok nmX7 hown hK hP hD hS hM.1 rfl rfl 33 (by decide) (hts (.fieldLink RX7 128 "LinClusterModel" "time" "I") (by decide +kernel)) (fun _ h9 => h9) rfl (by decide +kernel) rfl rfl (Nat.le_of_ble_eq_true rfl) rfl dX7_bitTime_229 (fun H locs hP hD hS => ?_)
                have hst := zC.pf hM hst (k := 33) (by decide) (nI (t8 + 1))
                have hI := hI.time hM (q := t8 + 1) (by omega)
                have kn17 := zpi_s S204_ mo 33 (nI (t8 + 1))
                exact W.vret hx hb hr (fun t ht hW => ⟨⟨(zpi S204_ mo 33 (nI (t8 + 1))), rfl, ⟨⟨hst, hI⟩, kn17⟩, by rw [ht]; exact hP, va_K.moved hW.alike hK, hD⟩, hS.F ht⟩) hS.2.2 dX7_bitTime_232
              · exact absurd (nI_le (a := 8) (b := 8) (Nat.le_refl _) (by omega)) c14
            · intro n204 k204 x204 S204_ H locs ls hk204 ih hJ9 hP hD hS hl
              obtain ⟨hst, hI, kt204⟩ := hJ9
              have hl : lv_has ls 3 [(0, .ref mo), (1, .int x204), (2, .int (nI k204))] := hl
              refine lv_iload_n hx hb dX7_bitTime_204 rfl (lv_at hl 2 rfl) ?_
              refine lv_bipush (v := 8) hx hb dX7_bitTime_205 (by decide) ?_
              refine lv_icmp_ge (tgt := 222) hx hb dX7_bitTime_207 (by decide) (fun c18 => ?_) (fun c18 => ?_)
              · exact absurd c18 (nI_ge (a := k204) (b := 8) (by omega) (by omega))
              · skip
                refine lv_aload_n hx hb dX7_bitTime_210 rfl (lv_at hl 0 rfl) ?_
                refine lv_iload_n hx hb dX7_bitTime_211 rfl (lv_at hl 2 rfl) ?_
                refine lv_iload_n hx hb dX7_bitTime_212 rfl (lv_at hl 1 rfl) ?_
                refine zcallv (va_runV (As := [.int (nI k204), .int x204]) (rest := []) ⟨hx, hb, hml, hown, hts⟩ (c_X7_look l dC dI cy G S204_ H.size mo ad k204 x204 (hM.eq hst.1) hI (by omega)) (cwV 2 hts gX7_bitTime_X7_look rfl rfl rfl (by decide +kernel) ⟨Nat.le_of_ble_eq_true rfl, Nat.le_of_ble_eq_true rfl⟩) (zpreV hK hP hD hN (zrecv7 hK hP hM.1)) rfl rfl hl.1 rfl (lv_room (Nat.le_of_ble_eq_true rfl)) dX7_bitTime_213 ⟨Nat.le_of_ble_eq_true rfl, Nat.le_of_ble_eq_true rfl⟩) hS hD hA (fun S20 H locs hr19 hP hD hS => ?_)
                have hst := hst.trans (hr19.1.mono (by decide) (by decide))
                have hI := hr19.2
                have kn21 := (hr19.1.2.2 33 (by decide)).trans kt204
                obtain ⟨v22, ev22⟩ : ∃ y : Int32, y = (nI k204) + 1 := ⟨_, rfl⟩
                refine lv_iinc (v := v22) (lv' := [(2, .int v22), (0, .ref mo), (1, .int x204)]) hx hb dX7_bitTime_216 hl (k := 2) rfl (by rw [ev22]; rfl) (by decide) rfl (fun ls hl => ?_)
                refine lv_goto (tgt := 204) hx hb dX7_bitTime_219 (by decide) ?_
                have e9 : v22 = nI (k204 + 1) := by rw [ev22]; exact nI_1 k204
                rw [e9] at hl
                exact ih x204 S20 H locs ls ⟨hst, hI, kn21⟩ hP hD hS (lv_sub hl [1, 2, 0] rfl)
          · exact absurd (nI_le (a := d8) (b := d8) (Nat.le_refl _) (by omega)) c8
        · intro n110 k110 x110 S110_ H locs ls hk110 ih hJ9 hP hD hS hl
          obtain ⟨hst, hI, kt110, kd9⟩ := hJ9
          have hl : lv_has ls 3 [(0, .ref mo), (1, .int x46), (2, .int (nI k110))] := hl
          obtain ⟨d7, rfl⟩ : ∃ d7, d8 = d7 + 1 := ⟨d8 - 1, by omega⟩
          refine lv_iload_n hx hb dX7_bitTime_110 rfl (lv_at hl 2 rfl) ?_
          refine lv_aload_n hx hb dX7_bitTime_111 rfl (lv_at hl 0 rfl) ?_
          refine zget (ci := 7) (C := RX7) (T := TX7) (N := 42) hx hb hts hi7 hown hK hP hM.1 rfl rfl 41 (by decide) (hts (.fieldLink RX7 137 "LinClusterModel" "disturbed" "I") (by decide +kernel)) (fun _ h9 => h9) rfl dX7_bitTime_112 ?_
          refine lv_topi (fun v23 ev23 => ?_)
          obtain rfl : v23 = (nI (d7 + 1)) := ev23.trans kd9
          refine lv_icmp_ge (tgt := 189) hx hb dX7_bitTime_115 (by decide) (fun c24 => ?_) (fun c24 => ?_)
          · exact absurd c24 (nI_ge (a := k110) (b := d7 + 1) (by omega) (by omega))
          · skip
            refine lv_aload_n hx hb dX7_bitTime_118 rfl (lv_at hl 0 rfl) ?_
            refine zget (ci := 7) (C := RX7) (T := TX7) (N := 42) hx hb hts hi7 hown hK hP hM.1 rfl rfl 39 (by decide) (hts (.fieldLink RX7 111 "LinClusterModel" "disturbedAt" "[I") (by decide +kernel)) (fun _ h9 => h9) (v := .ref (ad 39)) (congrArg (fun z => some (va_rf z)) (((hM.eq hst.1).2.1 39 (by decide)).1)) dX7_bitTime_119 ?_
            refine lv_iload_n hx hb dX7_bitTime_122 rfl (lv_at hl 2 rfl) ?_
            refine ziald hx hb hK hP (hM.2.1 39 (by decide)).2.1 (show G.2.2 (ad 39) = 200 from (hM.2.1 39 (by decide)).2.2) (vp_in_nI (n := k110) (N := 200) (by omega) (by omega)) dX7_bitTime_123 ?_
            refine lv_topi (fun v25 ev25 => ?_)
            rw [(nI_clamp (n := k110) (by omega))] at ev25
            refine lv_aload_n hx hb dX7_bitTime_124 rfl (lv_at hl 0 rfl) ?_
            refine zget (ci := 7) (C := RX7) (T := TX7) (N := 42) hx hb hts hi7 hown hK hP hM.1 rfl rfl 33 (by decide) (hts (.fieldLink RX7 128 "LinClusterModel" "time" "I") (by decide +kernel)) (fun _ h9 => h9) rfl dX7_bitTime_125 ?_
            refine lv_topi (fun v26 ev26 => ?_)
            obtain rfl : v26 = (nI t8) := ev26.trans kt110
            refine lv_icmp_ne (tgt := 183) hx hb dX7_bitTime_128 (by decide) (fun c27 => ?_) (fun c27 => ?_)
            · skip
              obtain ⟨v28, ev28⟩ : ∃ y : Int32, y = (nI k110) + 1 := ⟨_, rfl⟩
              refine lv_iinc (v := v28) (lv' := [(2, .int v28), (0, .ref mo), (1, .int x46)]) hx hb dX7_bitTime_183 hl (k := 2) rfl (by rw [ev28]; rfl) (by decide) rfl (fun ls hl => ?_)
              refine lv_goto (tgt := 110) hx hb dX7_bitTime_186 (by decide) ?_
              have e9 : v28 = nI (k110 + 1) := by rw [ev28]; exact nI_1 k110
              rw [e9] at hl
              exact ih () S110_ H locs ls ⟨hst, hI, kt110, kd9⟩ hP hD hS (lv_sub hl [1, 2, 0] rfl)
            · skip
              refine lv_aload_n hx hb dX7_bitTime_131 rfl (lv_at hl 0 rfl) ?_
              refine zget (ci := 7) (C := RX7) (T := TX7) (N := 42) hx hb hts hi7 hown hK hP hM.1 rfl rfl 40 (by decide) (hts (.fieldLink RX7 114 "LinClusterModel" "disturbedTo" "[I") (by decide +kernel)) (fun _ h9 => h9) (v := .ref (ad 40)) (congrArg (fun z => some (va_rf z)) (((hM.eq hst.1).2.1 40 (by decide)).1)) dX7_bitTime_132 ?_
              refine lv_iload_n hx hb dX7_bitTime_135 rfl (lv_at hl 2 rfl) ?_
              refine ziald hx hb hK hP (hM.2.1 40 (by decide)).2.1 (show G.2.2 (ad 40) = 200 from (hM.2.1 40 (by decide)).2.2) (vp_in_nI (n := k110) (N := 200) (by omega) (by omega)) dX7_bitTime_136 ?_
              refine lv_topi (fun v29 ev29 => ?_)
              rw [(nI_clamp (n := k110) (by omega))] at ev29
              refine lv_istore_n (lv' := [(1, .int v29), (0, .ref mo), (2, .int (nI k110))]) hx hb dX7_bitTime_137 rfl hl (by decide) rfl (fun ls hl => ?_)
              refine lv_aload_n hx hb dX7_bitTime_138 rfl (lv_at hl 1 rfl) ?_
              refine lv_dup hx hb dX7_bitTime_139 rfl ?_
              refine zget (ci := 7) (C := RX7) (T := TX7) (N := 42) hx hb hts hi7 hown hK hP hM.1 rfl rfl 41 (by decide) (hts (.fieldLink RX7 137 "LinClusterModel" "disturbed" "I") (by decide +kernel)) (fun _ h9 => h9) rfl dX7_bitTime_140 ?_
              refine lv_topi (fun v30 ev30 => ?_)
              obtain rfl : v30 = (nI (d7 + 1)) := ev30.trans kd9
              refine lv_iconst (v := 1) hx hb dX7_bitTime_143 (by decide) ?_
              refine lv_isub hx hb dX7_bitTime_144 ?_
              refine lv_topi (fun v31 ev31 => ?_)
              obtain rfl : v31 = nI d7 := ev31.trans (nI_pred d7)
              refine zputi (ci := 7) (v := (nI d7)) (ty := .int) (C := RX7) (T := TX7) (N := 42) hx hb hts hi7 tyX7 tyX7_ok nmX7 hown hK hP hD hS hM.1 rfl rfl 41 (by decide) (hts (.fieldLink RX7 137 "LinClusterModel" "disturbed" "I") (by decide +kernel)) (fun _ h9 => h9) rfl (by decide +kernel) rfl rfl (Nat.le_of_ble_eq_true rfl) rfl dX7_bitTime_145 (fun H locs hP hD hS => ?_)
              have hst := zC.pf hM hst (k := 41) (by decide) (nI d7)
              have kn32 := zpi_ff S110_ mo 41 (nI d7) (i := 33) (by decide) kt110
              have hI := hI.dist hM (q := d7) (by omega)
              have kn33 := zpi_s S110_ mo 41 (nI d7)
              refine lv_aload_n hx hb dX7_bitTime_148 rfl (lv_at hl 1 rfl) ?_
              refine zget (ci := 7) (C := RX7) (T := TX7) (N := 42) hx hb hts hi7 hown hK hP hM.1 rfl rfl 39 (by decide) (hts (.fieldLink RX7 111 "LinClusterModel" "disturbedAt" "[I") (by decide +kernel)) (fun _ h9 => h9) (v := .ref (ad 39)) (congrArg (fun z => some (va_rf z)) (((hM.eq hst.1).2.1 39 (by decide)).1)) dX7_bitTime_149 ?_
              refine lv_iload_n hx hb dX7_bitTime_152 rfl (lv_at hl 2 rfl) ?_
              refine lv_aload_n hx hb dX7_bitTime_153 rfl (lv_at hl 1 rfl) ?_
              refine zget (ci := 7) (C := RX7) (T := TX7) (N := 42) hx hb hts hi7 hown hK hP hM.1 rfl rfl 39 (by decide) (hts (.fieldLink RX7 111 "LinClusterModel" "disturbedAt" "[I") (by decide +kernel)) (fun _ h9 => h9) (v := .ref (ad 39)) (congrArg (fun z => some (va_rf z)) (((hM.eq hst.1).2.1 39 (by decide)).1)) dX7_bitTime_154 ?_
              refine lv_aload_n hx hb dX7_bitTime_157 rfl (lv_at hl 1 rfl) ?_
              refine zget (ci := 7) (C := RX7) (T := TX7) (N := 42) hx hb hts hi7 hown hK hP hM.1 rfl rfl 41 (by decide) (hts (.fieldLink RX7 137 "LinClusterModel" "disturbed" "I") (by decide +kernel)) (fun _ h9 => h9) rfl dX7_bitTime_158 ?_
              refine lv_topi (fun v34 ev34 => ?_)
              obtain rfl : v34 = (nI d7) := ev34.trans kn33
              refine ziald hx hb hK hP (hM.2.1 39 (by decide)).2.1 (show G.2.2 (ad 39) = 200 from (hM.2.1 39 (by decide)).2.2) (vp_in_nI (n := d7) (N := 200) (by omega) (by omega)) dX7_bitTime_161 ?_
              refine lv_topi (fun v35 ev35 => ?_)
              rw [(nI_clamp (n := d7) (by omega))] at ev35
              refine ziast (x := v35) hx hb hK hP hD hS (hM.2.1 39 (by decide)).2.1 (show G.2.2 (ad 39) = 200 from (hM.2.1 39 (by decide)).2.2) (vp_in_nI (n := k110) (N := 200) (by omega) (by omega)) dX7_bitTime_162 (fun H locs hP hD hS => ?_)
              rw [(nI_clamp (n := k110) (by omega))] at hP hD
              have hst := zC.pa hM hst (k := 39) (by decide) (by decide) k110 v35
              have kn36 := zpi_af hM (zpi S110_ mo 41 (nI d7)) (k := 39) (by decide) k110 v35 (i := 33) kn32
              have kn37 := zpi_af hM (zpi S110_ mo 41 (nI d7)) (k := 39) (by decide) k110 v35 (i := 41) kn33
              have hI := hI.free hM (k := 39) (by decide) (by decide) k110 v35
              have kn38 := zpi_s (zpi S110_ mo 41 (nI d7)) (ad 39) k110 v35
              refine lv_aload_n hx hb dX7_bitTime_163 rfl (lv_at hl 1 rfl) ?_
              refine zget (ci := 7) (C := RX7) (T := TX7) (N := 42) hx hb hts hi7 hown hK hP hM.1 rfl rfl 40 (by decide) (hts (.fieldLink RX7 114 "LinClusterModel" "disturbedTo" "[I") (by decide +kernel)) (fun _ h9 => h9) (v := .ref (ad 40)) (congrArg (fun z => some (va_rf z)) (((hM.eq hst.1).2.1 40 (by decide)).1)) dX7_bitTime_164 ?_
              refine lv_iload_n hx hb dX7_bitTime_167 rfl (lv_at hl 2 rfl) ?_
              refine lv_aload_n hx hb dX7_bitTime_168 rfl (lv_at hl 1 rfl) ?_
              refine zget (ci := 7) (C := RX7) (T := TX7) (N := 42) hx hb hts hi7 hown hK hP hM.1 rfl rfl 40 (by decide) (hts (.fieldLink RX7 114 "LinClusterModel" "disturbedTo" "[I") (by decide +kernel)) (fun _ h9 => h9) (v := .ref (ad 40)) (congrArg (fun z => some (va_rf z)) (((hM.eq hst.1).2.1 40 (by decide)).1)) dX7_bitTime_169 ?_
              refine lv_aload_n hx hb dX7_bitTime_172 rfl (lv_at hl 1 rfl) ?_
              refine zget (ci := 7) (C := RX7) (T := TX7) (N := 42) hx hb hts hi7 hown hK hP hM.1 rfl rfl 41 (by decide) (hts (.fieldLink RX7 137 "LinClusterModel" "disturbed" "I") (by decide +kernel)) (fun _ h9 => h9) rfl dX7_bitTime_173 ?_
              refine lv_topi (fun v39 ev39 => ?_)
              obtain rfl : v39 = (nI d7) := ev39.trans kn37
              refine ziald hx hb hK hP (hM.2.1 40 (by decide)).2.1 (show G.2.2 (ad 40) = 200 from (hM.2.1 40 (by decide)).2.2) (vp_in_nI (n := d7) (N := 200) (by omega) (by omega)) dX7_bitTime_176 ?_
              refine lv_topi (fun v40 ev40 => ?_)
              rw [(nI_clamp (n := d7) (by omega))] at ev40
              refine ziast (x := v40) hx hb hK hP hD hS (hM.2.1 40 (by decide)).2.1 (show G.2.2 (ad 40) = 200 from (hM.2.1 40 (by decide)).2.2) (vp_in_nI (n := k110) (N := 200) (by omega) (by omega)) dX7_bitTime_177 (fun H locs hP hD hS => ?_)
              rw [(nI_clamp (n := k110) (by omega))] at hP hD
              have hst := zC.pa hM hst (k := 40) (by decide) (by decide) k110 v40
              have kn41 := zpi_af hM (zpi (zpi S110_ mo 41 (nI d7)) (ad 39) k110 v35) (k := 40) (by decide) k110 v40 (i := 33) kn36
              have kn42 := zpi_af hM (zpi (zpi S110_ mo 41 (nI d7)) (ad 39) k110 v35) (k := 40) (by decide) k110 v40 (i := 41) kn37
              have kn43 := zpi_o hM (zpi (zpi S110_ mo 41 (nI d7)) (ad 39) k110 v35) (i := 39) (k := 40) (by decide) (by decide) (by decide) k110 v40 kn38
              have hI := hI.free hM (k := 40) (by decide) (by decide) k110 v40
              have kn44 := zpi_s (zpi (zpi S110_ mo 41 (nI d7)) (ad 39) k110 v35) (ad 40) k110 v40
              refine lv_aload_n hx hb dX7_bitTime_178 rfl (lv_at hl 1 rfl) ?_
              refine zget (ci := 7) (C := RX7) (T := TX7) (N := 42) hx hb hts hi7 hown hK hP hM.1 rfl rfl 41 (by decide) (hts (.fieldLink RX7 137 "LinClusterModel" "disturbed" "I") (by decide +kernel)) (fun _ h9 => h9) rfl dX7_bitTime_179 ?_
              refine lv_topi (fun v45 ev45 => ?_)
              obtain rfl : v45 = (nI d7) := ev45.trans kn42
              refine lv_istore_n (lv' := [(2, .int (nI d7)), (1, .int v29), (0, .ref mo)]) hx hb dX7_bitTime_182 rfl hl (by decide) rfl (fun ls hl => ?_)
              obtain ⟨v46, ev46⟩ : ∃ y : Int32, y = (nI d7) + 1 := ⟨_, rfl⟩
              refine lv_iinc (v := v46) (lv' := [(2, .int v46), (1, .int v29), (0, .ref mo)]) hx hb dX7_bitTime_183 hl (k := 0) rfl (by rw [ev46]; rfl) (by decide) rfl (fun ls hl => ?_)
              refine lv_goto (tgt := 110) hx hb dX7_bitTime_186 (by decide) ?_
              have e9 : v46 = nI (d7 + 1) := by rw [ev46]; exact nI_1 d7
              rw [e9] at hl
              have hl : lv_has ls 3 [(2, .int (nI (d7 + 1))), (1, .int v29), (0, .ref mo)] := hl
              refine lv_iload_n hx hb dX7_bitTime_110 rfl (lv_at hl 0 rfl) ?_
              refine lv_aload_n hx hb dX7_bitTime_111 rfl (lv_at hl 2 rfl) ?_
              refine zget (ci := 7) (C := RX7) (T := TX7) (N := 42) hx hb hts hi7 hown hK hP hM.1 rfl rfl 41 (by decide) (hts (.fieldLink RX7 137 "LinClusterModel" "disturbed" "I") (by decide +kernel)) (fun _ h9 => h9) rfl dX7_bitTime_112 ?_
              refine lv_topi (fun v47 ev47 => ?_)
              obtain rfl : v47 = (nI d7) := ev47.trans kn42
              refine lv_icmp_ge (tgt := 189) hx hb dX7_bitTime_115 (by decide) (fun c48 => ?_) (fun c48 => ?_)
              · skip
                refine lv_aload_n hx hb dX7_bitTime_189 rfl (lv_at hl 2 rfl) ?_
                refine zget (ci := 7) (C := RX7) (T := TX7) (N := 42) hx hb hts hi7 hown hK hP hM.1 rfl rfl 38 (by decide) (hts (.fieldLink RX7 108 "LinClusterModel" "lines" "[I") (by decide +kernel)) (fun _ h9 => h9) (v := .ref (ad 38)) (congrArg (fun z => some (va_rf z)) (((hM.eq hst.1).2.1 38 (by decide)).1)) dX7_bitTime_190 ?_
                refine lv_aload_n hx hb dX7_bitTime_193 rfl (lv_at hl 2 rfl) ?_
                refine zget (ci := 7) (C := RX7) (T := TX7) (N := 42) hx hb hts hi7 hown hK hP hM.1 rfl rfl 33 (by decide) (hts (.fieldLink RX7 128 "LinClusterModel" "time" "I") (by decide +kernel)) (fun _ h9 => h9) rfl dX7_bitTime_194 ?_
                refine lv_topi (fun v49 ev49 => ?_)
                obtain rfl : v49 = (nI t8) := ev49.trans kn41
                refine lv_bipush (v := 64) hx hb dX7_bitTime_197 (by decide) ?_
                refine lv_irem hx hb dX7_bitTime_199 (by decide) ?_
                refine lv_topi (fun v50 ev50 => ?_)
                obtain rfl : v50 = nI (t8 % 64) := ev50.trans (pk_rem (a := t8) (d := 64) (by omega) (by omega) (by omega))
                refine lv_iload_n hx hb dX7_bitTime_200 rfl (lv_at hl 1 rfl) ?_
                refine ziast (x := v29) hx hb hK hP hD hS (hM.2.1 38 (by decide)).2.1 (show G.2.2 (ad 38) = 64 from (hM.2.1 38 (by decide)).2.2) (vp_in_nI (n := (t8 % 64)) (N := 64) (by omega) (by omega)) dX7_bitTime_201 (fun H locs hP hD hS => ?_)
                rw [(nI_clamp (n := (t8 % 64)) (by omega))] at hP hD
                have hst := zC.pa hM hst (k := 38) (by decide) (by decide) (t8 % 64) v29
                have kn51 := zpi_af hM (zpi (zpi (zpi S110_ mo 41 (nI d7)) (ad 39) k110 v35) (ad 40) k110 v40) (k := 38) (by decide) (t8 % 64) v29 (i := 33) kn41
                have kn52 := zpi_af hM (zpi (zpi (zpi S110_ mo 41 (nI d7)) (ad 39) k110 v35) (ad 40) k110 v40) (k := 38) (by decide) (t8 % 64) v29 (i := 41) kn42
                have kn53 := zpi_o hM (zpi (zpi (zpi S110_ mo 41 (nI d7)) (ad 39) k110 v35) (ad 40) k110 v40) (i := 39) (k := 38) (by decide) (by decide) (by decide) (t8 % 64) v29 kn43
                have kn54 := zpi_o hM (zpi (zpi (zpi S110_ mo 41 (nI d7)) (ad 39) k110 v35) (ad 40) k110 v40) (i := 40) (k := 38) (by decide) (by decide) (by decide) (t8 % 64) v29 kn44
                have hI := hI.free hM (k := 38) (by decide) (by decide) (t8 % 64) v29
                have kn55 := zpi_s (zpi (zpi (zpi S110_ mo 41 (nI d7)) (ad 39) k110 v35) (ad 40) k110 v40) (ad 38) (t8 % 64) v29
                refine lv_iconst (v := 0) hx hb dX7_bitTime_202 (by decide) ?_
                refine lv_istore_n (lv' := [(2, .int 0), (1, .int v29), (0, .ref mo)]) hx hb dX7_bitTime_203 rfl hl (by decide) rfl (fun ls hl => ?_)
                refine zloopW 8 (fun k9 (x9 : Int32) => [(0, .ref mo), (1, .int x9), (2, .int (nI k9))]) (fun _ S' => zC mo ad [7, 8, 16, 17, 18, 19, 20, 21, 22, 23, 24, 25, 26, 27, 28, 29, 30, 31, 32, 38, 39, 40] [33, 34, 35, 36, 37, 41] S S' ∧ zI mo ad S' ∧ S'.1 mo 33 = nI t8) ?_ ?_ 8 0 v29 (zpi (zpi (zpi (zpi S110_ mo 41 (nI d7)) (ad 39) k110 v35) (ad 40) k110 v40) (ad 38) (t8 % 64) v29) H locs ls rfl ⟨hst, hI, kn51⟩ hP hD hS (lv_sub hl [2, 1, 0] rfl)
                · intro x204 S204_ H locs ls hJ9 hP hD hS hl
                  obtain ⟨hst, hI, kt204⟩ := hJ9
                  have hl : lv_has ls 3 [(0, .ref mo), (1, .int x204), (2, .int (nI 8))] := hl
                  refine lv_iload_n hx hb dX7_bitTime_204 rfl (lv_at hl 2 rfl) ?_
                  refine lv_bipush (v := 8) hx hb dX7_bitTime_205 (by decide) ?_
                  refine lv_icmp_ge (tgt := 222) hx hb dX7_bitTime_207 (by decide) (fun c56 => ?_) (fun c56 => ?_)
                  · skip
                    refine lv_aload_n hx hb dX7_bitTime_222 rfl (lv_at hl 0 rfl) ?_
                    refine lv_dup hx hb dX7_bitTime_223 rfl ?_
                    refine zget (ci := 7) (C := RX7) (T := TX7) (N := 42) hx hb hts hi7 hown hK hP hM.1 rfl rfl 33 (by decide) (hts (.fieldLink RX7 128 "LinClusterModel" "time" "I") (by decide +kernel)) (fun _ h9 => h9) rfl dX7_bitTime_224 ?_
                    refine lv_topi (fun v57 ev57 => ?_)
                    obtain rfl : v57 = (nI t8) := ev57.trans kt204
                    refine lv_iconst (v := 1) hx hb dX7_bitTime_227 (by decide) ?_
                    refine lv_iadd hx hb dX7_bitTime_228 ?_
                    refine lv_topi (fun v58 ev58 => ?_)
                    obtain rfl : v58 = nI (t8 + 1) := ev58.trans (nI_add t8 1)
                    refine zputi (ci := 7) (v := (nI (t8 + 1))) (ty := .int) (C := RX7) (T := TX7) (N := 42) hx hb hts hi7 tyX7 tyX7_ok nmX7 hown hK hP hD hS hM.1 rfl rfl 33 (by decide) (hts (.fieldLink RX7 128 "LinClusterModel" "time" "I") (by decide +kernel)) (fun _ h9 => h9) rfl (by decide +kernel) rfl rfl (Nat.le_of_ble_eq_true rfl) rfl dX7_bitTime_229 (fun H locs hP hD hS => ?_)
                    have hst := zC.pf hM hst (k := 33) (by decide) (nI (t8 + 1))
                    have hI := hI.time hM (q := t8 + 1) (by omega)
                    have kn59 := zpi_s S204_ mo 33 (nI (t8 + 1))
                    exact W.vret hx hb hr (fun t ht hW => ⟨⟨(zpi S204_ mo 33 (nI (t8 + 1))), rfl, ⟨⟨hst, hI⟩, kn59⟩, by rw [ht]; exact hP, va_K.moved hW.alike hK, hD⟩, hS.F ht⟩) hS.2.2 dX7_bitTime_232
                  · exact absurd (nI_le (a := 8) (b := 8) (Nat.le_refl _) (by omega)) c56
                · intro n204 k204 x204 S204_ H locs ls hk204 ih hJ9 hP hD hS hl
                  obtain ⟨hst, hI, kt204⟩ := hJ9
                  have hl : lv_has ls 3 [(0, .ref mo), (1, .int x204), (2, .int (nI k204))] := hl
                  refine lv_iload_n hx hb dX7_bitTime_204 rfl (lv_at hl 2 rfl) ?_
                  refine lv_bipush (v := 8) hx hb dX7_bitTime_205 (by decide) ?_
                  refine lv_icmp_ge (tgt := 222) hx hb dX7_bitTime_207 (by decide) (fun c60 => ?_) (fun c60 => ?_)
                  · exact absurd c60 (nI_ge (a := k204) (b := 8) (by omega) (by omega))
                  · skip
                    refine lv_aload_n hx hb dX7_bitTime_210 rfl (lv_at hl 0 rfl) ?_
                    refine lv_iload_n hx hb dX7_bitTime_211 rfl (lv_at hl 2 rfl) ?_
                    refine lv_iload_n hx hb dX7_bitTime_212 rfl (lv_at hl 1 rfl) ?_
                    refine zcallv (va_runV (As := [.int (nI k204), .int x204]) (rest := []) ⟨hx, hb, hml, hown, hts⟩ (c_X7_look l dC dI cy G S204_ H.size mo ad k204 x204 (hM.eq hst.1) hI (by omega)) (cwV 2 hts gX7_bitTime_X7_look rfl rfl rfl (by decide +kernel) ⟨Nat.le_of_ble_eq_true rfl, Nat.le_of_ble_eq_true rfl⟩) (zpreV hK hP hD hN (zrecv7 hK hP hM.1)) rfl rfl hl.1 rfl (lv_room (Nat.le_of_ble_eq_true rfl)) dX7_bitTime_213 ⟨Nat.le_of_ble_eq_true rfl, Nat.le_of_ble_eq_true rfl⟩) hS hD hA (fun S62 H locs hr61 hP hD hS => ?_)
                    have hst := hst.trans (hr61.1.mono (by decide) (by decide))
                    have hI := hr61.2
                    have kn63 := (hr61.1.2.2 33 (by decide)).trans kt204
                    obtain ⟨v64, ev64⟩ : ∃ y : Int32, y = (nI k204) + 1 := ⟨_, rfl⟩
                    refine lv_iinc (v := v64) (lv' := [(2, .int v64), (0, .ref mo), (1, .int x204)]) hx hb dX7_bitTime_216 hl (k := 2) rfl (by rw [ev64]; rfl) (by decide) rfl (fun ls hl => ?_)
                    refine lv_goto (tgt := 204) hx hb dX7_bitTime_219 (by decide) ?_
                    have e9 : v64 = nI (k204 + 1) := by rw [ev64]; exact nI_1 k204
                    rw [e9] at hl
                    exact ih x204 S62 H locs ls ⟨hst, hI, kn63⟩ hP hD hS (lv_sub hl [1, 2, 0] rfl)
              · exact absurd (nI_le (a := d7) (b := d7 + 1) (by omega) (by omega)) c48
      · exact absurd (nI_le (a := 8) (b := 8) (Nat.le_refl _) (by omega)) c6
    · intro n46 k46 x46 S46_ H locs ls hk46 ih hJ9 hP hD hS hl
      obtain ⟨hst, hI, kt46⟩ := hJ9
      have hl : lv_has ls 3 [(0, .ref mo), (1, .int x46), (2, .int (nI k46))] := hl
      refine lv_iload_n hx hb dX7_bitTime_46 rfl (lv_at hl 2 rfl) ?_
      refine lv_bipush (v := 8) hx hb dX7_bitTime_47 (by decide) ?_
      refine lv_icmp_ge (tgt := 108) hx hb dX7_bitTime_49 (by decide) (fun c65 => ?_) (fun c65 => ?_)
      · exact absurd c65 (nI_ge (a := k46) (b := 8) (by omega) (by omega))
      · skip
        refine lv_aload_n hx hb dX7_bitTime_52 rfl (lv_at hl 0 rfl) ?_
        refine zget (ci := 7) (C := RX7) (T := TX7) (N := 42) hx hb hts hi7 hown hK hP hM.1 rfl rfl 24 (by decide) (hts (.fieldLink RX7 77 "LinClusterModel" "waking" "[I") (by decide +kernel)) (fun _ h9 => h9) (v := .ref (ad 24)) (congrArg (fun z => some (va_rf z)) (((hM.eq hst.1).2.1 24 (by decide)).1)) dX7_bitTime_53 ?_
        refine lv_iload_n hx hb dX7_bitTime_56 rfl (lv_at hl 2 rfl) ?_
        refine ziald hx hb hK hP (hM.2.1 24 (by decide)).2.1 (show G.2.2 (ad 24) = 8 from (hM.2.1 24 (by decide)).2.2) (vp_in_nI (n := k46) (N := 8) (by omega) (by omega)) dX7_bitTime_57 ?_
        refine lv_topi (fun v66 ev66 => ?_)
        rw [(nI_clamp (n := k46) (by omega))] at ev66
        refine lv_if_le (tgt := 73) hx hb dX7_bitTime_58 (by decide) (fun c67 => ?_) (fun c67 => ?_)
        · skip
          refine lv_aload_n hx hb dX7_bitTime_73 rfl (lv_at hl 0 rfl) ?_
          refine zget (ci := 7) (C := RX7) (T := TX7) (N := 42) hx hb hts hi7 hown hK hP hM.1 rfl rfl 16 (by decide) (hts (.fieldLink RX7 53 "LinClusterModel" "at" "[I") (by decide +kernel)) (fun _ h9 => h9) (v := .ref (ad 16)) (congrArg (fun z => some (va_rf z)) (((hM.eq hst.1).2.1 16 (by decide)).1)) dX7_bitTime_74 ?_
          refine lv_iload_n hx hb dX7_bitTime_77 rfl (lv_at hl 2 rfl) ?_
          refine ziald hx hb hK hP (hM.2.1 16 (by decide)).2.1 (show G.2.2 (ad 16) = 8 from (hM.2.1 16 (by decide)).2.2) (vp_in_nI (n := k46) (N := 8) (by omega) (by omega)) dX7_bitTime_78 ?_
          refine lv_topi (fun v68 ev68 => ?_)
          rw [(nI_clamp (n := k46) (by omega))] at ev68
          refine lv_iconst (v := 4) hx hb dX7_bitTime_79 (by decide) ?_
          refine lv_icmp_ne (tgt := 102) hx hb dX7_bitTime_80 (by decide) (fun c69 => ?_) (fun c69 => ?_)
          · skip
            obtain ⟨v70, ev70⟩ : ∃ y : Int32, y = (nI k46) + 1 := ⟨_, rfl⟩
            refine lv_iinc (v := v70) (lv' := [(2, .int v70), (0, .ref mo), (1, .int x46)]) hx hb dX7_bitTime_102 hl (k := 2) rfl (by rw [ev70]; rfl) (by decide) rfl (fun ls hl => ?_)
            refine lv_goto (tgt := 46) hx hb dX7_bitTime_105 (by decide) ?_
            have e9 : v70 = nI (k46 + 1) := by rw [ev70]; exact nI_1 k46
            rw [e9] at hl
            exact ih x46 S46_ H locs ls ⟨hst, hI, kt46⟩ hP hD hS (lv_sub hl [1, 2, 0] rfl)
          · skip
            have kn71 := ev68.symm.trans c69
            obtain ⟨hb8, i8, L8, hi8, ei8, hL8, eL8, h48, h58⟩ := hI.1.2 k46 (by omega)
            obtain ⟨q9, eq9, hq9⟩ := h48 kn71
            refine lv_aload_n hx hb dX7_bitTime_83 rfl (lv_at hl 0 rfl) ?_
            refine zget (ci := 7) (C := RX7) (T := TX7) (N := 42) hx hb hts hi7 hown hK hP hM.1 rfl rfl 31 (by decide) (hts (.fieldLink RX7 98 "LinClusterModel" "before" "[I") (by decide +kernel)) (fun _ h9 => h9) (v := .ref (ad 31)) (congrArg (fun z => some (va_rf z)) (((hM.eq hst.1).2.1 31 (by decide)).1)) dX7_bitTime_84 ?_
            refine lv_iload_n hx hb dX7_bitTime_87 rfl (lv_at hl 2 rfl) ?_
            refine ziald hx hb hK hP (hM.2.1 31 (by decide)).2.1 (show G.2.2 (ad 31) = 8 from (hM.2.1 31 (by decide)).2.2) (vp_in_nI (n := k46) (N := 8) (by omega) (by omega)) dX7_bitTime_88 ?_
            refine lv_topi (fun v72 ev72 => ?_)
            rw [(nI_clamp (n := k46) (by omega))] at ev72
            refine lv_if_ne (tgt := 102) hx hb dX7_bitTime_89 (by decide) (fun c73 => ?_) (fun c73 => ?_)
            · skip
              obtain ⟨v74, ev74⟩ : ∃ y : Int32, y = (nI k46) + 1 := ⟨_, rfl⟩
              refine lv_iinc (v := v74) (lv' := [(2, .int v74), (0, .ref mo), (1, .int x46)]) hx hb dX7_bitTime_102 hl (k := 2) rfl (by rw [ev74]; rfl) (by decide) rfl (fun ls hl => ?_)
              refine lv_goto (tgt := 46) hx hb dX7_bitTime_105 (by decide) ?_
              have e9 : v74 = nI (k46 + 1) := by rw [ev74]; exact nI_1 k46
              rw [e9] at hl
              exact ih x46 S46_ H locs ls ⟨hst, hI, kt46⟩ hP hD hS (lv_sub hl [1, 2, 0] rfl)
            · skip
              have kn75 := ev72.symm.trans c73
              refine lv_aload_n hx hb dX7_bitTime_92 rfl (lv_at hl 0 rfl) ?_
              refine lv_iload_n hx hb dX7_bitTime_93 rfl (lv_at hl 2 rfl) ?_
              refine vp_callSi (va_Run.run (va_runV (As := [.int (nI k46)]) (rest := []) ⟨hx, hb, hml, hown, hts⟩ (c_X7_sayingBit l dC dI cy G S46_ H.size mo ad k46 q9 (hM.eq hst.1) (by omega) (by omega) eq9) (cwV 1 hts gX7_bitTime_X7_sayingBit rfl rfl rfl (by decide +kernel) ⟨Nat.le_of_ble_eq_true rfl, Nat.le_of_ble_eq_true rfl⟩) (zpreV hK hP hD hN (zrecv7 hK hP hM.1)) rfl rfl hl.1 rfl (lv_room (Nat.le_of_ble_eq_true rfl)) dX7_bitTime_94 ⟨Nat.le_of_ble_eq_true rfl, Nat.le_of_ble_eq_true rfl⟩)) (fun r76 hr76 => ?_)
              refine lv_if_ne (tgt := 102) hx hb dX7_bitTime_97 (by decide) (fun c77 => ?_) (fun c77 => ?_)
              · skip
                obtain ⟨v78, ev78⟩ : ∃ y : Int32, y = (nI k46) + 1 := ⟨_, rfl⟩
                refine lv_iinc (v := v78) (lv' := [(2, .int v78), (0, .ref mo), (1, .int x46)]) hx hb dX7_bitTime_102 hl (k := 2) rfl (by rw [ev78]; rfl) (by decide) rfl (fun ls hl => ?_)
                refine lv_goto (tgt := 46) hx hb dX7_bitTime_105 (by decide) ?_
                have e9 : v78 = nI (k46 + 1) := by rw [ev78]; exact nI_1 k46
                rw [e9] at hl
                exact ih x46 S46_ H locs ls ⟨hst, hI, kt46⟩ hP hD hS (lv_sub hl [1, 2, 0] rfl)
              · skip
                refine lv_iconst (v := 0) hx hb dX7_bitTime_100 (by decide) ?_
                refine lv_istore_n (lv' := [(1, .int 0), (0, .ref mo), (2, .int (nI k46))]) hx hb dX7_bitTime_101 rfl hl (by decide) rfl (fun ls hl => ?_)
                obtain ⟨v79, ev79⟩ : ∃ y : Int32, y = (nI k46) + 1 := ⟨_, rfl⟩
                refine lv_iinc (v := v79) (lv' := [(2, .int v79), (1, .int 0), (0, .ref mo)]) hx hb dX7_bitTime_102 hl (k := 2) rfl (by rw [ev79]; rfl) (by decide) rfl (fun ls hl => ?_)
                refine lv_goto (tgt := 46) hx hb dX7_bitTime_105 (by decide) ?_
                have e9 : v79 = nI (k46 + 1) := by rw [ev79]; exact nI_1 k46
                rw [e9] at hl
                exact ih 0 S46_ H locs ls ⟨hst, hI, kt46⟩ hP hD hS (lv_sub hl [2, 1, 0] rfl)
        · skip
          refine lv_aload_n hx hb dX7_bitTime_61 rfl (lv_at hl 0 rfl) ?_
          refine zget (ci := 7) (C := RX7) (T := TX7) (N := 42) hx hb hts hi7 hown hK hP hM.1 rfl rfl 24 (by decide) (hts (.fieldLink RX7 77 "LinClusterModel" "waking" "[I") (by decide +kernel)) (fun _ h9 => h9) (v := .ref (ad 24)) (congrArg (fun z => some (va_rf z)) (((hM.eq hst.1).2.1 24 (by decide)).1)) dX7_bitTime_62 ?_
          refine lv_iload_n hx hb dX7_bitTime_65 rfl (lv_at hl 2 rfl) ?_
          refine lv_dup2_11 hx hb dX7_bitTime_66 rfl rfl ?_
          refine ziald hx hb hK hP (hM.2.1 24 (by decide)).2.1 (show G.2.2 (ad 24) = 8 from (hM.2.1 24 (by decide)).2.2) (vp_in_nI (n := k46) (N := 8) (by omega) (by omega)) dX7_bitTime_67 ?_
          refine lv_topi (fun v80 ev80 => ?_)
          rw [(nI_clamp (n := k46) (by omega))] at ev80
          refine lv_iconst (v := 1) hx hb dX7_bitTime_68 (by decide) ?_
          refine lv_isub hx hb dX7_bitTime_69 ?_
          refine lv_topi (fun v81 ev81 => ?_)
          refine ziast (x := v81) hx hb hK hP hD hS (hM.2.1 24 (by decide)).2.1 (show G.2.2 (ad 24) = 8 from (hM.2.1 24 (by decide)).2.2) (vp_in_nI (n := k46) (N := 8) (by omega) (by omega)) dX7_bitTime_70 (fun H locs hP hD hS => ?_)
          rw [(nI_clamp (n := k46) (by omega))] at hP hD
          have hst := zC.pa hM hst (k := 24) (by decide) (by decide) k46 v81
          have kn82 := zpi_af hM S46_ (k := 24) (by decide) k46 v81 (i := 33) kt46
          have hI := hI.free hM (k := 24) (by decide) (by decide) k46 v81
          have kn83 := zpi_s S46_ (ad 24) k46 v81
          refine lv_iconst (v := 0) hx hb dX7_bitTime_71 (by decide) ?_
          refine lv_istore_n (lv' := [(1, .int 0), (0, .ref mo), (2, .int (nI k46))]) hx hb dX7_bitTime_72 rfl hl (by decide) rfl (fun ls hl => ?_)
          refine lv_aload_n hx hb dX7_bitTime_73 rfl (lv_at hl 1 rfl) ?_
          refine zget (ci := 7) (C := RX7) (T := TX7) (N := 42) hx hb hts hi7 hown hK hP hM.1 rfl rfl 16 (by decide) (hts (.fieldLink RX7 53 "LinClusterModel" "at" "[I") (by decide +kernel)) (fun _ h9 => h9) (v := .ref (ad 16)) (congrArg (fun z => some (va_rf z)) (((hM.eq hst.1).2.1 16 (by decide)).1)) dX7_bitTime_74 ?_
          refine lv_iload_n hx hb dX7_bitTime_77 rfl (lv_at hl 2 rfl) ?_
          refine ziald hx hb hK hP (hM.2.1 16 (by decide)).2.1 (show G.2.2 (ad 16) = 8 from (hM.2.1 16 (by decide)).2.2) (vp_in_nI (n := k46) (N := 8) (by omega) (by omega)) dX7_bitTime_78 ?_
          refine lv_topi (fun v84 ev84 => ?_)
          rw [(nI_clamp (n := k46) (by omega))] at ev84
          refine lv_iconst (v := 4) hx hb dX7_bitTime_79 (by decide) ?_
          refine lv_icmp_ne (tgt := 102) hx hb dX7_bitTime_80 (by decide) (fun c85 => ?_) (fun c85 => ?_)
          · skip
            obtain ⟨v86, ev86⟩ : ∃ y : Int32, y = (nI k46) + 1 := ⟨_, rfl⟩
            refine lv_iinc (v := v86) (lv' := [(2, .int v86), (1, .int 0), (0, .ref mo)]) hx hb dX7_bitTime_102 hl (k := 2) rfl (by rw [ev86]; rfl) (by decide) rfl (fun ls hl => ?_)
            refine lv_goto (tgt := 46) hx hb dX7_bitTime_105 (by decide) ?_
            have e9 : v86 = nI (k46 + 1) := by rw [ev86]; exact nI_1 k46
            rw [e9] at hl
            exact ih 0 (zpi S46_ (ad 24) k46 v81) H locs ls ⟨hst, hI, kn82⟩ hP hD hS (lv_sub hl [2, 1, 0] rfl)
          · skip
            have kn87 := ev84.symm.trans c85
            obtain ⟨hb8, i8, L8, hi8, ei8, hL8, eL8, h48, h58⟩ := hI.1.2 k46 (by omega)
            obtain ⟨q9, eq9, hq9⟩ := h48 kn87
            refine lv_aload_n hx hb dX7_bitTime_83 rfl (lv_at hl 1 rfl) ?_
            refine zget (ci := 7) (C := RX7) (T := TX7) (N := 42) hx hb hts hi7 hown hK hP hM.1 rfl rfl 31 (by decide) (hts (.fieldLink RX7 98 "LinClusterModel" "before" "[I") (by decide +kernel)) (fun _ h9 => h9) (v := .ref (ad 31)) (congrArg (fun z => some (va_rf z)) (((hM.eq hst.1).2.1 31 (by decide)).1)) dX7_bitTime_84 ?_
            refine lv_iload_n hx hb dX7_bitTime_87 rfl (lv_at hl 2 rfl) ?_
            refine ziald hx hb hK hP (hM.2.1 31 (by decide)).2.1 (show G.2.2 (ad 31) = 8 from (hM.2.1 31 (by decide)).2.2) (vp_in_nI (n := k46) (N := 8) (by omega) (by omega)) dX7_bitTime_88 ?_
            refine lv_topi (fun v88 ev88 => ?_)
            rw [(nI_clamp (n := k46) (by omega))] at ev88
            refine lv_if_ne (tgt := 102) hx hb dX7_bitTime_89 (by decide) (fun c89 => ?_) (fun c89 => ?_)
            · skip
              obtain ⟨v90, ev90⟩ : ∃ y : Int32, y = (nI k46) + 1 := ⟨_, rfl⟩
              refine lv_iinc (v := v90) (lv' := [(2, .int v90), (1, .int 0), (0, .ref mo)]) hx hb dX7_bitTime_102 hl (k := 2) rfl (by rw [ev90]; rfl) (by decide) rfl (fun ls hl => ?_)
              refine lv_goto (tgt := 46) hx hb dX7_bitTime_105 (by decide) ?_
              have e9 : v90 = nI (k46 + 1) := by rw [ev90]; exact nI_1 k46
              rw [e9] at hl
              exact ih 0 (zpi S46_ (ad 24) k46 v81) H locs ls ⟨hst, hI, kn82⟩ hP hD hS (lv_sub hl [2, 1, 0] rfl)
            · skip
              have kn91 := ev88.symm.trans c89
              refine lv_aload_n hx hb dX7_bitTime_92 rfl (lv_at hl 1 rfl) ?_
              refine lv_iload_n hx hb dX7_bitTime_93 rfl (lv_at hl 2 rfl) ?_
              refine vp_callSi (va_Run.run (va_runV (As := [.int (nI k46)]) (rest := []) ⟨hx, hb, hml, hown, hts⟩ (c_X7_sayingBit l dC dI cy G (zpi S46_ (ad 24) k46 v81) H.size mo ad k46 q9 (hM.eq hst.1) (by omega) (by omega) eq9) (cwV 1 hts gX7_bitTime_X7_sayingBit rfl rfl rfl (by decide +kernel) ⟨Nat.le_of_ble_eq_true rfl, Nat.le_of_ble_eq_true rfl⟩) (zpreV hK hP hD hN (zrecv7 hK hP hM.1)) rfl rfl hl.1 rfl (lv_room (Nat.le_of_ble_eq_true rfl)) dX7_bitTime_94 ⟨Nat.le_of_ble_eq_true rfl, Nat.le_of_ble_eq_true rfl⟩)) (fun r92 hr92 => ?_)
              refine lv_if_ne (tgt := 102) hx hb dX7_bitTime_97 (by decide) (fun c93 => ?_) (fun c93 => ?_)
              · skip
                obtain ⟨v94, ev94⟩ : ∃ y : Int32, y = (nI k46) + 1 := ⟨_, rfl⟩
                refine lv_iinc (v := v94) (lv' := [(2, .int v94), (1, .int 0), (0, .ref mo)]) hx hb dX7_bitTime_102 hl (k := 2) rfl (by rw [ev94]; rfl) (by decide) rfl (fun ls hl => ?_)
                refine lv_goto (tgt := 46) hx hb dX7_bitTime_105 (by decide) ?_
                have e9 : v94 = nI (k46 + 1) := by rw [ev94]; exact nI_1 k46
                rw [e9] at hl
                exact ih 0 (zpi S46_ (ad 24) k46 v81) H locs ls ⟨hst, hI, kn82⟩ hP hD hS (lv_sub hl [2, 1, 0] rfl)
              · skip
                refine lv_iconst (v := 0) hx hb dX7_bitTime_100 (by decide) ?_
                refine lv_istore_n (lv' := [(1, .int 0), (0, .ref mo), (2, .int (nI k46))]) hx hb dX7_bitTime_101 rfl hl (by decide) rfl (fun ls hl => ?_)
                obtain ⟨v95, ev95⟩ : ∃ y : Int32, y = (nI k46) + 1 := ⟨_, rfl⟩
                refine lv_iinc (v := v95) (lv' := [(2, .int v95), (1, .int 0), (0, .ref mo)]) hx hb dX7_bitTime_102 hl (k := 2) rfl (by rw [ev95]; rfl) (by decide) rfl (fun ls hl => ?_)
                refine lv_goto (tgt := 46) hx hb dX7_bitTime_105 (by decide) ?_
                have e9 : v95 = nI (k46 + 1) := by rw [ev95]; exact nI_1 k46
                rw [e9] at hl
                exact ih 0 (zpi S46_ (ad 24) k46 v81) H locs ls ⟨hst, hI, kn82⟩ hP hD hS (lv_sub hl [2, 1, 0] rfl)
  · skip
    obtain ⟨q8, hq8, eq8⟩ : ∃ q, q < 16 ∧ S2.1 mo 34 = nI q := (hI.2.2.2.1).resolve_left (fun z9 => c5 (ev4.trans z9))
    refine lv_aload_n hx hb dX7_bitTime_12 rfl (lv_at hl 0 rfl) ?_
    refine zget (ci := 7) (C := RX7) (T := TX7) (N := 42) hx hb hts hi7 hown hK hP hM.1 rfl rfl 33 (by decide) (hts (.fieldLink RX7 128 "LinClusterModel" "time" "I") (by decide +kernel)) (fun _ h9 => h9) rfl dX7_bitTime_13 ?_
    refine lv_topi (fun v96 ev96 => ?_)
    obtain rfl : v96 = (nI t8) := ev96.trans kn3
    refine lv_aload_n hx hb dX7_bitTime_16 rfl (lv_at hl 0 rfl) ?_
    refine zget (ci := 7) (C := RX7) (T := TX7) (N := 42) hx hb hts hi7 hown hK hP hM.1 rfl rfl 35 (by decide) (hts (.fieldLink RX7 147 "LinClusterModel" "slotBegan" "I") (by decide +kernel)) (fun _ h9 => h9) rfl dX7_bitTime_17 ?_
    refine lv_topi (fun v97 ev97 => ?_)
    refine lv_isub hx hb dX7_bitTime_20 ?_
    refine lv_topi (fun v98 ev98 => ?_)
    refine lv_bipush (v := 34) hx hb dX7_bitTime_21 (by decide) ?_
    refine lv_icmp_ge (tgt := 42) hx hb dX7_bitTime_23 (by decide) (fun c99 => ?_) (fun c99 => ?_)
    · skip
      refine lv_iconst (v := 1) hx hb dX7_bitTime_42 (by decide) ?_
      refine lv_istore_n (lv' := [(1, .int 1), (0, .ref mo)]) hx hb dX7_bitTime_43 rfl hl (by decide) rfl (fun ls hl => ?_)
      refine lv_iconst (v := 0) hx hb dX7_bitTime_44 (by decide) ?_
      refine lv_istore_n (lv' := [(2, .int 0), (1, .int 1), (0, .ref mo)]) hx hb dX7_bitTime_45 rfl hl (by decide) rfl (fun ls hl => ?_)
      refine zloopW 8 (fun k9 (x9 : Int32) => [(0, .ref mo), (1, .int x9), (2, .int (nI k9))]) (fun _ S' => zC mo ad [7, 8, 16, 17, 18, 19, 20, 21, 22, 23, 24, 25, 26, 27, 28, 29, 30, 31, 32, 38, 39, 40] [33, 34, 35, 36, 37, 41] S S' ∧ zI mo ad S' ∧ S'.1 mo 33 = nI t8) ?_ ?_ 8 0 1 S2 H locs ls rfl ⟨hst, hI, kn3⟩ hP hD hS (lv_sub hl [2, 1, 0] rfl)
      · intro x46 S46_ H locs ls hJ9 hP hD hS hl
        obtain ⟨hst, hI, kt46⟩ := hJ9
        have hl : lv_has ls 3 [(0, .ref mo), (1, .int x46), (2, .int (nI 8))] := hl
        refine lv_iload_n hx hb dX7_bitTime_46 rfl (lv_at hl 2 rfl) ?_
        refine lv_bipush (v := 8) hx hb dX7_bitTime_47 (by decide) ?_
        refine lv_icmp_ge (tgt := 108) hx hb dX7_bitTime_49 (by decide) (fun c100 => ?_) (fun c100 => ?_)
        · skip
          refine lv_iconst (v := 0) hx hb dX7_bitTime_108 (by decide) ?_
          refine lv_istore_n (lv' := [(2, .int 0), (0, .ref mo), (1, .int x46)]) hx hb dX7_bitTime_109 rfl hl (by decide) rfl (fun ls hl => ?_)
          obtain ⟨d8, hd8, ed8⟩ := hI.2.2.2.2
          refine zloopW d8 (fun k9 (_ : Unit) => [(0, .ref mo), (1, .int x46), (2, .int (nI k9))]) (fun _ S' => zC mo ad [7, 8, 16, 17, 18, 19, 20, 21, 22, 23, 24, 25, 26, 27, 28, 29, 30, 31, 32, 38, 39, 40] [33, 34, 35, 36, 37, 41] S S' ∧ zI mo ad S' ∧ S'.1 mo 33 = nI t8 ∧ S'.1 mo 41 = nI d8) ?_ ?_ d8 0 () S46_ H locs ls (Nat.zero_add _) ⟨hst, hI, kt46, ed8⟩ hP hD hS (lv_sub hl [1, 2, 0] rfl)
          · intro x110 S110_ H locs ls hJ9 hP hD hS hl
            obtain ⟨hst, hI, kt110, kd9⟩ := hJ9
            have hl : lv_has ls 3 [(0, .ref mo), (1, .int x46), (2, .int (nI d8))] := hl
            refine lv_iload_n hx hb dX7_bitTime_110 rfl (lv_at hl 2 rfl) ?_
            refine lv_aload_n hx hb dX7_bitTime_111 rfl (lv_at hl 0 rfl) ?_
            refine zget (ci := 7) (C := RX7) (T := TX7) (N := 42) hx hb hts hi7 hown hK hP hM.1 rfl rfl 41 (by decide) (hts (.fieldLink RX7 137 "LinClusterModel" "disturbed" "I") (by decide +kernel)) (fun _ h9 => h9) rfl dX7_bitTime_112 ?_
            refine lv_topi (fun v101 ev101 => ?_)
            obtain rfl : v101 = (nI d8) := ev101.trans kd9
            refine lv_icmp_ge (tgt := 189) hx hb dX7_bitTime_115 (by decide) (fun c102 => ?_) (fun c102 => ?_)
            · skip
              refine lv_aload_n hx hb dX7_bitTime_189 rfl (lv_at hl 0 rfl) ?_
              refine zget (ci := 7) (C := RX7) (T := TX7) (N := 42) hx hb hts hi7 hown hK hP hM.1 rfl rfl 38 (by decide) (hts (.fieldLink RX7 108 "LinClusterModel" "lines" "[I") (by decide +kernel)) (fun _ h9 => h9) (v := .ref (ad 38)) (congrArg (fun z => some (va_rf z)) (((hM.eq hst.1).2.1 38 (by decide)).1)) dX7_bitTime_190 ?_
              refine lv_aload_n hx hb dX7_bitTime_193 rfl (lv_at hl 0 rfl) ?_
              refine zget (ci := 7) (C := RX7) (T := TX7) (N := 42) hx hb hts hi7 hown hK hP hM.1 rfl rfl 33 (by decide) (hts (.fieldLink RX7 128 "LinClusterModel" "time" "I") (by decide +kernel)) (fun _ h9 => h9) rfl dX7_bitTime_194 ?_
              refine lv_topi (fun v103 ev103 => ?_)
              obtain rfl : v103 = (nI t8) := ev103.trans kt110
              refine lv_bipush (v := 64) hx hb dX7_bitTime_197 (by decide) ?_
              refine lv_irem hx hb dX7_bitTime_199 (by decide) ?_
              refine lv_topi (fun v104 ev104 => ?_)
              obtain rfl : v104 = nI (t8 % 64) := ev104.trans (pk_rem (a := t8) (d := 64) (by omega) (by omega) (by omega))
              refine lv_iload_n hx hb dX7_bitTime_200 rfl (lv_at hl 1 rfl) ?_
              refine ziast (x := x46) hx hb hK hP hD hS (hM.2.1 38 (by decide)).2.1 (show G.2.2 (ad 38) = 64 from (hM.2.1 38 (by decide)).2.2) (vp_in_nI (n := (t8 % 64)) (N := 64) (by omega) (by omega)) dX7_bitTime_201 (fun H locs hP hD hS => ?_)
              rw [(nI_clamp (n := (t8 % 64)) (by omega))] at hP hD
              have hst := zC.pa hM hst (k := 38) (by decide) (by decide) (t8 % 64) x46
              have kn105 := zpi_af hM S110_ (k := 38) (by decide) (t8 % 64) x46 (i := 33) kt110
              have kn106 := zpi_af hM S110_ (k := 38) (by decide) (t8 % 64) x46 (i := 41) kd9
              have hI := hI.free hM (k := 38) (by decide) (by decide) (t8 % 64) x46
              have kn107 := zpi_s S110_ (ad 38) (t8 % 64) x46
              refine lv_iconst (v := 0) hx hb dX7_bitTime_202 (by decide) ?_
              refine lv_istore_n (lv' := [(2, .int 0), (0, .ref mo), (1, .int x46)]) hx hb dX7_bitTime_203 rfl hl (by decide) rfl (fun ls hl => ?_)
              refine zloopW 8 (fun k9 (x9 : Int32) => [(0, .ref mo), (1, .int x9), (2, .int (nI k9))]) (fun _ S' => zC mo ad [7, 8, 16, 17, 18, 19, 20, 21, 22, 23, 24, 25, 26, 27, 28, 29, 30, 31, 32, 38, 39, 40] [33, 34, 35, 36, 37, 41] S S' ∧ zI mo ad S' ∧ S'.1 mo 33 = nI t8) ?_ ?_ 8 0 x46 (zpi S110_ (ad 38) (t8 % 64) x46) H locs ls rfl ⟨hst, hI, kn105⟩ hP hD hS (lv_sub hl [1, 2, 0] rfl)
              · intro x204 S204_ H locs ls hJ9 hP hD hS hl
                obtain ⟨hst, hI, kt204⟩ := hJ9
                have hl : lv_has ls 3 [(0, .ref mo), (1, .int x204), (2, .int (nI 8))] := hl
                refine lv_iload_n hx hb dX7_bitTime_204 rfl (lv_at hl 2 rfl) ?_
                refine lv_bipush (v := 8) hx hb dX7_bitTime_205 (by decide) ?_
                refine lv_icmp_ge (tgt := 222) hx hb dX7_bitTime_207 (by decide) (fun c108 => ?_) (fun c108 => ?_)
                · skip
                  refine lv_aload_n hx hb dX7_bitTime_222 rfl (lv_at hl 0 rfl) ?_
                  refine lv_dup hx hb dX7_bitTime_223 rfl ?_
                  refine zget (ci := 7) (C := RX7) (T := TX7) (N := 42) hx hb hts hi7 hown hK hP hM.1 rfl rfl 33 (by decide) (hts (.fieldLink RX7 128 "LinClusterModel" "time" "I") (by decide +kernel)) (fun _ h9 => h9) rfl dX7_bitTime_224 ?_
                  refine lv_topi (fun v109 ev109 => ?_)
                  obtain rfl : v109 = (nI t8) := ev109.trans kt204
                  refine lv_iconst (v := 1) hx hb dX7_bitTime_227 (by decide) ?_
                  refine lv_iadd hx hb dX7_bitTime_228 ?_
                  refine lv_topi (fun v110 ev110 => ?_)
                  obtain rfl : v110 = nI (t8 + 1) := ev110.trans (nI_add t8 1)
                  refine zputi (ci := 7) (v := (nI (t8 + 1))) (ty := .int) (C := RX7) (T := TX7) (N := 42) hx hb hts hi7 tyX7 tyX7_ok nmX7 hown hK hP hD hS hM.1 rfl rfl 33 (by decide) (hts (.fieldLink RX7 128 "LinClusterModel" "time" "I") (by decide +kernel)) (fun _ h9 => h9) rfl (by decide +kernel) rfl rfl (Nat.le_of_ble_eq_true rfl) rfl dX7_bitTime_229 (fun H locs hP hD hS => ?_)
                  have hst := zC.pf hM hst (k := 33) (by decide) (nI (t8 + 1))
                  have hI := hI.time hM (q := t8 + 1) (by omega)
                  have kn111 := zpi_s S204_ mo 33 (nI (t8 + 1))
                  exact W.vret hx hb hr (fun t ht hW => ⟨⟨(zpi S204_ mo 33 (nI (t8 + 1))), rfl, ⟨⟨hst, hI⟩, kn111⟩, by rw [ht]; exact hP, va_K.moved hW.alike hK, hD⟩, hS.F ht⟩) hS.2.2 dX7_bitTime_232
                · exact absurd (nI_le (a := 8) (b := 8) (Nat.le_refl _) (by omega)) c108
              · intro n204 k204 x204 S204_ H locs ls hk204 ih hJ9 hP hD hS hl
                obtain ⟨hst, hI, kt204⟩ := hJ9
                have hl : lv_has ls 3 [(0, .ref mo), (1, .int x204), (2, .int (nI k204))] := hl
                refine lv_iload_n hx hb dX7_bitTime_204 rfl (lv_at hl 2 rfl) ?_
                refine lv_bipush (v := 8) hx hb dX7_bitTime_205 (by decide) ?_
                refine lv_icmp_ge (tgt := 222) hx hb dX7_bitTime_207 (by decide) (fun c112 => ?_) (fun c112 => ?_)
                · exact absurd c112 (nI_ge (a := k204) (b := 8) (by omega) (by omega))
                · skip
                  refine lv_aload_n hx hb dX7_bitTime_210 rfl (lv_at hl 0 rfl) ?_
                  refine lv_iload_n hx hb dX7_bitTime_211 rfl (lv_at hl 2 rfl) ?_
                  refine lv_iload_n hx hb dX7_bitTime_212 rfl (lv_at hl 1 rfl) ?_
                  refine zcallv (va_runV (As := [.int (nI k204), .int x204]) (rest := []) ⟨hx, hb, hml, hown, hts⟩ (c_X7_look l dC dI cy G S204_ H.size mo ad k204 x204 (hM.eq hst.1) hI (by omega)) (cwV 2 hts gX7_bitTime_X7_look rfl rfl rfl (by decide +kernel) ⟨Nat.le_of_ble_eq_true rfl, Nat.le_of_ble_eq_true rfl⟩) (zpreV hK hP hD hN (zrecv7 hK hP hM.1)) rfl rfl hl.1 rfl (lv_room (Nat.le_of_ble_eq_true rfl)) dX7_bitTime_213 ⟨Nat.le_of_ble_eq_true rfl, Nat.le_of_ble_eq_true rfl⟩) hS hD hA (fun S114 H locs hr113 hP hD hS => ?_)
                  have hst := hst.trans (hr113.1.mono (by decide) (by decide))
                  have hI := hr113.2
                  have kn115 := (hr113.1.2.2 33 (by decide)).trans kt204
                  obtain ⟨v116, ev116⟩ : ∃ y : Int32, y = (nI k204) + 1 := ⟨_, rfl⟩
                  refine lv_iinc (v := v116) (lv' := [(2, .int v116), (0, .ref mo), (1, .int x204)]) hx hb dX7_bitTime_216 hl (k := 2) rfl (by rw [ev116]; rfl) (by decide) rfl (fun ls hl => ?_)
                  refine lv_goto (tgt := 204) hx hb dX7_bitTime_219 (by decide) ?_
                  have e9 : v116 = nI (k204 + 1) := by rw [ev116]; exact nI_1 k204
                  rw [e9] at hl
                  exact ih x204 S114 H locs ls ⟨hst, hI, kn115⟩ hP hD hS (lv_sub hl [1, 2, 0] rfl)
            · exact absurd (nI_le (a := d8) (b := d8) (Nat.le_refl _) (by omega)) c102
          · intro n110 k110 x110 S110_ H locs ls hk110 ih hJ9 hP hD hS hl
            obtain ⟨hst, hI, kt110, kd9⟩ := hJ9
            have hl : lv_has ls 3 [(0, .ref mo), (1, .int x46), (2, .int (nI k110))] := hl
            obtain ⟨d7, rfl⟩ : ∃ d7, d8 = d7 + 1 := ⟨d8 - 1, by omega⟩
            refine lv_iload_n hx hb dX7_bitTime_110 rfl (lv_at hl 2 rfl) ?_
            refine lv_aload_n hx hb dX7_bitTime_111 rfl (lv_at hl 0 rfl) ?_
            refine zget (ci := 7) (C := RX7) (T := TX7) (N := 42) hx hb hts hi7 hown hK hP hM.1 rfl rfl 41 (by decide) (hts (.fieldLink RX7 137 "LinClusterModel" "disturbed" "I") (by decide +kernel)) (fun _ h9 => h9) rfl dX7_bitTime_112 ?_
            refine lv_topi (fun v117 ev117 => ?_)
            obtain rfl : v117 = (nI (d7 + 1)) := ev117.trans kd9
            refine lv_icmp_ge (tgt := 189) hx hb dX7_bitTime_115 (by decide) (fun c118 => ?_) (fun c118 => ?_)
            · exact absurd c118 (nI_ge (a := k110) (b := d7 + 1) (by omega) (by omega))
            · skip
              refine lv_aload_n hx hb dX7_bitTime_118 rfl (lv_at hl 0 rfl) ?_
              refine zget (ci := 7) (C := RX7) (T := TX7) (N := 42) hx hb hts hi7 hown hK hP hM.1 rfl rfl 39 (by decide) (hts (.fieldLink RX7 111 "LinClusterModel" "disturbedAt" "[I") (by decide +kernel)) (fun _ h9 => h9) (v := .ref (ad 39)) (congrArg (fun z => some (va_rf z)) (((hM.eq hst.1).2.1 39 (by decide)).1)) dX7_bitTime_119 ?_
              refine lv_iload_n hx hb dX7_bitTime_122 rfl (lv_at hl 2 rfl) ?_
              refine ziald hx hb hK hP (hM.2.1 39 (by decide)).2.1 (show G.2.2 (ad 39) = 200 from (hM.2.1 39 (by decide)).2.2) (vp_in_nI (n := k110) (N := 200) (by omega) (by omega)) dX7_bitTime_123 ?_
              refine lv_topi (fun v119 ev119 => ?_)
              rw [(nI_clamp (n := k110) (by omega))] at ev119
              refine lv_aload_n hx hb dX7_bitTime_124 rfl (lv_at hl 0 rfl) ?_
              refine zget (ci := 7) (C := RX7) (T := TX7) (N := 42) hx hb hts hi7 hown hK hP hM.1 rfl rfl 33 (by decide) (hts (.fieldLink RX7 128 "LinClusterModel" "time" "I") (by decide +kernel)) (fun _ h9 => h9) rfl dX7_bitTime_125 ?_
              refine lv_topi (fun v120 ev120 => ?_)
              obtain rfl : v120 = (nI t8) := ev120.trans kt110
              refine lv_icmp_ne (tgt := 183) hx hb dX7_bitTime_128 (by decide) (fun c121 => ?_) (fun c121 => ?_)
              · skip
                obtain ⟨v122, ev122⟩ : ∃ y : Int32, y = (nI k110) + 1 := ⟨_, rfl⟩
                refine lv_iinc (v := v122) (lv' := [(2, .int v122), (0, .ref mo), (1, .int x46)]) hx hb dX7_bitTime_183 hl (k := 2) rfl (by rw [ev122]; rfl) (by decide) rfl (fun ls hl => ?_)
                refine lv_goto (tgt := 110) hx hb dX7_bitTime_186 (by decide) ?_
                have e9 : v122 = nI (k110 + 1) := by rw [ev122]; exact nI_1 k110
                rw [e9] at hl
                exact ih () S110_ H locs ls ⟨hst, hI, kt110, kd9⟩ hP hD hS (lv_sub hl [1, 2, 0] rfl)
              · skip
                refine lv_aload_n hx hb dX7_bitTime_131 rfl (lv_at hl 0 rfl) ?_
                refine zget (ci := 7) (C := RX7) (T := TX7) (N := 42) hx hb hts hi7 hown hK hP hM.1 rfl rfl 40 (by decide) (hts (.fieldLink RX7 114 "LinClusterModel" "disturbedTo" "[I") (by decide +kernel)) (fun _ h9 => h9) (v := .ref (ad 40)) (congrArg (fun z => some (va_rf z)) (((hM.eq hst.1).2.1 40 (by decide)).1)) dX7_bitTime_132 ?_
                refine lv_iload_n hx hb dX7_bitTime_135 rfl (lv_at hl 2 rfl) ?_
                refine ziald hx hb hK hP (hM.2.1 40 (by decide)).2.1 (show G.2.2 (ad 40) = 200 from (hM.2.1 40 (by decide)).2.2) (vp_in_nI (n := k110) (N := 200) (by omega) (by omega)) dX7_bitTime_136 ?_
                refine lv_topi (fun v123 ev123 => ?_)
                rw [(nI_clamp (n := k110) (by omega))] at ev123
                refine lv_istore_n (lv' := [(1, .int v123), (0, .ref mo), (2, .int (nI k110))]) hx hb dX7_bitTime_137 rfl hl (by decide) rfl (fun ls hl => ?_)
                refine lv_aload_n hx hb dX7_bitTime_138 rfl (lv_at hl 1 rfl) ?_
                refine lv_dup hx hb dX7_bitTime_139 rfl ?_
                refine zget (ci := 7) (C := RX7) (T := TX7) (N := 42) hx hb hts hi7 hown hK hP hM.1 rfl rfl 41 (by decide) (hts (.fieldLink RX7 137 "LinClusterModel" "disturbed" "I") (by decide +kernel)) (fun _ h9 => h9) rfl dX7_bitTime_140 ?_
                refine lv_topi (fun v124 ev124 => ?_)
                obtain rfl : v124 = (nI (d7 + 1)) := ev124.trans kd9
                refine lv_iconst (v := 1) hx hb dX7_bitTime_143 (by decide) ?_
                refine lv_isub hx hb dX7_bitTime_144 ?_
                refine lv_topi (fun v125 ev125 => ?_)
                obtain rfl : v125 = nI d7 := ev125.trans (nI_pred d7)
                refine zputi (ci := 7) (v := (nI d7)) (ty := .int) (C := RX7) (T := TX7) (N := 42) hx hb hts hi7 tyX7 tyX7_ok nmX7 hown hK hP hD hS hM.1 rfl rfl 41 (by decide) (hts (.fieldLink RX7 137 "LinClusterModel" "disturbed" "I") (by decide +kernel)) (fun _ h9 => h9) rfl (by decide +kernel) rfl rfl (Nat.le_of_ble_eq_true rfl) rfl dX7_bitTime_145 (fun H locs hP hD hS => ?_)
                have hst := zC.pf hM hst (k := 41) (by decide) (nI d7)
                have kn126 := zpi_ff S110_ mo 41 (nI d7) (i := 33) (by decide) kt110
                have hI := hI.dist hM (q := d7) (by omega)
                have kn127 := zpi_s S110_ mo 41 (nI d7)
                refine lv_aload_n hx hb dX7_bitTime_148 rfl (lv_at hl 1 rfl) ?_
                refine zget (ci := 7) (C := RX7) (T := TX7) (N := 42) hx hb hts hi7 hown hK hP hM.1 rfl rfl 39 (by decide) (hts (.fieldLink RX7 111 "LinClusterModel" "disturbedAt" "[I") (by decide +kernel)) (fun _ h9 => h9) (v := .ref (ad 39)) (congrArg (fun z => some (va_rf z)) (((hM.eq hst.1).2.1 39 (by decide)).1)) dX7_bitTime_149 ?_
                refine lv_iload_n hx hb dX7_bitTime_152 rfl (lv_at hl 2 rfl) ?_
                refine lv_aload_n hx hb dX7_bitTime_153 rfl (lv_at hl 1 rfl) ?_
                refine zget (ci := 7) (C := RX7) (T := TX7) (N := 42) hx hb hts hi7 hown hK hP hM.1 rfl rfl 39 (by decide) (hts (.fieldLink RX7 111 "LinClusterModel" "disturbedAt" "[I") (by decide +kernel)) (fun _ h9 => h9) (v := .ref (ad 39)) (congrArg (fun z => some (va_rf z)) (((hM.eq hst.1).2.1 39 (by decide)).1)) dX7_bitTime_154 ?_
                refine lv_aload_n hx hb dX7_bitTime_157 rfl (lv_at hl 1 rfl) ?_
                refine zget (ci := 7) (C := RX7) (T := TX7) (N := 42) hx hb hts hi7 hown hK hP hM.1 rfl rfl 41 (by decide) (hts (.fieldLink RX7 137 "LinClusterModel" "disturbed" "I") (by decide +kernel)) (fun _ h9 => h9) rfl dX7_bitTime_158 ?_
                refine lv_topi (fun v128 ev128 => ?_)
                obtain rfl : v128 = (nI d7) := ev128.trans kn127
                refine ziald hx hb hK hP (hM.2.1 39 (by decide)).2.1 (show G.2.2 (ad 39) = 200 from (hM.2.1 39 (by decide)).2.2) (vp_in_nI (n := d7) (N := 200) (by omega) (by omega)) dX7_bitTime_161 ?_
                refine lv_topi (fun v129 ev129 => ?_)
                rw [(nI_clamp (n := d7) (by omega))] at ev129
                refine ziast (x := v129) hx hb hK hP hD hS (hM.2.1 39 (by decide)).2.1 (show G.2.2 (ad 39) = 200 from (hM.2.1 39 (by decide)).2.2) (vp_in_nI (n := k110) (N := 200) (by omega) (by omega)) dX7_bitTime_162 (fun H locs hP hD hS => ?_)
                rw [(nI_clamp (n := k110) (by omega))] at hP hD
                have hst := zC.pa hM hst (k := 39) (by decide) (by decide) k110 v129
                have kn130 := zpi_af hM (zpi S110_ mo 41 (nI d7)) (k := 39) (by decide) k110 v129 (i := 33) kn126
                have kn131 := zpi_af hM (zpi S110_ mo 41 (nI d7)) (k := 39) (by decide) k110 v129 (i := 41) kn127
                have hI := hI.free hM (k := 39) (by decide) (by decide) k110 v129
                have kn132 := zpi_s (zpi S110_ mo 41 (nI d7)) (ad 39) k110 v129
                refine lv_aload_n hx hb dX7_bitTime_163 rfl (lv_at hl 1 rfl) ?_
                refine zget (ci := 7) (C := RX7) (T := TX7) (N := 42) hx hb hts hi7 hown hK hP hM.1 rfl rfl 40 (by decide) (hts (.fieldLink RX7 114 "LinClusterModel" "disturbedTo" "[I") (by decide +kernel)) (fun _ h9 => h9) (v := .ref (ad 40)) (congrArg (fun z => some (va_rf z)) (((hM.eq hst.1).2.1 40 (by decide)).1)) dX7_bitTime_164 ?_
                refine lv_iload_n hx hb dX7_bitTime_167 rfl (lv_at hl 2 rfl) ?_
                refine lv_aload_n hx hb dX7_bitTime_168 rfl (lv_at hl 1 rfl) ?_
                refine zget (ci := 7) (C := RX7) (T := TX7) (N := 42) hx hb hts hi7 hown hK hP hM.1 rfl rfl 40 (by decide) (hts (.fieldLink RX7 114 "LinClusterModel" "disturbedTo" "[I") (by decide +kernel)) (fun _ h9 => h9) (v := .ref (ad 40)) (congrArg (fun z => some (va_rf z)) (((hM.eq hst.1).2.1 40 (by decide)).1)) dX7_bitTime_169 ?_
                refine lv_aload_n hx hb dX7_bitTime_172 rfl (lv_at hl 1 rfl) ?_
                refine zget (ci := 7) (C := RX7) (T := TX7) (N := 42) hx hb hts hi7 hown hK hP hM.1 rfl rfl 41 (by decide) (hts (.fieldLink RX7 137 "LinClusterModel" "disturbed" "I") (by decide +kernel)) (fun _ h9 => h9) rfl dX7_bitTime_173 ?_
                refine lv_topi (fun v133 ev133 => ?_)
                obtain rfl : v133 = (nI d7) := ev133.trans kn131
                refine ziald hx hb hK hP (hM.2.1 40 (by decide)).2.1 (show G.2.2 (ad 40) = 200 from (hM.2.1 40 (by decide)).2.2) (vp_in_nI (n := d7) (N := 200) (by omega) (by omega)) dX7_bitTime_176 ?_
                refine lv_topi (fun v134 ev134 => ?_)
                rw [(nI_clamp (n := d7) (by omega))] at ev134
                refine ziast (x := v134) hx hb hK hP hD hS (hM.2.1 40 (by decide)).2.1 (show G.2.2 (ad 40) = 200 from (hM.2.1 40 (by decide)).2.2) (vp_in_nI (n := k110) (N := 200) (by omega) (by omega)) dX7_bitTime_177 (fun H locs hP hD hS => ?_)
                rw [(nI_clamp (n := k110) (by omega))] at hP hD
                have hst := zC.pa hM hst (k := 40) (by decide) (by decide) k110 v134
                have kn135 := zpi_af hM (zpi (zpi S110_ mo 41 (nI d7)) (ad 39) k110 v129) (k := 40) (by decide) k110 v134 (i := 33) kn130
                have kn136 := zpi_af hM (zpi (zpi S110_ mo 41 (nI d7)) (ad 39) k110 v129) (k := 40) (by decide) k110 v134 (i := 41) kn131
                have kn137 := zpi_o hM (zpi (zpi S110_ mo 41 (nI d7)) (ad 39) k110 v129) (i := 39) (k := 40) (by decide) (by decide) (by decide) k110 v134 kn132
                have hI := hI.free hM (k := 40) (by decide) (by decide) k110 v134
                have kn138 := zpi_s (zpi (zpi S110_ mo 41 (nI d7)) (ad 39) k110 v129) (ad 40) k110 v134
                refine lv_aload_n hx hb dX7_bitTime_178 rfl (lv_at hl 1 rfl) ?_
                refine zget (ci := 7) (C := RX7) (T := TX7) (N := 42) hx hb hts hi7 hown hK hP hM.1 rfl rfl 41 (by decide) (hts (.fieldLink RX7 137 "LinClusterModel" "disturbed" "I") (by decide +kernel)) (fun _ h9 => h9) rfl dX7_bitTime_179 ?_
                refine lv_topi (fun v139 ev139 => ?_)
                obtain rfl : v139 = (nI d7) := ev139.trans kn136
                refine lv_istore_n (lv' := [(2, .int (nI d7)), (1, .int v123), (0, .ref mo)]) hx hb dX7_bitTime_182 rfl hl (by decide) rfl (fun ls hl => ?_)
                obtain ⟨v140, ev140⟩ : ∃ y : Int32, y = (nI d7) + 1 := ⟨_, rfl⟩
                refine lv_iinc (v := v140) (lv' := [(2, .int v140), (1, .int v123), (0, .ref mo)]) hx hb dX7_bitTime_183 hl (k := 0) rfl (by rw [ev140]; rfl) (by decide) rfl (fun ls hl => ?_)
                refine lv_goto (tgt := 110) hx hb dX7_bitTime_186 (by decide) ?_
                have e9 : v140 = nI (d7 + 1) := by rw [ev140]; exact nI_1 d7
                rw [e9] at hl
                have hl : lv_has ls 3 [(2, .int (nI (d7 + 1))), (1, .int v123), (0, .ref mo)] := hl
                refine lv_iload_n hx hb dX7_bitTime_110 rfl (lv_at hl 0 rfl) ?_
                refine lv_aload_n hx hb dX7_bitTime_111 rfl (lv_at hl 2 rfl) ?_
                refine zget (ci := 7) (C := RX7) (T := TX7) (N := 42) hx hb hts hi7 hown hK hP hM.1 rfl rfl 41 (by decide) (hts (.fieldLink RX7 137 "LinClusterModel" "disturbed" "I") (by decide +kernel)) (fun _ h9 => h9) rfl dX7_bitTime_112 ?_
                refine lv_topi (fun v141 ev141 => ?_)
                obtain rfl : v141 = (nI d7) := ev141.trans kn136
                refine lv_icmp_ge (tgt := 189) hx hb dX7_bitTime_115 (by decide) (fun c142 => ?_) (fun c142 => ?_)
                · skip
                  refine lv_aload_n hx hb dX7_bitTime_189 rfl (lv_at hl 2 rfl) ?_
                  refine zget (ci := 7) (C := RX7) (T := TX7) (N := 42) hx hb hts hi7 hown hK hP hM.1 rfl rfl 38 (by decide) (hts (.fieldLink RX7 108 "LinClusterModel" "lines" "[I") (by decide +kernel)) (fun _ h9 => h9) (v := .ref (ad 38)) (congrArg (fun z => some (va_rf z)) (((hM.eq hst.1).2.1 38 (by decide)).1)) dX7_bitTime_190 ?_
                  refine lv_aload_n hx hb dX7_bitTime_193 rfl (lv_at hl 2 rfl) ?_
                  refine zget (ci := 7) (C := RX7) (T := TX7) (N := 42) hx hb hts hi7 hown hK hP hM.1 rfl rfl 33 (by decide) (hts (.fieldLink RX7 128 "LinClusterModel" "time" "I") (by decide +kernel)) (fun _ h9 => h9) rfl dX7_bitTime_194 ?_
                  refine lv_topi (fun v143 ev143 => ?_)
                  obtain rfl : v143 = (nI t8) := ev143.trans kn135
                  refine lv_bipush (v := 64) hx hb dX7_bitTime_197 (by decide) ?_
                  refine lv_irem hx hb dX7_bitTime_199 (by decide) ?_
                  refine lv_topi (fun v144 ev144 => ?_)
                  obtain rfl : v144 = nI (t8 % 64) := ev144.trans (pk_rem (a := t8) (d := 64) (by omega) (by omega) (by omega))
                  refine lv_iload_n hx hb dX7_bitTime_200 rfl (lv_at hl 1 rfl) ?_
                  refine ziast (x := v123) hx hb hK hP hD hS (hM.2.1 38 (by decide)).2.1 (show G.2.2 (ad 38) = 64 from (hM.2.1 38 (by decide)).2.2) (vp_in_nI (n := (t8 % 64)) (N := 64) (by omega) (by omega)) dX7_bitTime_201 (fun H locs hP hD hS => ?_)
                  rw [(nI_clamp (n := (t8 % 64)) (by omega))] at hP hD
                  have hst := zC.pa hM hst (k := 38) (by decide) (by decide) (t8 % 64) v123
                  have kn145 := zpi_af hM (zpi (zpi (zpi S110_ mo 41 (nI d7)) (ad 39) k110 v129) (ad 40) k110 v134) (k := 38) (by decide) (t8 % 64) v123 (i := 33) kn135
                  have kn146 := zpi_af hM (zpi (zpi (zpi S110_ mo 41 (nI d7)) (ad 39) k110 v129) (ad 40) k110 v134) (k := 38) (by decide) (t8 % 64) v123 (i := 41) kn136
                  have kn147 := zpi_o hM (zpi (zpi (zpi S110_ mo 41 (nI d7)) (ad 39) k110 v129) (ad 40) k110 v134) (i := 39) (k := 38) (by decide) (by decide) (by decide) (t8 % 64) v123 kn137
                  have kn148 := zpi_o hM (zpi (zpi (zpi S110_ mo 41 (nI d7)) (ad 39) k110 v129) (ad 40) k110 v134) (i := 40) (k := 38) (by decide) (by decide) (by decide) (t8 % 64) v123 kn138
                  have hI := hI.free hM (k := 38) (by decide) (by decide) (t8 % 64) v123
                  have kn149 := zpi_s (zpi (zpi (zpi S110_ mo 41 (nI d7)) (ad 39) k110 v129) (ad 40) k110 v134) (ad 38) (t8 % 64) v123
                  refine lv_iconst (v := 0) hx hb dX7_bitTime_202 (by decide) ?_
                  refine lv_istore_n (lv' := [(2, .int 0), (1, .int v123), (0, .ref mo)]) hx hb dX7_bitTime_203 rfl hl (by decide) rfl (fun ls hl => ?_)
                  refine zloopW 8 (fun k9 (x9 : Int32) => [(0, .ref mo), (1, .int x9), (2, .int (nI k9))]) (fun _ S' => zC mo ad [7, 8, 16, 17, 18, 19, 20, 21, 22, 23, 24, 25, 26, 27, 28, 29, 30, 31, 32, 38, 39, 40] [33, 34, 35, 36, 37, 41] S S' ∧ zI mo ad S' ∧ S'.1 mo 33 = nI t8) ?_ ?_ 8 0 v123 (zpi (zpi (zpi (zpi S110_ mo 41 (nI d7)) (ad 39) k110 v129) (ad 40) k110 v134) (ad 38) (t8 % 64) v123) H locs ls rfl ⟨hst, hI, kn145⟩ hP hD hS (lv_sub hl [2, 1, 0] rfl)
                  · intro x204 S204_ H locs ls hJ9 hP hD hS hl
                    obtain ⟨hst, hI, kt204⟩ := hJ9
                    have hl : lv_has ls 3 [(0, .ref mo), (1, .int x204), (2, .int (nI 8))] := hl
                    refine lv_iload_n hx hb dX7_bitTime_204 rfl (lv_at hl 2 rfl) ?_
                    refine lv_bipush (v := 8) hx hb dX7_bitTime_205 (by decide) ?_
                    refine lv_icmp_ge (tgt := 222) hx hb dX7_bitTime_207 (by decide) (fun c150 => ?_) (fun c150 => ?_)
                    · skip
                      refine lv_aload_n hx hb dX7_bitTime_222 rfl (lv_at hl 0 rfl) ?_
                      refine lv_dup hx hb dX7_bitTime_223 rfl ?_
                      refine zget (ci := 7) (C := RX7) (T := TX7) (N := 42) hx hb hts hi7 hown hK hP hM.1 rfl rfl 33 (by decide) (hts (.fieldLink RX7 128 "LinClusterModel" "time" "I") (by decide +kernel)) (fun _ h9 => h9) rfl dX7_bitTime_224 ?_
                      refine lv_topi (fun v151 ev151 => ?_)
                      obtain rfl : v151 = (nI t8) := ev151.trans kt204
                      refine lv_iconst (v := 1) hx hb dX7_bitTime_227 (by decide) ?_
                      refine lv_iadd hx hb dX7_bitTime_228 ?_
                      refine lv_topi (fun v152 ev152 => ?_)
                      obtain rfl : v152 = nI (t8 + 1) := ev152.trans (nI_add t8 1)
                      refine zputi (ci := 7) (v := (nI (t8 + 1))) (ty := .int) (C := RX7) (T := TX7) (N := 42) hx hb hts hi7 tyX7 tyX7_ok nmX7 hown hK hP hD hS hM.1 rfl rfl 33 (by decide) (hts (.fieldLink RX7 128 "LinClusterModel" "time" "I") (by decide +kernel)) (fun _ h9 => h9) rfl (by decide +kernel) rfl rfl (Nat.le_of_ble_eq_true rfl) rfl dX7_bitTime_229 (fun H locs hP hD hS => ?_)
                      have hst := zC.pf hM hst (k := 33) (by decide) (nI (t8 + 1))
                      have hI := hI.time hM (q := t8 + 1) (by omega)
                      have kn153 := zpi_s S204_ mo 33 (nI (t8 + 1))
                      exact W.vret hx hb hr (fun t ht hW => ⟨⟨(zpi S204_ mo 33 (nI (t8 + 1))), rfl, ⟨⟨hst, hI⟩, kn153⟩, by rw [ht]; exact hP, va_K.moved hW.alike hK, hD⟩, hS.F ht⟩) hS.2.2 dX7_bitTime_232
                    · exact absurd (nI_le (a := 8) (b := 8) (Nat.le_refl _) (by omega)) c150
                  · intro n204 k204 x204 S204_ H locs ls hk204 ih hJ9 hP hD hS hl
                    obtain ⟨hst, hI, kt204⟩ := hJ9
                    have hl : lv_has ls 3 [(0, .ref mo), (1, .int x204), (2, .int (nI k204))] := hl
                    refine lv_iload_n hx hb dX7_bitTime_204 rfl (lv_at hl 2 rfl) ?_
                    refine lv_bipush (v := 8) hx hb dX7_bitTime_205 (by decide) ?_
                    refine lv_icmp_ge (tgt := 222) hx hb dX7_bitTime_207 (by decide) (fun c154 => ?_) (fun c154 => ?_)
                    · exact absurd c154 (nI_ge (a := k204) (b := 8) (by omega) (by omega))
                    · skip
                      refine lv_aload_n hx hb dX7_bitTime_210 rfl (lv_at hl 0 rfl) ?_
                      refine lv_iload_n hx hb dX7_bitTime_211 rfl (lv_at hl 2 rfl) ?_
                      refine lv_iload_n hx hb dX7_bitTime_212 rfl (lv_at hl 1 rfl) ?_
                      refine zcallv (va_runV (As := [.int (nI k204), .int x204]) (rest := []) ⟨hx, hb, hml, hown, hts⟩ (c_X7_look l dC dI cy G S204_ H.size mo ad k204 x204 (hM.eq hst.1) hI (by omega)) (cwV 2 hts gX7_bitTime_X7_look rfl rfl rfl (by decide +kernel) ⟨Nat.le_of_ble_eq_true rfl, Nat.le_of_ble_eq_true rfl⟩) (zpreV hK hP hD hN (zrecv7 hK hP hM.1)) rfl rfl hl.1 rfl (lv_room (Nat.le_of_ble_eq_true rfl)) dX7_bitTime_213 ⟨Nat.le_of_ble_eq_true rfl, Nat.le_of_ble_eq_true rfl⟩) hS hD hA (fun S156 H locs hr155 hP hD hS => ?_)
                      have hst := hst.trans (hr155.1.mono (by decide) (by decide))
                      have hI := hr155.2
                      have kn157 := (hr155.1.2.2 33 (by decide)).trans kt204
                      obtain ⟨v158, ev158⟩ : ∃ y : Int32, y = (nI k204) + 1 := ⟨_, rfl⟩
                      refine lv_iinc (v := v158) (lv' := [(2, .int v158), (0, .ref mo), (1, .int x204)]) hx hb dX7_bitTime_216 hl (k := 2) rfl (by rw [ev158]; rfl) (by decide) rfl (fun ls hl => ?_)
                      refine lv_goto (tgt := 204) hx hb dX7_bitTime_219 (by decide) ?_
                      have e9 : v158 = nI (k204 + 1) := by rw [ev158]; exact nI_1 k204
                      rw [e9] at hl
                      exact ih x204 S156 H locs ls ⟨hst, hI, kn157⟩ hP hD hS (lv_sub hl [1, 2, 0] rfl)
                · exact absurd (nI_le (a := d7) (b := d7 + 1) (by omega) (by omega)) c142
        · exact absurd (nI_le (a := 8) (b := 8) (Nat.le_refl _) (by omega)) c100
      · intro n46 k46 x46 S46_ H locs ls hk46 ih hJ9 hP hD hS hl
        obtain ⟨hst, hI, kt46⟩ := hJ9
        have hl : lv_has ls 3 [(0, .ref mo), (1, .int x46), (2, .int (nI k46))] := hl
        refine lv_iload_n hx hb dX7_bitTime_46 rfl (lv_at hl 2 rfl) ?_
        refine lv_bipush (v := 8) hx hb dX7_bitTime_47 (by decide) ?_
        refine lv_icmp_ge (tgt := 108) hx hb dX7_bitTime_49 (by decide) (fun c159 => ?_) (fun c159 => ?_)
        · exact absurd c159 (nI_ge (a := k46) (b := 8) (by omega) (by omega))
        · skip
          refine lv_aload_n hx hb dX7_bitTime_52 rfl (lv_at hl 0 rfl) ?_
          refine zget (ci := 7) (C := RX7) (T := TX7) (N := 42) hx hb hts hi7 hown hK hP hM.1 rfl rfl 24 (by decide) (hts (.fieldLink RX7 77 "LinClusterModel" "waking" "[I") (by decide +kernel)) (fun _ h9 => h9) (v := .ref (ad 24)) (congrArg (fun z => some (va_rf z)) (((hM.eq hst.1).2.1 24 (by decide)).1)) dX7_bitTime_53 ?_
          refine lv_iload_n hx hb dX7_bitTime_56 rfl (lv_at hl 2 rfl) ?_
          refine ziald hx hb hK hP (hM.2.1 24 (by decide)).2.1 (show G.2.2 (ad 24) = 8 from (hM.2.1 24 (by decide)).2.2) (vp_in_nI (n := k46) (N := 8) (by omega) (by omega)) dX7_bitTime_57 ?_
          refine lv_topi (fun v160 ev160 => ?_)
          rw [(nI_clamp (n := k46) (by omega))] at ev160
          refine lv_if_le (tgt := 73) hx hb dX7_bitTime_58 (by decide) (fun c161 => ?_) (fun c161 => ?_)
          · skip
            refine lv_aload_n hx hb dX7_bitTime_73 rfl (lv_at hl 0 rfl) ?_
            refine zget (ci := 7) (C := RX7) (T := TX7) (N := 42) hx hb hts hi7 hown hK hP hM.1 rfl rfl 16 (by decide) (hts (.fieldLink RX7 53 "LinClusterModel" "at" "[I") (by decide +kernel)) (fun _ h9 => h9) (v := .ref (ad 16)) (congrArg (fun z => some (va_rf z)) (((hM.eq hst.1).2.1 16 (by decide)).1)) dX7_bitTime_74 ?_
            refine lv_iload_n hx hb dX7_bitTime_77 rfl (lv_at hl 2 rfl) ?_
            refine ziald hx hb hK hP (hM.2.1 16 (by decide)).2.1 (show G.2.2 (ad 16) = 8 from (hM.2.1 16 (by decide)).2.2) (vp_in_nI (n := k46) (N := 8) (by omega) (by omega)) dX7_bitTime_78 ?_
            refine lv_topi (fun v162 ev162 => ?_)
            rw [(nI_clamp (n := k46) (by omega))] at ev162
            refine lv_iconst (v := 4) hx hb dX7_bitTime_79 (by decide) ?_
            refine lv_icmp_ne (tgt := 102) hx hb dX7_bitTime_80 (by decide) (fun c163 => ?_) (fun c163 => ?_)
            · skip
              obtain ⟨v164, ev164⟩ : ∃ y : Int32, y = (nI k46) + 1 := ⟨_, rfl⟩
              refine lv_iinc (v := v164) (lv' := [(2, .int v164), (0, .ref mo), (1, .int x46)]) hx hb dX7_bitTime_102 hl (k := 2) rfl (by rw [ev164]; rfl) (by decide) rfl (fun ls hl => ?_)
              refine lv_goto (tgt := 46) hx hb dX7_bitTime_105 (by decide) ?_
              have e9 : v164 = nI (k46 + 1) := by rw [ev164]; exact nI_1 k46
              rw [e9] at hl
              exact ih x46 S46_ H locs ls ⟨hst, hI, kt46⟩ hP hD hS (lv_sub hl [1, 2, 0] rfl)
            · skip
              have kn165 := ev162.symm.trans c163
              obtain ⟨hb8, i8, L8, hi8, ei8, hL8, eL8, h48, h58⟩ := hI.1.2 k46 (by omega)
              obtain ⟨q9, eq9, hq9⟩ := h48 kn165
              refine lv_aload_n hx hb dX7_bitTime_83 rfl (lv_at hl 0 rfl) ?_
              refine zget (ci := 7) (C := RX7) (T := TX7) (N := 42) hx hb hts hi7 hown hK hP hM.1 rfl rfl 31 (by decide) (hts (.fieldLink RX7 98 "LinClusterModel" "before" "[I") (by decide +kernel)) (fun _ h9 => h9) (v := .ref (ad 31)) (congrArg (fun z => some (va_rf z)) (((hM.eq hst.1).2.1 31 (by decide)).1)) dX7_bitTime_84 ?_
              refine lv_iload_n hx hb dX7_bitTime_87 rfl (lv_at hl 2 rfl) ?_
              refine ziald hx hb hK hP (hM.2.1 31 (by decide)).2.1 (show G.2.2 (ad 31) = 8 from (hM.2.1 31 (by decide)).2.2) (vp_in_nI (n := k46) (N := 8) (by omega) (by omega)) dX7_bitTime_88 ?_
              refine lv_topi (fun v166 ev166 => ?_)
              rw [(nI_clamp (n := k46) (by omega))] at ev166
              refine lv_if_ne (tgt := 102) hx hb dX7_bitTime_89 (by decide) (fun c167 => ?_) (fun c167 => ?_)
              · skip
                obtain ⟨v168, ev168⟩ : ∃ y : Int32, y = (nI k46) + 1 := ⟨_, rfl⟩
                refine lv_iinc (v := v168) (lv' := [(2, .int v168), (0, .ref mo), (1, .int x46)]) hx hb dX7_bitTime_102 hl (k := 2) rfl (by rw [ev168]; rfl) (by decide) rfl (fun ls hl => ?_)
                refine lv_goto (tgt := 46) hx hb dX7_bitTime_105 (by decide) ?_
                have e9 : v168 = nI (k46 + 1) := by rw [ev168]; exact nI_1 k46
                rw [e9] at hl
                exact ih x46 S46_ H locs ls ⟨hst, hI, kt46⟩ hP hD hS (lv_sub hl [1, 2, 0] rfl)
              · skip
                have kn169 := ev166.symm.trans c167
                refine lv_aload_n hx hb dX7_bitTime_92 rfl (lv_at hl 0 rfl) ?_
                refine lv_iload_n hx hb dX7_bitTime_93 rfl (lv_at hl 2 rfl) ?_
                refine vp_callSi (va_Run.run (va_runV (As := [.int (nI k46)]) (rest := []) ⟨hx, hb, hml, hown, hts⟩ (c_X7_sayingBit l dC dI cy G S46_ H.size mo ad k46 q9 (hM.eq hst.1) (by omega) (by omega) eq9) (cwV 1 hts gX7_bitTime_X7_sayingBit rfl rfl rfl (by decide +kernel) ⟨Nat.le_of_ble_eq_true rfl, Nat.le_of_ble_eq_true rfl⟩) (zpreV hK hP hD hN (zrecv7 hK hP hM.1)) rfl rfl hl.1 rfl (lv_room (Nat.le_of_ble_eq_true rfl)) dX7_bitTime_94 ⟨Nat.le_of_ble_eq_true rfl, Nat.le_of_ble_eq_true rfl⟩)) (fun r170 hr170 => ?_)
                refine lv_if_ne (tgt := 102) hx hb dX7_bitTime_97 (by decide) (fun c171 => ?_) (fun c171 => ?_)
                · skip
                  obtain ⟨v172, ev172⟩ : ∃ y : Int32, y = (nI k46) + 1 := ⟨_, rfl⟩
                  refine lv_iinc (v := v172) (lv' := [(2, .int v172), (0, .ref mo), (1, .int x46)]) hx hb dX7_bitTime_102 hl (k := 2) rfl (by rw [ev172]; rfl) (by decide) rfl (fun ls hl => ?_)
                  refine lv_goto (tgt := 46) hx hb dX7_bitTime_105 (by decide) ?_
                  have e9 : v172 = nI (k46 + 1) := by rw [ev172]; exact nI_1 k46
                  rw [e9] at hl
                  exact ih x46 S46_ H locs ls ⟨hst, hI, kt46⟩ hP hD hS (lv_sub hl [1, 2, 0] rfl)
                · skip
                  refine lv_iconst (v := 0) hx hb dX7_bitTime_100 (by decide) ?_
                  refine lv_istore_n (lv' := [(1, .int 0), (0, .ref mo), (2, .int (nI k46))]) hx hb dX7_bitTime_101 rfl hl (by decide) rfl (fun ls hl => ?_)
                  obtain ⟨v173, ev173⟩ : ∃ y : Int32, y = (nI k46) + 1 := ⟨_, rfl⟩
                  refine lv_iinc (v := v173) (lv' := [(2, .int v173), (1, .int 0), (0, .ref mo)]) hx hb dX7_bitTime_102 hl (k := 2) rfl (by rw [ev173]; rfl) (by decide) rfl (fun ls hl => ?_)
                  refine lv_goto (tgt := 46) hx hb dX7_bitTime_105 (by decide) ?_
                  have e9 : v173 = nI (k46 + 1) := by rw [ev173]; exact nI_1 k46
                  rw [e9] at hl
                  exact ih 0 S46_ H locs ls ⟨hst, hI, kt46⟩ hP hD hS (lv_sub hl [2, 1, 0] rfl)
          · skip
            refine lv_aload_n hx hb dX7_bitTime_61 rfl (lv_at hl 0 rfl) ?_
            refine zget (ci := 7) (C := RX7) (T := TX7) (N := 42) hx hb hts hi7 hown hK hP hM.1 rfl rfl 24 (by decide) (hts (.fieldLink RX7 77 "LinClusterModel" "waking" "[I") (by decide +kernel)) (fun _ h9 => h9) (v := .ref (ad 24)) (congrArg (fun z => some (va_rf z)) (((hM.eq hst.1).2.1 24 (by decide)).1)) dX7_bitTime_62 ?_
            refine lv_iload_n hx hb dX7_bitTime_65 rfl (lv_at hl 2 rfl) ?_
            refine lv_dup2_11 hx hb dX7_bitTime_66 rfl rfl ?_
            refine ziald hx hb hK hP (hM.2.1 24 (by decide)).2.1 (show G.2.2 (ad 24) = 8 from (hM.2.1 24 (by decide)).2.2) (vp_in_nI (n := k46) (N := 8) (by omega) (by omega)) dX7_bitTime_67 ?_
            refine lv_topi (fun v174 ev174 => ?_)
            rw [(nI_clamp (n := k46) (by omega))] at ev174
            refine lv_iconst (v := 1) hx hb dX7_bitTime_68 (by decide) ?_
            refine lv_isub hx hb dX7_bitTime_69 ?_
            refine lv_topi (fun v175 ev175 => ?_)
            refine ziast (x := v175) hx hb hK hP hD hS (hM.2.1 24 (by decide)).2.1 (show G.2.2 (ad 24) = 8 from (hM.2.1 24 (by decide)).2.2) (vp_in_nI (n := k46) (N := 8) (by omega) (by omega)) dX7_bitTime_70 (fun H locs hP hD hS => ?_)
            rw [(nI_clamp (n := k46) (by omega))] at hP hD
            have hst := zC.pa hM hst (k := 24) (by decide) (by decide) k46 v175
            have kn176 := zpi_af hM S46_ (k := 24) (by decide) k46 v175 (i := 33) kt46
            have hI := hI.free hM (k := 24) (by decide) (by decide) k46 v175
            have kn177 := zpi_s S46_ (ad 24) k46 v175
            refine lv_iconst (v := 0) hx hb dX7_bitTime_71 (by decide) ?_
            refine lv_istore_n (lv' := [(1, .int 0), (0, .ref mo), (2, .int (nI k46))]) hx hb dX7_bitTime_72 rfl hl (by decide) rfl (fun ls hl => ?_)
            refine lv_aload_n hx hb dX7_bitTime_73 rfl (lv_at hl 1 rfl) ?_
            refine zget (ci := 7) (C := RX7) (T := TX7) (N := 42) hx hb hts hi7 hown hK hP hM.1 rfl rfl 16 (by decide) (hts (.fieldLink RX7 53 "LinClusterModel" "at" "[I") (by decide +kernel)) (fun _ h9 => h9) (v := .ref (ad 16)) (congrArg (fun z => some (va_rf z)) (((hM.eq hst.1).2.1 16 (by decide)).1)) dX7_bitTime_74 ?_
            refine lv_iload_n hx hb dX7_bitTime_77 rfl (lv_at hl 2 rfl) ?_
            refine ziald hx hb hK hP (hM.2.1 16 (by decide)).2.1 (show G.2.2 (ad 16) = 8 from (hM.2.1 16 (by decide)).2.2) (vp_in_nI (n := k46) (N := 8) (by omega) (by omega)) dX7_bitTime_78 ?_
            refine lv_topi (fun v178 ev178 => ?_)
            rw [(nI_clamp (n := k46) (by omega))] at ev178
            refine lv_iconst (v := 4) hx hb dX7_bitTime_79 (by decide) ?_
            refine lv_icmp_ne (tgt := 102) hx hb dX7_bitTime_80 (by decide) (fun c179 => ?_) (fun c179 => ?_)
            · skip
              obtain ⟨v180, ev180⟩ : ∃ y : Int32, y = (nI k46) + 1 := ⟨_, rfl⟩
              refine lv_iinc (v := v180) (lv' := [(2, .int v180), (1, .int 0), (0, .ref mo)]) hx hb dX7_bitTime_102 hl (k := 2) rfl (by rw [ev180]; rfl) (by decide) rfl (fun ls hl => ?_)
              refine lv_goto (tgt := 46) hx hb dX7_bitTime_105 (by decide) ?_
              have e9 : v180 = nI (k46 + 1) := by rw [ev180]; exact nI_1 k46
              rw [e9] at hl
              exact ih 0 (zpi S46_ (ad 24) k46 v175) H locs ls ⟨hst, hI, kn176⟩ hP hD hS (lv_sub hl [2, 1, 0] rfl)
            · skip
              have kn181 := ev178.symm.trans c179
              obtain ⟨hb8, i8, L8, hi8, ei8, hL8, eL8, h48, h58⟩ := hI.1.2 k46 (by omega)
              obtain ⟨q9, eq9, hq9⟩ := h48 kn181
              refine lv_aload_n hx hb dX7_bitTime_83 rfl (lv_at hl 1 rfl) ?_
              refine zget (ci := 7) (C := RX7) (T := TX7) (N := 42) hx hb hts hi7 hown hK hP hM.1 rfl rfl 31 (by decide) (hts (.fieldLink RX7 98 "LinClusterModel" "before" "[I") (by decide +kernel)) (fun _ h9 => h9) (v := .ref (ad 31)) (congrArg (fun z => some (va_rf z)) (((hM.eq hst.1).2.1 31 (by decide)).1)) dX7_bitTime_84 ?_
              refine lv_iload_n hx hb dX7_bitTime_87 rfl (lv_at hl 2 rfl) ?_
              refine ziald hx hb hK hP (hM.2.1 31 (by decide)).2.1 (show G.2.2 (ad 31) = 8 from (hM.2.1 31 (by decide)).2.2) (vp_in_nI (n := k46) (N := 8) (by omega) (by omega)) dX7_bitTime_88 ?_
              refine lv_topi (fun v182 ev182 => ?_)
              rw [(nI_clamp (n := k46) (by omega))] at ev182
              refine lv_if_ne (tgt := 102) hx hb dX7_bitTime_89 (by decide) (fun c183 => ?_) (fun c183 => ?_)
              · skip
                obtain ⟨v184, ev184⟩ : ∃ y : Int32, y = (nI k46) + 1 := ⟨_, rfl⟩
                refine lv_iinc (v := v184) (lv' := [(2, .int v184), (1, .int 0), (0, .ref mo)]) hx hb dX7_bitTime_102 hl (k := 2) rfl (by rw [ev184]; rfl) (by decide) rfl (fun ls hl => ?_)
                refine lv_goto (tgt := 46) hx hb dX7_bitTime_105 (by decide) ?_
                have e9 : v184 = nI (k46 + 1) := by rw [ev184]; exact nI_1 k46
                rw [e9] at hl
                exact ih 0 (zpi S46_ (ad 24) k46 v175) H locs ls ⟨hst, hI, kn176⟩ hP hD hS (lv_sub hl [2, 1, 0] rfl)
              · skip
                have kn185 := ev182.symm.trans c183
                refine lv_aload_n hx hb dX7_bitTime_92 rfl (lv_at hl 1 rfl) ?_
                refine lv_iload_n hx hb dX7_bitTime_93 rfl (lv_at hl 2 rfl) ?_
                refine vp_callSi (va_Run.run (va_runV (As := [.int (nI k46)]) (rest := []) ⟨hx, hb, hml, hown, hts⟩ (c_X7_sayingBit l dC dI cy G (zpi S46_ (ad 24) k46 v175) H.size mo ad k46 q9 (hM.eq hst.1) (by omega) (by omega) eq9) (cwV 1 hts gX7_bitTime_X7_sayingBit rfl rfl rfl (by decide +kernel) ⟨Nat.le_of_ble_eq_true rfl, Nat.le_of_ble_eq_true rfl⟩) (zpreV hK hP hD hN (zrecv7 hK hP hM.1)) rfl rfl hl.1 rfl (lv_room (Nat.le_of_ble_eq_true rfl)) dX7_bitTime_94 ⟨Nat.le_of_ble_eq_true rfl, Nat.le_of_ble_eq_true rfl⟩)) (fun r186 hr186 => ?_)
                refine lv_if_ne (tgt := 102) hx hb dX7_bitTime_97 (by decide) (fun c187 => ?_) (fun c187 => ?_)
                · skip
                  obtain ⟨v188, ev188⟩ : ∃ y : Int32, y = (nI k46) + 1 := ⟨_, rfl⟩
                  refine lv_iinc (v := v188) (lv' := [(2, .int v188), (1, .int 0), (0, .ref mo)]) hx hb dX7_bitTime_102 hl (k := 2) rfl (by rw [ev188]; rfl) (by decide) rfl (fun ls hl => ?_)
                  refine lv_goto (tgt := 46) hx hb dX7_bitTime_105 (by decide) ?_
                  have e9 : v188 = nI (k46 + 1) := by rw [ev188]; exact nI_1 k46
                  rw [e9] at hl
                  exact ih 0 (zpi S46_ (ad 24) k46 v175) H locs ls ⟨hst, hI, kn176⟩ hP hD hS (lv_sub hl [2, 1, 0] rfl)
                · skip
                  refine lv_iconst (v := 0) hx hb dX7_bitTime_100 (by decide) ?_
                  refine lv_istore_n (lv' := [(1, .int 0), (0, .ref mo), (2, .int (nI k46))]) hx hb dX7_bitTime_101 rfl hl (by decide) rfl (fun ls hl => ?_)
                  obtain ⟨v189, ev189⟩ : ∃ y : Int32, y = (nI k46) + 1 := ⟨_, rfl⟩
                  refine lv_iinc (v := v189) (lv' := [(2, .int v189), (1, .int 0), (0, .ref mo)]) hx hb dX7_bitTime_102 hl (k := 2) rfl (by rw [ev189]; rfl) (by decide) rfl (fun ls hl => ?_)
                  refine lv_goto (tgt := 46) hx hb dX7_bitTime_105 (by decide) ?_
                  have e9 : v189 = nI (k46 + 1) := by rw [ev189]; exact nI_1 k46
                  rw [e9] at hl
                  exact ih 0 (zpi S46_ (ad 24) k46 v175) H locs ls ⟨hst, hI, kn176⟩ hP hD hS (lv_sub hl [2, 1, 0] rfl)
    · skip
      refine lv_aload_n hx hb dX7_bitTime_26 rfl (lv_at hl 0 rfl) ?_
      refine lv_aload_n hx hb dX7_bitTime_27 rfl (lv_at hl 0 rfl) ?_
      refine zget (ci := 7) (C := RX7) (T := TX7) (N := 42) hx hb hts hi7 hown hK hP hM.1 rfl rfl 33 (by decide) (hts (.fieldLink RX7 128 "LinClusterModel" "time" "I") (by decide +kernel)) (fun _ h9 => h9) rfl dX7_bitTime_28 ?_
      refine lv_topi (fun v190 ev190 => ?_)
      obtain rfl : v190 = (nI t8) := ev190.trans kn3
      refine lv_aload_n hx hb dX7_bitTime_31 rfl (lv_at hl 0 rfl) ?_
      refine zget (ci := 7) (C := RX7) (T := TX7) (N := 42) hx hb hts hi7 hown hK hP hM.1 rfl rfl 35 (by decide) (hts (.fieldLink RX7 147 "LinClusterModel" "slotBegan" "I") (by decide +kernel)) (fun _ h9 => h9) rfl dX7_bitTime_32 ?_
      refine lv_topi (fun v191 ev191 => ?_)
      refine lv_isub hx hb dX7_bitTime_35 ?_
      refine lv_topi (fun v192 ev192 => ?_)
      refine vp_callSi (va_Run.run (va_runV (As := [.int v192]) (rest := []) ⟨hx, hb, hml, hown, hts⟩ (c_X7_headerBit l dC dI cy G S2 H.size mo ad v192 q8 (hM.eq hst.1) hq8 eq8) (cwV 1 hts gX7_bitTime_X7_headerBit rfl rfl rfl (by decide +kernel) ⟨Nat.le_of_ble_eq_true rfl, Nat.le_of_ble_eq_true rfl⟩) (zpreV hK hP hD hN (zrecv7 hK hP hM.1)) rfl rfl hl.1 rfl (lv_room (Nat.le_of_ble_eq_true rfl)) dX7_bitTime_36 ⟨Nat.le_of_ble_eq_true rfl, Nat.le_of_ble_eq_true rfl⟩)) (fun r193 hr193 => ?_)
      refine lv_goto (tgt := 43) hx hb dX7_bitTime_39 (by decide) ?_
      refine lv_istore_n (lv' := [(1, .int r193), (0, .ref mo)]) hx hb dX7_bitTime_43 rfl hl (by decide) rfl (fun ls hl => ?_)
      refine lv_iconst (v := 0) hx hb dX7_bitTime_44 (by decide) ?_
      refine lv_istore_n (lv' := [(2, .int 0), (1, .int r193), (0, .ref mo)]) hx hb dX7_bitTime_45 rfl hl (by decide) rfl (fun ls hl => ?_)
      refine zloopW 8 (fun k9 (x9 : Int32) => [(0, .ref mo), (1, .int x9), (2, .int (nI k9))]) (fun _ S' => zC mo ad [7, 8, 16, 17, 18, 19, 20, 21, 22, 23, 24, 25, 26, 27, 28, 29, 30, 31, 32, 38, 39, 40] [33, 34, 35, 36, 37, 41] S S' ∧ zI mo ad S' ∧ S'.1 mo 33 = nI t8) ?_ ?_ 8 0 r193 S2 H locs ls rfl ⟨hst, hI, kn3⟩ hP hD hS (lv_sub hl [2, 1, 0] rfl)
      · intro x46 S46_ H locs ls hJ9 hP hD hS hl
        obtain ⟨hst, hI, kt46⟩ := hJ9
        have hl : lv_has ls 3 [(0, .ref mo), (1, .int x46), (2, .int (nI 8))] := hl
        refine lv_iload_n hx hb dX7_bitTime_46 rfl (lv_at hl 2 rfl) ?_
        refine lv_bipush (v := 8) hx hb dX7_bitTime_47 (by decide) ?_
        refine lv_icmp_ge (tgt := 108) hx hb dX7_bitTime_49 (by decide) (fun c194 => ?_) (fun c194 => ?_)
        · skip
          refine lv_iconst (v := 0) hx hb dX7_bitTime_108 (by decide) ?_
          refine lv_istore_n (lv' := [(2, .int 0), (0, .ref mo), (1, .int x46)]) hx hb dX7_bitTime_109 rfl hl (by decide) rfl (fun ls hl => ?_)
          obtain ⟨d8, hd8, ed8⟩ := hI.2.2.2.2
          refine zloopW d8 (fun k9 (_ : Unit) => [(0, .ref mo), (1, .int x46), (2, .int (nI k9))]) (fun _ S' => zC mo ad [7, 8, 16, 17, 18, 19, 20, 21, 22, 23, 24, 25, 26, 27, 28, 29, 30, 31, 32, 38, 39, 40] [33, 34, 35, 36, 37, 41] S S' ∧ zI mo ad S' ∧ S'.1 mo 33 = nI t8 ∧ S'.1 mo 41 = nI d8) ?_ ?_ d8 0 () S46_ H locs ls (Nat.zero_add _) ⟨hst, hI, kt46, ed8⟩ hP hD hS (lv_sub hl [1, 2, 0] rfl)
          · intro x110 S110_ H locs ls hJ9 hP hD hS hl
            obtain ⟨hst, hI, kt110, kd9⟩ := hJ9
            have hl : lv_has ls 3 [(0, .ref mo), (1, .int x46), (2, .int (nI d8))] := hl
            refine lv_iload_n hx hb dX7_bitTime_110 rfl (lv_at hl 2 rfl) ?_
            refine lv_aload_n hx hb dX7_bitTime_111 rfl (lv_at hl 0 rfl) ?_
            refine zget (ci := 7) (C := RX7) (T := TX7) (N := 42) hx hb hts hi7 hown hK hP hM.1 rfl rfl 41 (by decide) (hts (.fieldLink RX7 137 "LinClusterModel" "disturbed" "I") (by decide +kernel)) (fun _ h9 => h9) rfl dX7_bitTime_112 ?_
            refine lv_topi (fun v195 ev195 => ?_)
            obtain rfl : v195 = (nI d8) := ev195.trans kd9
            refine lv_icmp_ge (tgt := 189) hx hb dX7_bitTime_115 (by decide) (fun c196 => ?_) (fun c196 => ?_)
            · skip
              refine lv_aload_n hx hb dX7_bitTime_189 rfl (lv_at hl 0 rfl) ?_
              refine zget (ci := 7) (C := RX7) (T := TX7) (N := 42) hx hb hts hi7 hown hK hP hM.1 rfl rfl 38 (by decide) (hts (.fieldLink RX7 108 "LinClusterModel" "lines" "[I") (by decide +kernel)) (fun _ h9 => h9) (v := .ref (ad 38)) (congrArg (fun z => some (va_rf z)) (((hM.eq hst.1).2.1 38 (by decide)).1)) dX7_bitTime_190 ?_
              refine lv_aload_n hx hb dX7_bitTime_193 rfl (lv_at hl 0 rfl) ?_
              refine zget (ci := 7) (C := RX7) (T := TX7) (N := 42) hx hb hts hi7 hown hK hP hM.1 rfl rfl 33 (by decide) (hts (.fieldLink RX7 128 "LinClusterModel" "time" "I") (by decide +kernel)) (fun _ h9 => h9) rfl dX7_bitTime_194 ?_
              refine lv_topi (fun v197 ev197 => ?_)
              obtain rfl : v197 = (nI t8) := ev197.trans kt110
              refine lv_bipush (v := 64) hx hb dX7_bitTime_197 (by decide) ?_
              refine lv_irem hx hb dX7_bitTime_199 (by decide) ?_
              refine lv_topi (fun v198 ev198 => ?_)
              obtain rfl : v198 = nI (t8 % 64) := ev198.trans (pk_rem (a := t8) (d := 64) (by omega) (by omega) (by omega))
              refine lv_iload_n hx hb dX7_bitTime_200 rfl (lv_at hl 1 rfl) ?_
              refine ziast (x := x46) hx hb hK hP hD hS (hM.2.1 38 (by decide)).2.1 (show G.2.2 (ad 38) = 64 from (hM.2.1 38 (by decide)).2.2) (vp_in_nI (n := (t8 % 64)) (N := 64) (by omega) (by omega)) dX7_bitTime_201 (fun H locs hP hD hS => ?_)
              rw [(nI_clamp (n := (t8 % 64)) (by omega))] at hP hD
              have hst := zC.pa hM hst (k := 38) (by decide) (by decide) (t8 % 64) x46
              have kn199 := zpi_af hM S110_ (k := 38) (by decide) (t8 % 64) x46 (i := 33) kt110
              have kn200 := zpi_af hM S110_ (k := 38) (by decide) (t8 % 64) x46 (i := 41) kd9
              have hI := hI.free hM (k := 38) (by decide) (by decide) (t8 % 64) x46
              have kn201 := zpi_s S110_ (ad 38) (t8 % 64) x46
              refine lv_iconst (v := 0) hx hb dX7_bitTime_202 (by decide) ?_
              refine lv_istore_n (lv' := [(2, .int 0), (0, .ref mo), (1, .int x46)]) hx hb dX7_bitTime_203 rfl hl (by decide) rfl (fun ls hl => ?_)
              refine zloopW 8 (fun k9 (x9 : Int32) => [(0, .ref mo), (1, .int x9), (2, .int (nI k9))]) (fun _ S' => zC mo ad [7, 8, 16, 17, 18, 19, 20, 21, 22, 23, 24, 25, 26, 27, 28, 29, 30, 31, 32, 38, 39, 40] [33, 34, 35, 36, 37, 41] S S' ∧ zI mo ad S' ∧ S'.1 mo 33 = nI t8) ?_ ?_ 8 0 x46 (zpi S110_ (ad 38) (t8 % 64) x46) H locs ls rfl ⟨hst, hI, kn199⟩ hP hD hS (lv_sub hl [1, 2, 0] rfl)
              · intro x204 S204_ H locs ls hJ9 hP hD hS hl
                obtain ⟨hst, hI, kt204⟩ := hJ9
                have hl : lv_has ls 3 [(0, .ref mo), (1, .int x204), (2, .int (nI 8))] := hl
                refine lv_iload_n hx hb dX7_bitTime_204 rfl (lv_at hl 2 rfl) ?_
                refine lv_bipush (v := 8) hx hb dX7_bitTime_205 (by decide) ?_
                refine lv_icmp_ge (tgt := 222) hx hb dX7_bitTime_207 (by decide) (fun c202 => ?_) (fun c202 => ?_)
                · skip
                  refine lv_aload_n hx hb dX7_bitTime_222 rfl (lv_at hl 0 rfl) ?_
                  refine lv_dup hx hb dX7_bitTime_223 rfl ?_
                  refine zget (ci := 7) (C := RX7) (T := TX7) (N := 42) hx hb hts hi7 hown hK hP hM.1 rfl rfl 33 (by decide) (hts (.fieldLink RX7 128 "LinClusterModel" "time" "I") (by decide +kernel)) (fun _ h9 => h9) rfl dX7_bitTime_224 ?_
                  refine lv_topi (fun v203 ev203 => ?_)
                  obtain rfl : v203 = (nI t8) := ev203.trans kt204
                  refine lv_iconst (v := 1) hx hb dX7_bitTime_227 (by decide) ?_
                  refine lv_iadd hx hb dX7_bitTime_228 ?_
                  refine lv_topi (fun v204 ev204 => ?_)
                  obtain rfl : v204 = nI (t8 + 1) := ev204.trans (nI_add t8 1)
                  refine zputi (ci := 7) (v := (nI (t8 + 1))) (ty := .int) (C := RX7) (T := TX7) (N := 42) hx hb hts hi7 tyX7 tyX7_ok nmX7 hown hK hP hD hS hM.1 rfl rfl 33 (by decide) (hts (.fieldLink RX7 128 "LinClusterModel" "time" "I") (by decide +kernel)) (fun _ h9 => h9) rfl (by decide +kernel) rfl rfl (Nat.le_of_ble_eq_true rfl) rfl dX7_bitTime_229 (fun H locs hP hD hS => ?_)
                  have hst := zC.pf hM hst (k := 33) (by decide) (nI (t8 + 1))
                  have hI := hI.time hM (q := t8 + 1) (by omega)
                  have kn205 := zpi_s S204_ mo 33 (nI (t8 + 1))
                  exact W.vret hx hb hr (fun t ht hW => ⟨⟨(zpi S204_ mo 33 (nI (t8 + 1))), rfl, ⟨⟨hst, hI⟩, kn205⟩, by rw [ht]; exact hP, va_K.moved hW.alike hK, hD⟩, hS.F ht⟩) hS.2.2 dX7_bitTime_232
                · exact absurd (nI_le (a := 8) (b := 8) (Nat.le_refl _) (by omega)) c202
              · intro n204 k204 x204 S204_ H locs ls hk204 ih hJ9 hP hD hS hl
                obtain ⟨hst, hI, kt204⟩ := hJ9
                have hl : lv_has ls 3 [(0, .ref mo), (1, .int x204), (2, .int (nI k204))] := hl
                refine lv_iload_n hx hb dX7_bitTime_204 rfl (lv_at hl 2 rfl) ?_
                refine lv_bipush (v := 8) hx hb dX7_bitTime_205 (by decide) ?_
                refine lv_icmp_ge (tgt := 222) hx hb dX7_bitTime_207 (by decide) (fun c206 => ?_) (fun c206 => ?_)
                · exact absurd c206 (nI_ge (a := k204) (b := 8) (by omega) (by omega))
                · skip
                  refine lv_aload_n hx hb dX7_bitTime_210 rfl (lv_at hl 0 rfl) ?_
                  refine lv_iload_n hx hb dX7_bitTime_211 rfl (lv_at hl 2 rfl) ?_
                  refine lv_iload_n hx hb dX7_bitTime_212 rfl (lv_at hl 1 rfl) ?_
                  refine zcallv (va_runV (As := [.int (nI k204), .int x204]) (rest := []) ⟨hx, hb, hml, hown, hts⟩ (c_X7_look l dC dI cy G S204_ H.size mo ad k204 x204 (hM.eq hst.1) hI (by omega)) (cwV 2 hts gX7_bitTime_X7_look rfl rfl rfl (by decide +kernel) ⟨Nat.le_of_ble_eq_true rfl, Nat.le_of_ble_eq_true rfl⟩) (zpreV hK hP hD hN (zrecv7 hK hP hM.1)) rfl rfl hl.1 rfl (lv_room (Nat.le_of_ble_eq_true rfl)) dX7_bitTime_213 ⟨Nat.le_of_ble_eq_true rfl, Nat.le_of_ble_eq_true rfl⟩) hS hD hA (fun S208 H locs hr207 hP hD hS => ?_)
                  have hst := hst.trans (hr207.1.mono (by decide) (by decide))
                  have hI := hr207.2
                  have kn209 := (hr207.1.2.2 33 (by decide)).trans kt204
                  obtain ⟨v210, ev210⟩ : ∃ y : Int32, y = (nI k204) + 1 := ⟨_, rfl⟩
                  refine lv_iinc (v := v210) (lv' := [(2, .int v210), (0, .ref mo), (1, .int x204)]) hx hb dX7_bitTime_216 hl (k := 2) rfl (by rw [ev210]; rfl) (by decide) rfl (fun ls hl => ?_)
                  refine lv_goto (tgt := 204) hx hb dX7_bitTime_219 (by decide) ?_
                  have e9 : v210 = nI (k204 + 1) := by rw [ev210]; exact nI_1 k204
                  rw [e9] at hl
                  exact ih x204 S208 H locs ls ⟨hst, hI, kn209⟩ hP hD hS (lv_sub hl [1, 2, 0] rfl)
            · exact absurd (nI_le (a := d8) (b := d8) (Nat.le_refl _) (by omega)) c196
          · intro n110 k110 x110 S110_ H locs ls hk110 ih hJ9 hP hD hS hl
            obtain ⟨hst, hI, kt110, kd9⟩ := hJ9
            have hl : lv_has ls 3 [(0, .ref mo), (1, .int x46), (2, .int (nI k110))] := hl
            obtain ⟨d7, rfl⟩ : ∃ d7, d8 = d7 + 1 := ⟨d8 - 1, by omega⟩
            refine lv_iload_n hx hb dX7_bitTime_110 rfl (lv_at hl 2 rfl) ?_
            refine lv_aload_n hx hb dX7_bitTime_111 rfl (lv_at hl 0 rfl) ?_
            refine zget (ci := 7) (C := RX7) (T := TX7) (N := 42) hx hb hts hi7 hown hK hP hM.1 rfl rfl 41 (by decide) (hts (.fieldLink RX7 137 "LinClusterModel" "disturbed" "I") (by decide +kernel)) (fun _ h9 => h9) rfl dX7_bitTime_112 ?_
            refine lv_topi (fun v211 ev211 => ?_)
            obtain rfl : v211 = (nI (d7 + 1)) := ev211.trans kd9
            refine lv_icmp_ge (tgt := 189) hx hb dX7_bitTime_115 (by decide) (fun c212 => ?_) (fun c212 => ?_)
            · exact absurd c212 (nI_ge (a := k110) (b := d7 + 1) (by omega) (by omega))
            · skip
              refine lv_aload_n hx hb dX7_bitTime_118 rfl (lv_at hl 0 rfl) ?_
              refine zget (ci := 7) (C := RX7) (T := TX7) (N := 42) hx hb hts hi7 hown hK hP hM.1 rfl rfl 39 (by decide) (hts (.fieldLink RX7 111 "LinClusterModel" "disturbedAt" "[I") (by decide +kernel)) (fun _ h9 => h9) (v := .ref (ad 39)) (congrArg (fun z => some (va_rf z)) (((hM.eq hst.1).2.1 39 (by decide)).1)) dX7_bitTime_119 ?_
              refine lv_iload_n hx hb dX7_bitTime_122 rfl (lv_at hl 2 rfl) ?_
              refine ziald hx hb hK hP (hM.2.1 39 (by decide)).2.1 (show G.2.2 (ad 39) = 200 from (hM.2.1 39 (by decide)).2.2) (vp_in_nI (n := k110) (N := 200) (by omega) (by omega)) dX7_bitTime_123 ?_
              refine lv_topi (fun v213 ev213 => ?_)
              rw [(nI_clamp (n := k110) (by omega))] at ev213
              refine lv_aload_n hx hb dX7_bitTime_124 rfl (lv_at hl 0 rfl) ?_
              refine zget (ci := 7) (C := RX7) (T := TX7) (N := 42) hx hb hts hi7 hown hK hP hM.1 rfl rfl 33 (by decide) (hts (.fieldLink RX7 128 "LinClusterModel" "time" "I") (by decide +kernel)) (fun _ h9 => h9) rfl dX7_bitTime_125 ?_
              refine lv_topi (fun v214 ev214 => ?_)
              obtain rfl : v214 = (nI t8) := ev214.trans kt110
              refine lv_icmp_ne (tgt := 183) hx hb dX7_bitTime_128 (by decide) (fun c215 => ?_) (fun c215 => ?_)
              · skip
                obtain ⟨v216, ev216⟩ : ∃ y : Int32, y = (nI k110) + 1 := ⟨_, rfl⟩
                refine lv_iinc (v := v216) (lv' := [(2, .int v216), (0, .ref mo), (1, .int x46)]) hx hb dX7_bitTime_183 hl (k := 2) rfl (by rw [ev216]; rfl) (by decide) rfl (fun ls hl => ?_)
                refine lv_goto (tgt := 110) hx hb dX7_bitTime_186 (by decide) ?_
                have e9 : v216 = nI (k110 + 1) := by rw [ev216]; exact nI_1 k110
                rw [e9] at hl
                exact ih () S110_ H locs ls ⟨hst, hI, kt110, kd9⟩ hP hD hS (lv_sub hl [1, 2, 0] rfl)
              · skip
                refine lv_aload_n hx hb dX7_bitTime_131 rfl (lv_at hl 0 rfl) ?_
                refine zget (ci := 7) (C := RX7) (T := TX7) (N := 42) hx hb hts hi7 hown hK hP hM.1 rfl rfl 40 (by decide) (hts (.fieldLink RX7 114 "LinClusterModel" "disturbedTo" "[I") (by decide +kernel)) (fun _ h9 => h9) (v := .ref (ad 40)) (congrArg (fun z => some (va_rf z)) (((hM.eq hst.1).2.1 40 (by decide)).1)) dX7_bitTime_132 ?_
                refine lv_iload_n hx hb dX7_bitTime_135 rfl (lv_at hl 2 rfl) ?_
                refine ziald hx hb hK hP (hM.2.1 40 (by decide)).2.1 (show G.2.2 (ad 40) = 200 from (hM.2.1 40 (by decide)).2.2) (vp_in_nI (n := k110) (N := 200) (by omega) (by omega)) dX7_bitTime_136 ?_
                refine lv_topi (fun v217 ev217 => ?_)
                rw [(nI_clamp (n := k110) (by omega))] at ev217
                refine lv_istore_n (lv' := [(1, .int v217), (0, .ref mo), (2, .int (nI k110))]) hx hb dX7_bitTime_137 rfl hl (by decide) rfl (fun ls hl => ?_)
                refine lv_aload_n hx hb dX7_bitTime_138 rfl (lv_at hl 1 rfl) ?_
                refine lv_dup hx hb dX7_bitTime_139 rfl ?_
                refine zget (ci := 7) (C := RX7) (T := TX7) (N := 42) hx hb hts hi7 hown hK hP hM.1 rfl rfl 41 (by decide) (hts (.fieldLink RX7 137 "LinClusterModel" "disturbed" "I") (by decide +kernel)) (fun _ h9 => h9) rfl dX7_bitTime_140 ?_
                refine lv_topi (fun v218 ev218 => ?_)
                obtain rfl : v218 = (nI (d7 + 1)) := ev218.trans kd9
                refine lv_iconst (v := 1) hx hb dX7_bitTime_143 (by decide) ?_
                refine lv_isub hx hb dX7_bitTime_144 ?_
                refine lv_topi (fun v219 ev219 => ?_)
                obtain rfl : v219 = nI d7 := ev219.trans (nI_pred d7)
                refine zputi (ci := 7) (v := (nI d7)) (ty := .int) (C := RX7) (T := TX7) (N := 42) hx hb hts hi7 tyX7 tyX7_ok nmX7 hown hK hP hD hS hM.1 rfl rfl 41 (by decide) (hts (.fieldLink RX7 137 "LinClusterModel" "disturbed" "I") (by decide +kernel)) (fun _ h9 => h9) rfl (by decide +kernel) rfl rfl (Nat.le_of_ble_eq_true rfl) rfl dX7_bitTime_145 (fun H locs hP hD hS => ?_)
                have hst := zC.pf hM hst (k := 41) (by decide) (nI d7)
                have kn220 := zpi_ff S110_ mo 41 (nI d7) (i := 33) (by decide) kt110
                have hI := hI.dist hM (q := d7) (by omega)
                have kn221 := zpi_s S110_ mo 41 (nI d7)
                refine lv_aload_n hx hb dX7_bitTime_148 rfl (lv_at hl 1 rfl) ?_
                refine zget (ci := 7) (C := RX7) (T := TX7) (N := 42) hx hb hts hi7 hown hK hP hM.1 rfl rfl 39 (by decide) (hts (.fieldLink RX7 111 "LinClusterModel" "disturbedAt" "[I") (by decide +kernel)) (fun _ h9 => h9) (v := .ref (ad 39)) (congrArg (fun z => some (va_rf z)) (((hM.eq hst.1).2.1 39 (by decide)).1)) dX7_bitTime_149 ?_
                refine lv_iload_n hx hb dX7_bitTime_152 rfl (lv_at hl 2 rfl) ?_
                refine lv_aload_n hx hb dX7_bitTime_153 rfl (lv_at hl 1 rfl) ?_
                refine zget (ci := 7) (C := RX7) (T := TX7) (N := 42) hx hb hts hi7 hown hK hP hM.1 rfl rfl 39 (by decide) (hts (.fieldLink RX7 111 "LinClusterModel" "disturbedAt" "[I") (by decide +kernel)) (fun _ h9 => h9) (v := .ref (ad 39)) (congrArg (fun z => some (va_rf z)) (((hM.eq hst.1).2.1 39 (by decide)).1)) dX7_bitTime_154 ?_
                refine lv_aload_n hx hb dX7_bitTime_157 rfl (lv_at hl 1 rfl) ?_
                refine zget (ci := 7) (C := RX7) (T := TX7) (N := 42) hx hb hts hi7 hown hK hP hM.1 rfl rfl 41 (by decide) (hts (.fieldLink RX7 137 "LinClusterModel" "disturbed" "I") (by decide +kernel)) (fun _ h9 => h9) rfl dX7_bitTime_158 ?_
                refine lv_topi (fun v222 ev222 => ?_)
                obtain rfl : v222 = (nI d7) := ev222.trans kn221
                refine ziald hx hb hK hP (hM.2.1 39 (by decide)).2.1 (show G.2.2 (ad 39) = 200 from (hM.2.1 39 (by decide)).2.2) (vp_in_nI (n := d7) (N := 200) (by omega) (by omega)) dX7_bitTime_161 ?_
                refine lv_topi (fun v223 ev223 => ?_)
                rw [(nI_clamp (n := d7) (by omega))] at ev223
                refine ziast (x := v223) hx hb hK hP hD hS (hM.2.1 39 (by decide)).2.1 (show G.2.2 (ad 39) = 200 from (hM.2.1 39 (by decide)).2.2) (vp_in_nI (n := k110) (N := 200) (by omega) (by omega)) dX7_bitTime_162 (fun H locs hP hD hS => ?_)
                rw [(nI_clamp (n := k110) (by omega))] at hP hD
                have hst := zC.pa hM hst (k := 39) (by decide) (by decide) k110 v223
                have kn224 := zpi_af hM (zpi S110_ mo 41 (nI d7)) (k := 39) (by decide) k110 v223 (i := 33) kn220
                have kn225 := zpi_af hM (zpi S110_ mo 41 (nI d7)) (k := 39) (by decide) k110 v223 (i := 41) kn221
                have hI := hI.free hM (k := 39) (by decide) (by decide) k110 v223
                have kn226 := zpi_s (zpi S110_ mo 41 (nI d7)) (ad 39) k110 v223
                refine lv_aload_n hx hb dX7_bitTime_163 rfl (lv_at hl 1 rfl) ?_
                refine zget (ci := 7) (C := RX7) (T := TX7) (N := 42) hx hb hts hi7 hown hK hP hM.1 rfl rfl 40 (by decide) (hts (.fieldLink RX7 114 "LinClusterModel" "disturbedTo" "[I") (by decide +kernel)) (fun _ h9 => h9) (v := .ref (ad 40)) (congrArg (fun z => some (va_rf z)) (((hM.eq hst.1).2.1 40 (by decide)).1)) dX7_bitTime_164 ?_
                refine lv_iload_n hx hb dX7_bitTime_167 rfl (lv_at hl 2 rfl) ?_
                refine lv_aload_n hx hb dX7_bitTime_168 rfl (lv_at hl 1 rfl) ?_
                refine zget (ci := 7) (C := RX7) (T := TX7) (N := 42) hx hb hts hi7 hown hK hP hM.1 rfl rfl 40 (by decide) (hts (.fieldLink RX7 114 "LinClusterModel" "disturbedTo" "[I") (by decide +kernel)) (fun _ h9 => h9) (v := .ref (ad 40)) (congrArg (fun z => some (va_rf z)) (((hM.eq hst.1).2.1 40 (by decide)).1)) dX7_bitTime_169 ?_
                refine lv_aload_n hx hb dX7_bitTime_172 rfl (lv_at hl 1 rfl) ?_
                refine zget (ci := 7) (C := RX7) (T := TX7) (N := 42) hx hb hts hi7 hown hK hP hM.1 rfl rfl 41 (by decide) (hts (.fieldLink RX7 137 "LinClusterModel" "disturbed" "I") (by decide +kernel)) (fun _ h9 => h9) rfl dX7_bitTime_173 ?_
                refine lv_topi (fun v227 ev227 => ?_)
                obtain rfl : v227 = (nI d7) := ev227.trans kn225
                refine ziald hx hb hK hP (hM.2.1 40 (by decide)).2.1 (show G.2.2 (ad 40) = 200 from (hM.2.1 40 (by decide)).2.2) (vp_in_nI (n := d7) (N := 200) (by omega) (by omega)) dX7_bitTime_176 ?_
                refine lv_topi (fun v228 ev228 => ?_)
                rw [(nI_clamp (n := d7) (by omega))] at ev228
                refine ziast (x := v228) hx hb hK hP hD hS (hM.2.1 40 (by decide)).2.1 (show G.2.2 (ad 40) = 200 from (hM.2.1 40 (by decide)).2.2) (vp_in_nI (n := k110) (N := 200) (by omega) (by omega)) dX7_bitTime_177 (fun H locs hP hD hS => ?_)
                rw [(nI_clamp (n := k110) (by omega))] at hP hD
                have hst := zC.pa hM hst (k := 40) (by decide) (by decide) k110 v228
                have kn229 := zpi_af hM (zpi (zpi S110_ mo 41 (nI d7)) (ad 39) k110 v223) (k := 40) (by decide) k110 v228 (i := 33) kn224
                have kn230 := zpi_af hM (zpi (zpi S110_ mo 41 (nI d7)) (ad 39) k110 v223) (k := 40) (by decide) k110 v228 (i := 41) kn225
                have kn231 := zpi_o hM (zpi (zpi S110_ mo 41 (nI d7)) (ad 39) k110 v223) (i := 39) (k := 40) (by decide) (by decide) (by decide) k110 v228 kn226
                have hI := hI.free hM (k := 40) (by decide) (by decide) k110 v228
                have kn232 := zpi_s (zpi (zpi S110_ mo 41 (nI d7)) (ad 39) k110 v223) (ad 40) k110 v228
                refine lv_aload_n hx hb dX7_bitTime_178 rfl (lv_at hl 1 rfl) ?_
                refine zget (ci := 7) (C := RX7) (T := TX7) (N := 42) hx hb hts hi7 hown hK hP hM.1 rfl rfl 41 (by decide) (hts (.fieldLink RX7 137 "LinClusterModel" "disturbed" "I") (by decide +kernel)) (fun _ h9 => h9) rfl dX7_bitTime_179 ?_
                refine lv_topi (fun v233 ev233 => ?_)
                obtain rfl : v233 = (nI d7) := ev233.trans kn230
                refine lv_istore_n (lv' := [(2, .int (nI d7)), (1, .int v217), (0, .ref mo)]) hx hb dX7_bitTime_182 rfl hl (by decide) rfl (fun ls hl => ?_)
                obtain ⟨v234, ev234⟩ : ∃ y : Int32, y = (nI d7) + 1 := ⟨_, rfl⟩
                refine lv_iinc (v := v234) (lv' := [(2, .int v234), (1, .int v217), (0, .ref mo)]) hx hb dX7_bitTime_183 hl (k := 0) rfl (by rw [ev234]; rfl) (by decide) rfl (fun ls hl => ?_)
                refine lv_goto (tgt := 110) hx hb dX7_bitTime_186 (by decide) ?_
                have e9 : v234 = nI (d7 + 1) := by rw [ev234]; exact nI_1 d7
                rw [e9] at hl
                have hl : lv_has ls 3 [(2, .int (nI (d7 + 1))), (1, .int v217), (0, .ref mo)] := hl
                refine lv_iload_n hx hb dX7_bitTime_110 rfl (lv_at hl 0 rfl) ?_
                refine lv_aload_n hx hb dX7_bitTime_111 rfl (lv_at hl 2 rfl) ?_
                refine zget (ci := 7) (C := RX7) (T := TX7) (N := 42) hx hb hts hi7 hown hK hP hM.1 rfl rfl 41 (by decide) (hts (.fieldLink RX7 137 "LinClusterModel" "disturbed" "I") (by decide +kernel)) (fun _ h9 => h9) rfl dX7_bitTime_112 ?_
                refine lv_topi (fun v235 ev235 => ?_)
                obtain rfl : v235 = (nI d7) := ev235.trans kn230
                refine lv_icmp_ge (tgt := 189) hx hb dX7_bitTime_115 (by decide) (fun c236 => ?_) (fun c236 => ?_)
                · skip
                  refine lv_aload_n hx hb dX7_bitTime_189 rfl (lv_at hl 2 rfl) ?_
                  refine zget (ci := 7) (C := RX7) (T := TX7) (N := 42) hx hb hts hi7 hown hK hP hM.1 rfl rfl 38 (by decide) (hts (.fieldLink RX7 108 "LinClusterModel" "lines" "[I") (by decide +kernel)) (fun _ h9 => h9) (v := .ref (ad 38)) (congrArg (fun z => some (va_rf z)) (((hM.eq hst.1).2.1 38 (by decide)).1)) dX7_bitTime_190 ?_
                  refine lv_aload_n hx hb dX7_bitTime_193 rfl (lv_at hl 2 rfl) ?_
                  refine zget (ci := 7) (C := RX7) (T := TX7) (N := 42) hx hb hts hi7 hown hK hP hM.1 rfl rfl 33 (by decide) (hts (.fieldLink RX7 128 "LinClusterModel" "time" "I") (by decide +kernel)) (fun _ h9 => h9) rfl dX7_bitTime_194 ?_
                  refine lv_topi (fun v237 ev237 => ?_)
                  obtain rfl : v237 = (nI t8) := ev237.trans kn229
                  refine lv_bipush (v := 64) hx hb dX7_bitTime_197 (by decide) ?_
                  refine lv_irem hx hb dX7_bitTime_199 (by decide) ?_
                  refine lv_topi (fun v238 ev238 => ?_)
                  obtain rfl : v238 = nI (t8 % 64) := ev238.trans (pk_rem (a := t8) (d := 64) (by omega) (by omega) (by omega))
                  refine lv_iload_n hx hb dX7_bitTime_200 rfl (lv_at hl 1 rfl) ?_
                  refine ziast (x := v217) hx hb hK hP hD hS (hM.2.1 38 (by decide)).2.1 (show G.2.2 (ad 38) = 64 from (hM.2.1 38 (by decide)).2.2) (vp_in_nI (n := (t8 % 64)) (N := 64) (by omega) (by omega)) dX7_bitTime_201 (fun H locs hP hD hS => ?_)
                  rw [(nI_clamp (n := (t8 % 64)) (by omega))] at hP hD
                  have hst := zC.pa hM hst (k := 38) (by decide) (by decide) (t8 % 64) v217
                  have kn239 := zpi_af hM (zpi (zpi (zpi S110_ mo 41 (nI d7)) (ad 39) k110 v223) (ad 40) k110 v228) (k := 38) (by decide) (t8 % 64) v217 (i := 33) kn229
                  have kn240 := zpi_af hM (zpi (zpi (zpi S110_ mo 41 (nI d7)) (ad 39) k110 v223) (ad 40) k110 v228) (k := 38) (by decide) (t8 % 64) v217 (i := 41) kn230
                  have kn241 := zpi_o hM (zpi (zpi (zpi S110_ mo 41 (nI d7)) (ad 39) k110 v223) (ad 40) k110 v228) (i := 39) (k := 38) (by decide) (by decide) (by decide) (t8 % 64) v217 kn231
                  have kn242 := zpi_o hM (zpi (zpi (zpi S110_ mo 41 (nI d7)) (ad 39) k110 v223) (ad 40) k110 v228) (i := 40) (k := 38) (by decide) (by decide) (by decide) (t8 % 64) v217 kn232
                  have hI := hI.free hM (k := 38) (by decide) (by decide) (t8 % 64) v217
                  have kn243 := zpi_s (zpi (zpi (zpi S110_ mo 41 (nI d7)) (ad 39) k110 v223) (ad 40) k110 v228) (ad 38) (t8 % 64) v217
                  refine lv_iconst (v := 0) hx hb dX7_bitTime_202 (by decide) ?_
                  refine lv_istore_n (lv' := [(2, .int 0), (1, .int v217), (0, .ref mo)]) hx hb dX7_bitTime_203 rfl hl (by decide) rfl (fun ls hl => ?_)
                  refine zloopW 8 (fun k9 (x9 : Int32) => [(0, .ref mo), (1, .int x9), (2, .int (nI k9))]) (fun _ S' => zC mo ad [7, 8, 16, 17, 18, 19, 20, 21, 22, 23, 24, 25, 26, 27, 28, 29, 30, 31, 32, 38, 39, 40] [33, 34, 35, 36, 37, 41] S S' ∧ zI mo ad S' ∧ S'.1 mo 33 = nI t8) ?_ ?_ 8 0 v217 (zpi (zpi (zpi (zpi S110_ mo 41 (nI d7)) (ad 39) k110 v223) (ad 40) k110 v228) (ad 38) (t8 % 64) v217) H locs ls rfl ⟨hst, hI, kn239⟩ hP hD hS (lv_sub hl [2, 1, 0] rfl)
                  · intro x204 S204_ H locs ls hJ9 hP hD hS hl
                    obtain ⟨hst, hI, kt204⟩ := hJ9
                    have hl : lv_has ls 3 [(0, .ref mo), (1, .int x204), (2, .int (nI 8))] := hl
                    refine lv_iload_n hx hb dX7_bitTime_204 rfl (lv_at hl 2 rfl) ?_
                    refine lv_bipush (v := 8) hx hb dX7_bitTime_205 (by decide) ?_
                    refine lv_icmp_ge (tgt := 222) hx hb dX7_bitTime_207 (by decide) (fun c244 => ?_) (fun c244 => ?_)
                    · skip
                      refine lv_aload_n hx hb dX7_bitTime_222 rfl (lv_at hl 0 rfl) ?_
                      refine lv_dup hx hb dX7_bitTime_223 rfl ?_
                      refine zget (ci := 7) (C := RX7) (T := TX7) (N := 42) hx hb hts hi7 hown hK hP hM.1 rfl rfl 33 (by decide) (hts (.fieldLink RX7 128 "LinClusterModel" "time" "I") (by decide +kernel)) (fun _ h9 => h9) rfl dX7_bitTime_224 ?_
                      refine lv_topi (fun v245 ev245 => ?_)
                      obtain rfl : v245 = (nI t8) := ev245.trans kt204
                      refine lv_iconst (v := 1) hx hb dX7_bitTime_227 (by decide) ?_
                      refine lv_iadd hx hb dX7_bitTime_228 ?_
                      refine lv_topi (fun v246 ev246 => ?_)
                      obtain rfl : v246 = nI (t8 + 1) := ev246.trans (nI_add t8 1)
                      refine zputi (ci := 7) (v := (nI (t8 + 1))) (ty := .int) (C := RX7) (T := TX7) (N := 42) hx hb hts hi7 tyX7 tyX7_ok nmX7 hown hK hP hD hS hM.1 rfl rfl 33 (by decide) (hts (.fieldLink RX7 128 "LinClusterModel" "time" "I") (by decide +kernel)) (fun _ h9 => h9) rfl (by decide +kernel) rfl rfl (Nat.le_of_ble_eq_true rfl) rfl dX7_bitTime_229 (fun H locs hP hD hS => ?_)
                      have hst := zC.pf hM hst (k := 33) (by decide) (nI (t8 + 1))
                      have hI := hI.time hM (q := t8 + 1) (by omega)
                      have kn247 := zpi_s S204_ mo 33 (nI (t8 + 1))
                      exact W.vret hx hb hr (fun t ht hW => ⟨⟨(zpi S204_ mo 33 (nI (t8 + 1))), rfl, ⟨⟨hst, hI⟩, kn247⟩, by rw [ht]; exact hP, va_K.moved hW.alike hK, hD⟩, hS.F ht⟩) hS.2.2 dX7_bitTime_232
                    · exact absurd (nI_le (a := 8) (b := 8) (Nat.le_refl _) (by omega)) c244
                  · intro n204 k204 x204 S204_ H locs ls hk204 ih hJ9 hP hD hS hl
                    obtain ⟨hst, hI, kt204⟩ := hJ9
                    have hl : lv_has ls 3 [(0, .ref mo), (1, .int x204), (2, .int (nI k204))] := hl
                    refine lv_iload_n hx hb dX7_bitTime_204 rfl (lv_at hl 2 rfl) ?_
                    refine lv_bipush (v := 8) hx hb dX7_bitTime_205 (by decide) ?_
                    refine lv_icmp_ge (tgt := 222) hx hb dX7_bitTime_207 (by decide) (fun c248 => ?_) (fun c248 => ?_)
                    · exact absurd c248 (nI_ge (a := k204) (b := 8) (by omega) (by omega))
                    · skip
                      refine lv_aload_n hx hb dX7_bitTime_210 rfl (lv_at hl 0 rfl) ?_
                      refine lv_iload_n hx hb dX7_bitTime_211 rfl (lv_at hl 2 rfl) ?_
                      refine lv_iload_n hx hb dX7_bitTime_212 rfl (lv_at hl 1 rfl) ?_
                      refine zcallv (va_runV (As := [.int (nI k204), .int x204]) (rest := []) ⟨hx, hb, hml, hown, hts⟩ (c_X7_look l dC dI cy G S204_ H.size mo ad k204 x204 (hM.eq hst.1) hI (by omega)) (cwV 2 hts gX7_bitTime_X7_look rfl rfl rfl (by decide +kernel) ⟨Nat.le_of_ble_eq_true rfl, Nat.le_of_ble_eq_true rfl⟩) (zpreV hK hP hD hN (zrecv7 hK hP hM.1)) rfl rfl hl.1 rfl (lv_room (Nat.le_of_ble_eq_true rfl)) dX7_bitTime_213 ⟨Nat.le_of_ble_eq_true rfl, Nat.le_of_ble_eq_true rfl⟩) hS hD hA (fun S250 H locs hr249 hP hD hS => ?_)
                      have hst := hst.trans (hr249.1.mono (by decide) (by decide))
                      have hI := hr249.2
                      have kn251 := (hr249.1.2.2 33 (by decide)).trans kt204
                      obtain ⟨v252, ev252⟩ : ∃ y : Int32, y = (nI k204) + 1 := ⟨_, rfl⟩
                      refine lv_iinc (v := v252) (lv' := [(2, .int v252), (0, .ref mo), (1, .int x204)]) hx hb dX7_bitTime_216 hl (k := 2) rfl (by rw [ev252]; rfl) (by decide) rfl (fun ls hl => ?_)
                      refine lv_goto (tgt := 204) hx hb dX7_bitTime_219 (by decide) ?_
                      have e9 : v252 = nI (k204 + 1) := by rw [ev252]; exact nI_1 k204
                      rw [e9] at hl
                      exact ih x204 S250 H locs ls ⟨hst, hI, kn251⟩ hP hD hS (lv_sub hl [1, 2, 0] rfl)
                · exact absurd (nI_le (a := d7) (b := d7 + 1) (by omega) (by omega)) c236
        · exact absurd (nI_le (a := 8) (b := 8) (Nat.le_refl _) (by omega)) c194
      · intro n46 k46 x46 S46_ H locs ls hk46 ih hJ9 hP hD hS hl
        obtain ⟨hst, hI, kt46⟩ := hJ9
        have hl : lv_has ls 3 [(0, .ref mo), (1, .int x46), (2, .int (nI k46))] := hl
        refine lv_iload_n hx hb dX7_bitTime_46 rfl (lv_at hl 2 rfl) ?_
        refine lv_bipush (v := 8) hx hb dX7_bitTime_47 (by decide) ?_
        refine lv_icmp_ge (tgt := 108) hx hb dX7_bitTime_49 (by decide) (fun c253 => ?_) (fun c253 => ?_)
        · exact absurd c253 (nI_ge (a := k46) (b := 8) (by omega) (by omega))
        · skip
          refine lv_aload_n hx hb dX7_bitTime_52 rfl (lv_at hl 0 rfl) ?_
          refine zget (ci := 7) (C := RX7) (T := TX7) (N := 42) hx hb hts hi7 hown hK hP hM.1 rfl rfl 24 (by decide) (hts (.fieldLink RX7 77 "LinClusterModel" "waking" "[I") (by decide +kernel)) (fun _ h9 => h9) (v := .ref (ad 24)) (congrArg (fun z => some (va_rf z)) (((hM.eq hst.1).2.1 24 (by decide)).1)) dX7_bitTime_53 ?_
          refine lv_iload_n hx hb dX7_bitTime_56 rfl (lv_at hl 2 rfl) ?_
          refine ziald hx hb hK hP (hM.2.1 24 (by decide)).2.1 (show G.2.2 (ad 24) = 8 from (hM.2.1 24 (by decide)).2.2) (vp_in_nI (n := k46) (N := 8) (by omega) (by omega)) dX7_bitTime_57 ?_
          refine lv_topi (fun v254 ev254 => ?_)
          rw [(nI_clamp (n := k46) (by omega))] at ev254
          refine lv_if_le (tgt := 73) hx hb dX7_bitTime_58 (by decide) (fun c255 => ?_) (fun c255 => ?_)
          · skip
            refine lv_aload_n hx hb dX7_bitTime_73 rfl (lv_at hl 0 rfl) ?_
            refine zget (ci := 7) (C := RX7) (T := TX7) (N := 42) hx hb hts hi7 hown hK hP hM.1 rfl rfl 16 (by decide) (hts (.fieldLink RX7 53 "LinClusterModel" "at" "[I") (by decide +kernel)) (fun _ h9 => h9) (v := .ref (ad 16)) (congrArg (fun z => some (va_rf z)) (((hM.eq hst.1).2.1 16 (by decide)).1)) dX7_bitTime_74 ?_
            refine lv_iload_n hx hb dX7_bitTime_77 rfl (lv_at hl 2 rfl) ?_
            refine ziald hx hb hK hP (hM.2.1 16 (by decide)).2.1 (show G.2.2 (ad 16) = 8 from (hM.2.1 16 (by decide)).2.2) (vp_in_nI (n := k46) (N := 8) (by omega) (by omega)) dX7_bitTime_78 ?_
            refine lv_topi (fun v256 ev256 => ?_)
            rw [(nI_clamp (n := k46) (by omega))] at ev256
            refine lv_iconst (v := 4) hx hb dX7_bitTime_79 (by decide) ?_
            refine lv_icmp_ne (tgt := 102) hx hb dX7_bitTime_80 (by decide) (fun c257 => ?_) (fun c257 => ?_)
            · skip
              obtain ⟨v258, ev258⟩ : ∃ y : Int32, y = (nI k46) + 1 := ⟨_, rfl⟩
              refine lv_iinc (v := v258) (lv' := [(2, .int v258), (0, .ref mo), (1, .int x46)]) hx hb dX7_bitTime_102 hl (k := 2) rfl (by rw [ev258]; rfl) (by decide) rfl (fun ls hl => ?_)
              refine lv_goto (tgt := 46) hx hb dX7_bitTime_105 (by decide) ?_
              have e9 : v258 = nI (k46 + 1) := by rw [ev258]; exact nI_1 k46
              rw [e9] at hl
              exact ih x46 S46_ H locs ls ⟨hst, hI, kt46⟩ hP hD hS (lv_sub hl [1, 2, 0] rfl)
            · skip
              have kn259 := ev256.symm.trans c257
              obtain ⟨hb8, i8, L8, hi8, ei8, hL8, eL8, h48, h58⟩ := hI.1.2 k46 (by omega)
              obtain ⟨q9, eq9, hq9⟩ := h48 kn259
              refine lv_aload_n hx hb dX7_bitTime_83 rfl (lv_at hl 0 rfl) ?_
              refine zget (ci := 7) (C := RX7) (T := TX7) (N := 42) hx hb hts hi7 hown hK hP hM.1 rfl rfl 31 (by decide) (hts (.fieldLink RX7 98 "LinClusterModel" "before" "[I") (by decide +kernel)) (fun _ h9 => h9) (v := .ref (ad 31)) (congrArg (fun z => some (va_rf z)) (((hM.eq hst.1).2.1 31 (by decide)).1)) dX7_bitTime_84 ?_
              refine lv_iload_n hx hb dX7_bitTime_87 rfl (lv_at hl 2 rfl) ?_
              refine ziald hx hb hK hP (hM.2.1 31 (by decide)).2.1 (show G.2.2 (ad 31) = 8 from (hM.2.1 31 (by decide)).2.2) (vp_in_nI (n := k46) (N := 8) (by omega) (by omega)) dX7_bitTime_88 ?_
              refine lv_topi (fun v260 ev260 => ?_)
              rw [(nI_clamp (n := k46) (by omega))] at ev260
              refine lv_if_ne (tgt := 102) hx hb dX7_bitTime_89 (by decide) (fun c261 => ?_) (fun c261 => ?_)
              · skip
                obtain ⟨v262, ev262⟩ : ∃ y : Int32, y = (nI k46) + 1 := ⟨_, rfl⟩
                refine lv_iinc (v := v262) (lv' := [(2, .int v262), (0, .ref mo), (1, .int x46)]) hx hb dX7_bitTime_102 hl (k := 2) rfl (by rw [ev262]; rfl) (by decide) rfl (fun ls hl => ?_)
                refine lv_goto (tgt := 46) hx hb dX7_bitTime_105 (by decide) ?_
                have e9 : v262 = nI (k46 + 1) := by rw [ev262]; exact nI_1 k46
                rw [e9] at hl
                exact ih x46 S46_ H locs ls ⟨hst, hI, kt46⟩ hP hD hS (lv_sub hl [1, 2, 0] rfl)
              · skip
                have kn263 := ev260.symm.trans c261
                refine lv_aload_n hx hb dX7_bitTime_92 rfl (lv_at hl 0 rfl) ?_
                refine lv_iload_n hx hb dX7_bitTime_93 rfl (lv_at hl 2 rfl) ?_
                refine vp_callSi (va_Run.run (va_runV (As := [.int (nI k46)]) (rest := []) ⟨hx, hb, hml, hown, hts⟩ (c_X7_sayingBit l dC dI cy G S46_ H.size mo ad k46 q9 (hM.eq hst.1) (by omega) (by omega) eq9) (cwV 1 hts gX7_bitTime_X7_sayingBit rfl rfl rfl (by decide +kernel) ⟨Nat.le_of_ble_eq_true rfl, Nat.le_of_ble_eq_true rfl⟩) (zpreV hK hP hD hN (zrecv7 hK hP hM.1)) rfl rfl hl.1 rfl (lv_room (Nat.le_of_ble_eq_true rfl)) dX7_bitTime_94 ⟨Nat.le_of_ble_eq_true rfl, Nat.le_of_ble_eq_true rfl⟩)) (fun r264 hr264 => ?_)
                refine lv_if_ne (tgt := 102) hx hb dX7_bitTime_97 (by decide) (fun c265 => ?_) (fun c265 => ?_)
                · skip
                  obtain ⟨v266, ev266⟩ : ∃ y : Int32, y = (nI k46) + 1 := ⟨_, rfl⟩
                  refine lv_iinc (v := v266) (lv' := [(2, .int v266), (0, .ref mo), (1, .int x46)]) hx hb dX7_bitTime_102 hl (k := 2) rfl (by rw [ev266]; rfl) (by decide) rfl (fun ls hl => ?_)
                  refine lv_goto (tgt := 46) hx hb dX7_bitTime_105 (by decide) ?_
                  have e9 : v266 = nI (k46 + 1) := by rw [ev266]; exact nI_1 k46
                  rw [e9] at hl
                  exact ih x46 S46_ H locs ls ⟨hst, hI, kt46⟩ hP hD hS (lv_sub hl [1, 2, 0] rfl)
                · skip
                  refine lv_iconst (v := 0) hx hb dX7_bitTime_100 (by decide) ?_
                  refine lv_istore_n (lv' := [(1, .int 0), (0, .ref mo), (2, .int (nI k46))]) hx hb dX7_bitTime_101 rfl hl (by decide) rfl (fun ls hl => ?_)
                  obtain ⟨v267, ev267⟩ : ∃ y : Int32, y = (nI k46) + 1 := ⟨_, rfl⟩
                  refine lv_iinc (v := v267) (lv' := [(2, .int v267), (1, .int 0), (0, .ref mo)]) hx hb dX7_bitTime_102 hl (k := 2) rfl (by rw [ev267]; rfl) (by decide) rfl (fun ls hl => ?_)
                  refine lv_goto (tgt := 46) hx hb dX7_bitTime_105 (by decide) ?_
                  have e9 : v267 = nI (k46 + 1) := by rw [ev267]; exact nI_1 k46
                  rw [e9] at hl
                  exact ih 0 S46_ H locs ls ⟨hst, hI, kt46⟩ hP hD hS (lv_sub hl [2, 1, 0] rfl)
          · skip
            refine lv_aload_n hx hb dX7_bitTime_61 rfl (lv_at hl 0 rfl) ?_
            refine zget (ci := 7) (C := RX7) (T := TX7) (N := 42) hx hb hts hi7 hown hK hP hM.1 rfl rfl 24 (by decide) (hts (.fieldLink RX7 77 "LinClusterModel" "waking" "[I") (by decide +kernel)) (fun _ h9 => h9) (v := .ref (ad 24)) (congrArg (fun z => some (va_rf z)) (((hM.eq hst.1).2.1 24 (by decide)).1)) dX7_bitTime_62 ?_
            refine lv_iload_n hx hb dX7_bitTime_65 rfl (lv_at hl 2 rfl) ?_
            refine lv_dup2_11 hx hb dX7_bitTime_66 rfl rfl ?_
            refine ziald hx hb hK hP (hM.2.1 24 (by decide)).2.1 (show G.2.2 (ad 24) = 8 from (hM.2.1 24 (by decide)).2.2) (vp_in_nI (n := k46) (N := 8) (by omega) (by omega)) dX7_bitTime_67 ?_
            refine lv_topi (fun v268 ev268 => ?_)
            rw [(nI_clamp (n := k46) (by omega))] at ev268
            refine lv_iconst (v := 1) hx hb dX7_bitTime_68 (by decide) ?_
            refine lv_isub hx hb dX7_bitTime_69 ?_
            refine lv_topi (fun v269 ev269 => ?_)
            refine ziast (x := v269) hx hb hK hP hD hS (hM.2.1 24 (by decide)).2.1 (show G.2.2 (ad 24) = 8 from (hM.2.1 24 (by decide)).2.2) (vp_in_nI (n := k46) (N := 8) (by omega) (by omega)) dX7_bitTime_70 (fun H locs hP hD hS => ?_)
            rw [(nI_clamp (n := k46) (by omega))] at hP hD
            have hst := zC.pa hM hst (k := 24) (by decide) (by decide) k46 v269
            have kn270 := zpi_af hM S46_ (k := 24) (by decide) k46 v269 (i := 33) kt46
            have hI := hI.free hM (k := 24) (by decide) (by decide) k46 v269
            have kn271 := zpi_s S46_ (ad 24) k46 v269
            refine lv_iconst (v := 0) hx hb dX7_bitTime_71 (by decide) ?_
            refine lv_istore_n (lv' := [(1, .int 0), (0, .ref mo), (2, .int (nI k46))]) hx hb dX7_bitTime_72 rfl hl (by decide) rfl (fun ls hl => ?_)
            refine lv_aload_n hx hb dX7_bitTime_73 rfl (lv_at hl 1 rfl) ?_
            refine zget (ci := 7) (C := RX7) (T := TX7) (N := 42) hx hb hts hi7 hown hK hP hM.1 rfl rfl 16 (by decide) (hts (.fieldLink RX7 53 "LinClusterModel" "at" "[I") (by decide +kernel)) (fun _ h9 => h9) (v := .ref (ad 16)) (congrArg (fun z => some (va_rf z)) (((hM.eq hst.1).2.1 16 (by decide)).1)) dX7_bitTime_74 ?_
            refine lv_iload_n hx hb dX7_bitTime_77 rfl (lv_at hl 2 rfl) ?_
            refine ziald hx hb hK hP (hM.2.1 16 (by decide)).2.1 (show G.2.2 (ad 16) = 8 from (hM.2.1 16 (by decide)).2.2) (vp_in_nI (n := k46) (N := 8) (by omega) (by omega)) dX7_bitTime_78 ?_
            refine lv_topi (fun v272 ev272 => ?_)
            rw [(nI_clamp (n := k46) (by omega))] at ev272
            refine lv_iconst (v := 4) hx hb dX7_bitTime_79 (by decide) ?_
            refine lv_icmp_ne (tgt := 102) hx hb dX7_bitTime_80 (by decide) (fun c273 => ?_) (fun c273 => ?_)
            · skip
              obtain ⟨v274, ev274⟩ : ∃ y : Int32, y = (nI k46) + 1 := ⟨_, rfl⟩
              refine lv_iinc (v := v274) (lv' := [(2, .int v274), (1, .int 0), (0, .ref mo)]) hx hb dX7_bitTime_102 hl (k := 2) rfl (by rw [ev274]; rfl) (by decide) rfl (fun ls hl => ?_)
              refine lv_goto (tgt := 46) hx hb dX7_bitTime_105 (by decide) ?_
              have e9 : v274 = nI (k46 + 1) := by rw [ev274]; exact nI_1 k46
              rw [e9] at hl
              exact ih 0 (zpi S46_ (ad 24) k46 v269) H locs ls ⟨hst, hI, kn270⟩ hP hD hS (lv_sub hl [2, 1, 0] rfl)
            · skip
              have kn275 := ev272.symm.trans c273
              obtain ⟨hb8, i8, L8, hi8, ei8, hL8, eL8, h48, h58⟩ := hI.1.2 k46 (by omega)
              obtain ⟨q9, eq9, hq9⟩ := h48 kn275
              refine lv_aload_n hx hb dX7_bitTime_83 rfl (lv_at hl 1 rfl) ?_
              refine zget (ci := 7) (C := RX7) (T := TX7) (N := 42) hx hb hts hi7 hown hK hP hM.1 rfl rfl 31 (by decide) (hts (.fieldLink RX7 98 "LinClusterModel" "before" "[I") (by decide +kernel)) (fun _ h9 => h9) (v := .ref (ad 31)) (congrArg (fun z => some (va_rf z)) (((hM.eq hst.1).2.1 31 (by decide)).1)) dX7_bitTime_84 ?_
              refine lv_iload_n hx hb dX7_bitTime_87 rfl (lv_at hl 2 rfl) ?_
              refine ziald hx hb hK hP (hM.2.1 31 (by decide)).2.1 (show G.2.2 (ad 31) = 8 from (hM.2.1 31 (by decide)).2.2) (vp_in_nI (n := k46) (N := 8) (by omega) (by omega)) dX7_bitTime_88 ?_
              refine lv_topi (fun v276 ev276 => ?_)
              rw [(nI_clamp (n := k46) (by omega))] at ev276
              refine lv_if_ne (tgt := 102) hx hb dX7_bitTime_89 (by decide) (fun c277 => ?_) (fun c277 => ?_)
              · skip
                obtain ⟨v278, ev278⟩ : ∃ y : Int32, y = (nI k46) + 1 := ⟨_, rfl⟩
                refine lv_iinc (v := v278) (lv' := [(2, .int v278), (1, .int 0), (0, .ref mo)]) hx hb dX7_bitTime_102 hl (k := 2) rfl (by rw [ev278]; rfl) (by decide) rfl (fun ls hl => ?_)
                refine lv_goto (tgt := 46) hx hb dX7_bitTime_105 (by decide) ?_
                have e9 : v278 = nI (k46 + 1) := by rw [ev278]; exact nI_1 k46
                rw [e9] at hl
                exact ih 0 (zpi S46_ (ad 24) k46 v269) H locs ls ⟨hst, hI, kn270⟩ hP hD hS (lv_sub hl [2, 1, 0] rfl)
              · skip
                have kn279 := ev276.symm.trans c277
                refine lv_aload_n hx hb dX7_bitTime_92 rfl (lv_at hl 1 rfl) ?_
                refine lv_iload_n hx hb dX7_bitTime_93 rfl (lv_at hl 2 rfl) ?_
                refine vp_callSi (va_Run.run (va_runV (As := [.int (nI k46)]) (rest := []) ⟨hx, hb, hml, hown, hts⟩ (c_X7_sayingBit l dC dI cy G (zpi S46_ (ad 24) k46 v269) H.size mo ad k46 q9 (hM.eq hst.1) (by omega) (by omega) eq9) (cwV 1 hts gX7_bitTime_X7_sayingBit rfl rfl rfl (by decide +kernel) ⟨Nat.le_of_ble_eq_true rfl, Nat.le_of_ble_eq_true rfl⟩) (zpreV hK hP hD hN (zrecv7 hK hP hM.1)) rfl rfl hl.1 rfl (lv_room (Nat.le_of_ble_eq_true rfl)) dX7_bitTime_94 ⟨Nat.le_of_ble_eq_true rfl, Nat.le_of_ble_eq_true rfl⟩)) (fun r280 hr280 => ?_)
                refine lv_if_ne (tgt := 102) hx hb dX7_bitTime_97 (by decide) (fun c281 => ?_) (fun c281 => ?_)
                · skip
                  obtain ⟨v282, ev282⟩ : ∃ y : Int32, y = (nI k46) + 1 := ⟨_, rfl⟩
                  refine lv_iinc (v := v282) (lv' := [(2, .int v282), (1, .int 0), (0, .ref mo)]) hx hb dX7_bitTime_102 hl (k := 2) rfl (by rw [ev282]; rfl) (by decide) rfl (fun ls hl => ?_)
                  refine lv_goto (tgt := 46) hx hb dX7_bitTime_105 (by decide) ?_
                  have e9 : v282 = nI (k46 + 1) := by rw [ev282]; exact nI_1 k46
                  rw [e9] at hl
                  exact ih 0 (zpi S46_ (ad 24) k46 v269) H locs ls ⟨hst, hI, kn270⟩ hP hD hS (lv_sub hl [2, 1, 0] rfl)
                · skip
                  refine lv_iconst (v := 0) hx hb dX7_bitTime_100 (by decide) ?_
                  refine lv_istore_n (lv' := [(1, .int 0), (0, .ref mo), (2, .int (nI k46))]) hx hb dX7_bitTime_101 rfl hl (by decide) rfl (fun ls hl => ?_)
                  obtain ⟨v283, ev283⟩ : ∃ y : Int32, y = (nI k46) + 1 := ⟨_, rfl⟩
                  refine lv_iinc (v := v283) (lv' := [(2, .int v283), (1, .int 0), (0, .ref mo)]) hx hb dX7_bitTime_102 hl (k := 2) rfl (by rw [ev283]; rfl) (by decide) rfl (fun ls hl => ?_)
                  refine lv_goto (tgt := 46) hx hb dX7_bitTime_105 (by decide) ?_
                  have e9 : v283 = nI (k46 + 1) := by rw [ev283]; exact nI_1 k46
                  rw [e9] at hl
                  exact ih 0 (zpi S46_ (ad 24) k46 v269) H locs ls ⟨hst, hI, kn270⟩ hP hD hS (lv_sub hl [2, 1, 0] rfl)
