def zLw (dC : Nat → ClassId) (dI : Nat → Nat → Nat) (cy : Nat → ClassId) (s : State) (A : Nat → Prop) (x f n sc ia na d ka va o mo : Nat) (ad : Nat → Nat) (G1 : zG) (S1 : zS) (G2 : zG) (S2 : zS) (H : Heap) (locs : List Loc) : Prop :=
  (va_P (dC, dI) vwCl (zW cy G1 S1) H ∧ va_D A (zW cy G1 S1) ∧ va_P (dC, dI) vwCl (zW cy G2 S2) H ∧ va_D A (zW cy G2 S2) ∧ zAp (zW cy G1 S1) (zW cy G2 S2)) ∧ va_S A s.heap H locs ∧ zCI G1 S1 x f n sc ia na d ka va o ∧ zMI G2 S2 mo ad ∧ zRl x f n sc mo ad S1 S2 ∧ zRy f ad S1 S2
/-- what holds all through the law -/
def zLc (p : Program) (l : Launch) (s : State) (m : MethodId) (args : Array Value) (c : Code) (dC : Nat → ClassId) (dI : Nat → Nat → Nat) (cy : Nat → ClassId) (A : Nat → Prop) (b L : Nat) (xs : Nat → Int32) : Prop :=
  CallFix p m c cL_law 7 s args wsL_law RL ∧ (va_X b L xs s s.heap ∧ b < s.heap.size ∧ ¬ A b ∧ L ≤ 5) ∧ (∀ q : Nat, s.heap.size ≤ q → A q) ∧ va_K (dC, dI) vwCl (zT cy) s ∧ zN s ∧ zEx A s s.heap ∧ va_Nc "java/lang/IllegalStateException" "java/lang/IllegalArgumentException" s ∧ l.stackTraces = false
theorem zcmp0 {a b : Int64} (h : a = b) : lg_cmp a b = 0 := by subst h; simp [lg_cmp]
set_option maxHeartbeats 4000000 in
set_option maxRecDepth 100000 in
theorem q_frame {p : Program} {l : Launch} {e : Env} {s : State} {m : MethodId} {args : Array Value} {below : List Frame} {meth : Method} {c : Code} {H : Heap} {locs : List Loc} {cells slots : Nat} {Q : State → Prop} {ls : Array Slot} {dC : Nat → ClassId} {dI : Nat → Nat → Nat} {cy : Nat → ClassId} {A : Nat → Prop} {b L : Nat} {xs : Nat → Int32} {x f n sc ia na d ka va o mo : Nat} {ad : Nat → Nat} {G1 G2 : zG} {S1 S2 : zS} {i5 : Nat} {a1 a2 a3 a4 : Int32} (C : zLc p l s m args c dC dI cy A b L xs) (hi5 : i5 + 5 ≤ L) (ha1 : xs (nI (i5 + 1)).toNatClampNeg = a1) (ha2 : xs (nI (i5 + 2)).toNatClampNeg = a2) (ha3 : xs (nI (i5 + 3)).toNatClampNeg = a3) (ha4 : xs (nI (i5 + 4)).toNatClampNeg = a4) (hce : cells + 3 ≤ 600002) (hse : slots + 25 ≤ 7302232) (h : zLw dC dI cy s A x f n sc ia na d ka va o mo ad G1 S1 G2 S2 H locs) (hF : zF0 x f n sc d mo ad S1 S2)
    (hl : lv_has ls 7 [(4, .int (nI i5)), (3, .ref o), (2, .ref mo), (1, .ref x), (0, .ref b)]) (kk : ∀ (G1' : zG) (S1' S2' : zS) (H' : Heap) (locs' : List Loc) (ls' : Array Slot), zLw dC dI cy s A x f n sc ia na d ka va o mo ad G1' S1' G2 S2' H' locs' → lv_has ls' 7 [(4, .int (nI i5)), (3, .ref o), (2, .ref mo), (1, .ref x), (0, .ref b)] → W p l e room_1 s m args below meth c H' locs' (cells + 3) (slots + 25) Q (F0 m 1115 ls' [])) : W p l e room_1 s m args below meth c H locs cells slots Q (F0 m 112 ls []) := by
  obtain ⟨⟨hx, hb, hml, hown, hts⟩, ⟨hX, hbl, hbA, hL⟩, hA, hK, hN, hE, hNc, hlt⟩ := C
  obtain ⟨⟨hP1, hD1, hP2, hD2, hAp⟩, hS, hC, hM, hR, hY⟩ := h
  refine lv_aload_n hx hb dL_law_112 rfl (lv_at hl 3 rfl) ?_
  refine lv_aload_n hx hb dL_law_113 rfl (lv_at hl 4 rfl) ?_
  refine lv_iload hx hb dL_law_114 (lv_at hl 0 rfl) ?_
  refine lv_iconst (v := 1) hx hb dL_law_116 (by decide) ?_
  refine lv_iadd hx hb dL_law_117 ?_
  refine lv_topi (fun v1 ev1 => ?_)
  obtain rfl : v1 = nI (i5 + 1) := ev1.trans (nI_add i5 1)
  refine va_sld hx hb hX hbl hbA hS (vp_in_nI (by omega) (by omega)) dL_law_118 ?_
  rw [ha1]
  refine lv_aload_n hx hb dL_law_119 rfl (lv_at hl 4 rfl) ?_
  refine lv_iload hx hb dL_law_120 (lv_at hl 0 rfl) ?_
  refine lv_iconst (v := 2) hx hb dL_law_122 (by decide) ?_
  refine lv_iadd hx hb dL_law_123 ?_
  refine lv_topi (fun v2 ev2 => ?_)
  obtain rfl : v2 = nI (i5 + 2) := ev2.trans (nI_add i5 2)
  refine va_sld hx hb hX hbl hbA hS (vp_in_nI (by omega) (by omega)) dL_law_124 ?_
  rw [ha2]
  refine lv_aload_n hx hb dL_law_125 rfl (lv_at hl 4 rfl) ?_
  refine lv_iload hx hb dL_law_126 (lv_at hl 0 rfl) ?_
  refine lv_iconst (v := 3) hx hb dL_law_128 (by decide) ?_
  refine lv_iadd hx hb dL_law_129 ?_
  refine lv_topi (fun v3 ev3 => ?_)
  obtain rfl : v3 = nI (i5 + 3) := ev3.trans (nI_add i5 3)
  refine va_sld hx hb hX hbl hbA hS (vp_in_nI (by omega) (by omega)) dL_law_130 ?_
  rw [ha3]
  refine lv_aload_n hx hb dL_law_131 rfl (lv_at hl 4 rfl) ?_
  refine lv_iload hx hb dL_law_132 (lv_at hl 0 rfl) ?_
  refine lv_iconst (v := 4) hx hb dL_law_134 (by decide) ?_
  refine lv_iadd hx hb dL_law_135 ?_
  refine lv_topi (fun v4 ev4 => ?_)
  obtain rfl : v4 = nI (i5 + 4) := ev4.trans (nI_add i5 4)
  refine va_sld hx hb hX hbl hbA hS (vp_in_nI (by omega) (by omega)) dL_law_136 ?_
  rw [ha4]
  refine lv_if_eq (tgt := 144) hx hb dL_law_137 (by decide) (fun c5 => ?_) (fun c5 => ?_)
  · skip
    refine lv_iconst (v := 0) hx hb dL_law_144 (by decide) ?_
    refine zc2I (vx_runSW (As := [.ref x, .int a1, .int a2, .int a3, .int 0]) (rest := []) ⟨hx, hb, hml, hown, hts⟩ (w_L_frame l hlt dC dI cy G1 S1 H.size x f n sc ia na d ka va a1 a2 a3 0 hC.1) (vx_cwSW 5 hts gL_law_L_frame rfl rfl rfl (by decide +kernel) ⟨Nat.le_of_ble_eq_true rfl, Nat.le_of_ble_eq_true rfl⟩) (zpreSy hK hP1 hD1 hN hE hS hA hNc) rfl rfl hl.1 rfl (lv_room (Nat.le_of_ble_eq_true rfl)) dL_law_145 ⟨by show _ ≤ 600002; omega, by show _ ≤ 7302232; omega⟩) hS hD1 hA hP2 hAp (fun k9 u1 H locs hw hP1 hD1 hP2 hAp hS => ?_)
    refine lv_istore (lv' := [(5, .int k9), (4, .int (nI i5)), (3, .ref o), (2, .ref mo), (1, .ref x), (0, .ref b)]) hx hb dL_law_148 hl (by decide) rfl (fun ls hl => ?_)
    refine lv_aload_n hx hb dL_law_150 rfl (lv_at hl 3 rfl) ?_
    refine lv_aload_n hx hb dL_law_151 rfl (lv_at hl 5 rfl) ?_
    refine lv_iload hx hb dL_law_152 (lv_at hl 1 rfl) ?_
    refine lv_iconst (v := 1) hx hb dL_law_154 (by decide) ?_
    refine lv_iadd hx hb dL_law_155 ?_
    refine lv_topi (fun v6 ev6 => ?_)
    obtain rfl : v6 = nI (i5 + 1) := ev6.trans (nI_add i5 1)
    refine va_sld hx hb hX hbl hbA hS (vp_in_nI (by omega) (by omega)) dL_law_156 ?_
    rw [ha1]
    refine lv_aload_n hx hb dL_law_157 rfl (lv_at hl 5 rfl) ?_
    refine lv_iload hx hb dL_law_158 (lv_at hl 1 rfl) ?_
    refine lv_iconst (v := 2) hx hb dL_law_160 (by decide) ?_
    refine lv_iadd hx hb dL_law_161 ?_
    refine lv_topi (fun v7 ev7 => ?_)
    obtain rfl : v7 = nI (i5 + 2) := ev7.trans (nI_add i5 2)
    refine va_sld hx hb hX hbl hbA hS (vp_in_nI (by omega) (by omega)) dL_law_162 ?_
    rw [ha2]
    refine lv_aload_n hx hb dL_law_163 rfl (lv_at hl 5 rfl) ?_
    refine lv_iload hx hb dL_law_164 (lv_at hl 1 rfl) ?_
    refine lv_iconst (v := 3) hx hb dL_law_166 (by decide) ?_
    refine lv_iadd hx hb dL_law_167 ?_
    refine lv_topi (fun v8 ev8 => ?_)
    obtain rfl : v8 = nI (i5 + 3) := ev8.trans (nI_add i5 3)
    refine va_sld hx hb hX hbl hbA hS (vp_in_nI (by omega) (by omega)) dL_law_168 ?_
    rw [ha3]
    refine lv_aload_n hx hb dL_law_169 rfl (lv_at hl 5 rfl) ?_
    refine lv_iload hx hb dL_law_170 (lv_at hl 1 rfl) ?_
    refine lv_iconst (v := 4) hx hb dL_law_172 (by decide) ?_
    refine lv_iadd hx hb dL_law_173 ?_
    refine lv_topi (fun v9 ev9 => ?_)
    obtain rfl : v9 = nI (i5 + 4) := ev9.trans (nI_add i5 4)
    refine va_sld hx hb hX hbl hbA hS (vp_in_nI (by omega) (by omega)) dL_law_174 ?_
    rw [ha4]
    refine lv_if_eq (tgt := 182) hx hb dL_law_175 (by decide) (fun c10 => ?_) (fun c10 => ?_)
    · skip
      refine lv_iconst (v := 0) hx hb dL_law_182 (by decide) ?_
      refine zc2v (va_runV (As := [.int a1, .int a2, .int a3, .int 0]) (rest := []) ⟨hx, hb, hml, hown, hts⟩ (c_X7_frame l dC dI cy G2 S2 H.size mo ad a1 a2 a3 0 hM.1 hM.2.1 hM.2.2.1 hM.2.2.2) (cwV 4 hts gL_law_X7_frame rfl rfl rfl (by decide +kernel) ⟨Nat.le_of_ble_eq_true rfl, Nat.le_of_ble_eq_true rfl⟩) (zpreV hK hP2 hD2 hN (zrecv7 hK hP2 hM.1.1)) rfl rfl hl.1 rfl (lv_room (Nat.le_of_ble_eq_true rfl)) dL_law_183 ⟨by show _ ≤ 600002; omega, by show _ ≤ 7302232; omega⟩) hS hD2 hA hP1 hAp.symm (fun T2 H locs hm hP2 hD2 hP1 hAp hS => ?_)
      have hAp := hAp.symm
      obtain ⟨hC2, hM2, ⟨hR2, hY2⟩, he2⟩ := s_frame (T1 := S1) hC hM hR hw hm hY (by decide)
      refine lv_aload_n hx hb dL_law_186 rfl (lv_at hl 3 rfl) ?_
      refine vp_callSi (va_Run.run (va_runV (As := []) (rest := []) ⟨hx, hb, hml, hown, hts⟩ (c_X7_thrown l dC dI cy G2 T2 H.size mo ad hM2.1) (cwV 0 hts gL_law_X7_thrown rfl rfl rfl (by decide +kernel) ⟨Nat.le_of_ble_eq_true rfl, Nat.le_of_ble_eq_true rfl⟩) (zpreV hK hP2 hD2 hN (zrecv7 hK hP2 hM2.1.1)) rfl rfl hl.1 rfl (lv_room (Nat.le_of_ble_eq_true rfl)) dL_law_187 ⟨by show _ ≤ 600002; omega, by show _ ≤ 7302232; omega⟩)) (fun r9 hr9 => ?_)
      refine lv_iload hx hb dL_law_190 (lv_at hl 0 rfl) ?_
      refine lv_icmp_eq (tgt := 197) hx hb dL_law_192 (by decide) (fun c11 => ?_) (fun c11 => ?_)
      · skip
        refine lv_goto (tgt := 1115) hx hb dL_law_197 (by decide) ?_
        refine W.widen (k := cells + 3) (n := slots + 25) (by omega) (by omega) ?_
        exact kk _ _ _ _ _ _ ⟨⟨hP1, hD1, hP2, hD2, hAp⟩, hS, hC2, hM2, hR2, hY2⟩ (lv_sub hl [1, 2, 3, 4, 5] rfl)
      · skip
        exact absurd (hr9.trans he2) c11
    · skip
      exact absurd c5 c10
  · skip
    refine lv_iconst (v := 1) hx hb dL_law_140 (by decide) ?_
    refine lv_goto (tgt := 145) hx hb dL_law_141 (by decide) ?_
    refine zc2I (vx_runSW (As := [.ref x, .int a1, .int a2, .int a3, .int 1]) (rest := []) ⟨hx, hb, hml, hown, hts⟩ (w_L_frame l hlt dC dI cy G1 S1 H.size x f n sc ia na d ka va a1 a2 a3 1 hC.1) (vx_cwSW 5 hts gL_law_L_frame rfl rfl rfl (by decide +kernel) ⟨Nat.le_of_ble_eq_true rfl, Nat.le_of_ble_eq_true rfl⟩) (zpreSy hK hP1 hD1 hN hE hS hA hNc) rfl rfl hl.1 rfl (lv_room (Nat.le_of_ble_eq_true rfl)) dL_law_145 ⟨by show _ ≤ 600002; omega, by show _ ≤ 7302232; omega⟩) hS hD1 hA hP2 hAp (fun k9 u1 H locs hw hP1 hD1 hP2 hAp hS => ?_)
    refine lv_istore (lv' := [(5, .int k9), (4, .int (nI i5)), (3, .ref o), (2, .ref mo), (1, .ref x), (0, .ref b)]) hx hb dL_law_148 hl (by decide) rfl (fun ls hl => ?_)
    refine lv_aload_n hx hb dL_law_150 rfl (lv_at hl 3 rfl) ?_
    refine lv_aload_n hx hb dL_law_151 rfl (lv_at hl 5 rfl) ?_
    refine lv_iload hx hb dL_law_152 (lv_at hl 1 rfl) ?_
    refine lv_iconst (v := 1) hx hb dL_law_154 (by decide) ?_
    refine lv_iadd hx hb dL_law_155 ?_
    refine lv_topi (fun v12 ev12 => ?_)
    obtain rfl : v12 = nI (i5 + 1) := ev12.trans (nI_add i5 1)
    refine va_sld hx hb hX hbl hbA hS (vp_in_nI (by omega) (by omega)) dL_law_156 ?_
    rw [ha1]
    refine lv_aload_n hx hb dL_law_157 rfl (lv_at hl 5 rfl) ?_
    refine lv_iload hx hb dL_law_158 (lv_at hl 1 rfl) ?_
    refine lv_iconst (v := 2) hx hb dL_law_160 (by decide) ?_
    refine lv_iadd hx hb dL_law_161 ?_
    refine lv_topi (fun v13 ev13 => ?_)
    obtain rfl : v13 = nI (i5 + 2) := ev13.trans (nI_add i5 2)
    refine va_sld hx hb hX hbl hbA hS (vp_in_nI (by omega) (by omega)) dL_law_162 ?_
    rw [ha2]
    refine lv_aload_n hx hb dL_law_163 rfl (lv_at hl 5 rfl) ?_
    refine lv_iload hx hb dL_law_164 (lv_at hl 1 rfl) ?_
    refine lv_iconst (v := 3) hx hb dL_law_166 (by decide) ?_
    refine lv_iadd hx hb dL_law_167 ?_
    refine lv_topi (fun v14 ev14 => ?_)
    obtain rfl : v14 = nI (i5 + 3) := ev14.trans (nI_add i5 3)
    refine va_sld hx hb hX hbl hbA hS (vp_in_nI (by omega) (by omega)) dL_law_168 ?_
    rw [ha3]
    refine lv_aload_n hx hb dL_law_169 rfl (lv_at hl 5 rfl) ?_
    refine lv_iload hx hb dL_law_170 (lv_at hl 1 rfl) ?_
    refine lv_iconst (v := 4) hx hb dL_law_172 (by decide) ?_
    refine lv_iadd hx hb dL_law_173 ?_
    refine lv_topi (fun v15 ev15 => ?_)
    obtain rfl : v15 = nI (i5 + 4) := ev15.trans (nI_add i5 4)
    refine va_sld hx hb hX hbl hbA hS (vp_in_nI (by omega) (by omega)) dL_law_174 ?_
    rw [ha4]
    refine lv_if_eq (tgt := 182) hx hb dL_law_175 (by decide) (fun c16 => ?_) (fun c16 => ?_)
    · skip
      exact absurd c16 c5
    · skip
      refine lv_iconst (v := 1) hx hb dL_law_178 (by decide) ?_
      refine lv_goto (tgt := 183) hx hb dL_law_179 (by decide) ?_
      refine zc2v (va_runV (As := [.int a1, .int a2, .int a3, .int 1]) (rest := []) ⟨hx, hb, hml, hown, hts⟩ (c_X7_frame l dC dI cy G2 S2 H.size mo ad a1 a2 a3 1 hM.1 hM.2.1 hM.2.2.1 hM.2.2.2) (cwV 4 hts gL_law_X7_frame rfl rfl rfl (by decide +kernel) ⟨Nat.le_of_ble_eq_true rfl, Nat.le_of_ble_eq_true rfl⟩) (zpreV hK hP2 hD2 hN (zrecv7 hK hP2 hM.1.1)) rfl rfl hl.1 rfl (lv_room (Nat.le_of_ble_eq_true rfl)) dL_law_183 ⟨by show _ ≤ 600002; omega, by show _ ≤ 7302232; omega⟩) hS hD2 hA hP1 hAp.symm (fun T2 H locs hm hP2 hD2 hP1 hAp hS => ?_)
      have hAp := hAp.symm
      obtain ⟨hC2, hM2, ⟨hR2, hY2⟩, he2⟩ := s_frame (T1 := S1) hC hM hR hw hm hY (by decide)
      refine lv_aload_n hx hb dL_law_186 rfl (lv_at hl 3 rfl) ?_
      refine vp_callSi (va_Run.run (va_runV (As := []) (rest := []) ⟨hx, hb, hml, hown, hts⟩ (c_X7_thrown l dC dI cy G2 T2 H.size mo ad hM2.1) (cwV 0 hts gL_law_X7_thrown rfl rfl rfl (by decide +kernel) ⟨Nat.le_of_ble_eq_true rfl, Nat.le_of_ble_eq_true rfl⟩) (zpreV hK hP2 hD2 hN (zrecv7 hK hP2 hM2.1.1)) rfl rfl hl.1 rfl (lv_room (Nat.le_of_ble_eq_true rfl)) dL_law_187 ⟨by show _ ≤ 600002; omega, by show _ ≤ 7302232; omega⟩)) (fun r9 hr9 => ?_)
      refine lv_iload hx hb dL_law_190 (lv_at hl 0 rfl) ?_
      refine lv_icmp_eq (tgt := 197) hx hb dL_law_192 (by decide) (fun c17 => ?_) (fun c17 => ?_)
      · skip
        refine lv_goto (tgt := 1115) hx hb dL_law_197 (by decide) ?_
        refine W.widen (k := cells + 3) (n := slots + 25) (by omega) (by omega) ?_
        exact kk _ _ _ _ _ _ ⟨⟨hP1, hD1, hP2, hD2, hAp⟩, hS, hC2, hM2, hR2, hY2⟩ (lv_sub hl [1, 2, 3, 4, 5] rfl)
      · skip
        exact absurd (hr9.trans he2) c17
set_option maxHeartbeats 4000000 in
set_option maxRecDepth 100000 in
theorem q_listen {p : Program} {l : Launch} {e : Env} {s : State} {m : MethodId} {args : Array Value} {below : List Frame} {meth : Method} {c : Code} {H : Heap} {locs : List Loc} {cells slots : Nat} {Q : State → Prop} {ls : Array Slot} {dC : Nat → ClassId} {dI : Nat → Nat → Nat} {cy : Nat → ClassId} {A : Nat → Prop} {b L : Nat} {xs : Nat → Int32} {x f n sc ia na d ka va o mo : Nat} {ad : Nat → Nat} {G1 G2 : zG} {S1 S2 : zS} {i5 : Nat} {a1 a2 a3 a4 : Int32} (C : zLc p l s m args c dC dI cy A b L xs) (hi5 : i5 + 5 ≤ L) (ha1 : xs (nI (i5 + 1)).toNatClampNeg = a1) (ha2 : xs (nI (i5 + 2)).toNatClampNeg = a2) (ha3 : xs (nI (i5 + 3)).toNatClampNeg = a3) (ha4 : xs (nI (i5 + 4)).toNatClampNeg = a4) (hce : cells + 3 ≤ 600002) (hse : slots + 25 ≤ 7302232) (h : zLw dC dI cy s A x f n sc ia na d ka va o mo ad G1 S1 G2 S2 H locs) (hF : zF0 x f n sc d mo ad S1 S2)
    (hl : lv_has ls 7 [(4, .int (nI i5)), (3, .ref o), (2, .ref mo), (1, .ref x), (0, .ref b)]) (kk : ∀ (G1' : zG) (S1' S2' : zS) (H' : Heap) (locs' : List Loc) (ls' : Array Slot), zLw dC dI cy s A x f n sc ia na d ka va o mo ad G1' S1' G2 S2' H' locs' → lv_has ls' 7 [(4, .int (nI i5)), (3, .ref o), (2, .ref mo), (1, .ref x), (0, .ref b)] → W p l e room_1 s m args below meth c H' locs' (cells + 3) (slots + 25) Q (F0 m 1115 ls' [])) : W p l e room_1 s m args below meth c H locs cells slots Q (F0 m 200 ls []) := by
  obtain ⟨⟨hx, hb, hml, hown, hts⟩, ⟨hX, hbl, hbA, hL⟩, hA, hK, hN, hE, hNc, hlt⟩ := C
  obtain ⟨⟨hP1, hD1, hP2, hD2, hAp⟩, hS, hC, hM, hR, hY⟩ := h
  refine lv_aload_n hx hb dL_law_200 rfl (lv_at hl 3 rfl) ?_
  refine lv_aload_n hx hb dL_law_201 rfl (lv_at hl 4 rfl) ?_
  refine lv_iload hx hb dL_law_202 (lv_at hl 0 rfl) ?_
  refine lv_iconst (v := 1) hx hb dL_law_204 (by decide) ?_
  refine lv_iadd hx hb dL_law_205 ?_
  refine lv_topi (fun v1 ev1 => ?_)
  obtain rfl : v1 = nI (i5 + 1) := ev1.trans (nI_add i5 1)
  refine va_sld hx hb hX hbl hbA hS (vp_in_nI (by omega) (by omega)) dL_law_206 ?_
  rw [ha1]
  refine lv_aload_n hx hb dL_law_207 rfl (lv_at hl 4 rfl) ?_
  refine lv_iload hx hb dL_law_208 (lv_at hl 0 rfl) ?_
  refine lv_iconst (v := 2) hx hb dL_law_210 (by decide) ?_
  refine lv_iadd hx hb dL_law_211 ?_
  refine lv_topi (fun v2 ev2 => ?_)
  obtain rfl : v2 = nI (i5 + 2) := ev2.trans (nI_add i5 2)
  refine va_sld hx hb hX hbl hbA hS (vp_in_nI (by omega) (by omega)) dL_law_212 ?_
  rw [ha2]
  refine lv_aload_n hx hb dL_law_213 rfl (lv_at hl 4 rfl) ?_
  refine lv_iload hx hb dL_law_214 (lv_at hl 0 rfl) ?_
  refine lv_iconst (v := 3) hx hb dL_law_216 (by decide) ?_
  refine lv_iadd hx hb dL_law_217 ?_
  refine lv_topi (fun v3 ev3 => ?_)
  obtain rfl : v3 = nI (i5 + 3) := ev3.trans (nI_add i5 3)
  refine va_sld hx hb hX hbl hbA hS (vp_in_nI (by omega) (by omega)) dL_law_218 ?_
  rw [ha3]
  refine lv_if_eq (tgt := 226) hx hb dL_law_219 (by decide) (fun c4 => ?_) (fun c4 => ?_)
  · skip
    refine lv_iconst (v := 0) hx hb dL_law_226 (by decide) ?_
    refine lv_aload_n hx hb dL_law_227 rfl (lv_at hl 1 rfl) ?_
    refine zc2i (vx_runSW (As := [.ref x, .int a1, .int a2, .int 0, .ref o]) (rest := []) ⟨hx, hb, hml, hown, hts⟩ (w_L_listen l hlt dC dI cy G1 S1 H.size x f n sc ia na d ka va a1 a2 0 o hC.1 hC.2.1.1 hC.2.1.2) (vx_cwSW 5 hts gL_law_L_listen rfl rfl rfl (by decide +kernel) ⟨Nat.le_of_ble_eq_true rfl, Nat.le_of_ble_eq_true rfl⟩) (zpreSy hK hP1 hD1 hN hE hS hA hNc) rfl rfl hl.1 rfl (lv_room (Nat.le_of_ble_eq_true rfl)) dL_law_228 ⟨by show _ ≤ 600002; omega, by show _ ≤ 7302232; omega⟩) hS hD1 hA hP2 hAp (fun k9 T1 H locs hw hP1 hD1 hP2 hAp hS => ?_)
    refine lv_istore (lv' := [(5, .int k9), (4, .int (nI i5)), (3, .ref o), (2, .ref mo), (1, .ref x), (0, .ref b)]) hx hb dL_law_231 hl (by decide) rfl (fun ls hl => ?_)
    refine lv_aload_n hx hb dL_law_233 rfl (lv_at hl 3 rfl) ?_
    refine lv_aload_n hx hb dL_law_234 rfl (lv_at hl 5 rfl) ?_
    refine lv_iload hx hb dL_law_235 (lv_at hl 1 rfl) ?_
    refine lv_iconst (v := 1) hx hb dL_law_237 (by decide) ?_
    refine lv_iadd hx hb dL_law_238 ?_
    refine lv_topi (fun v5 ev5 => ?_)
    obtain rfl : v5 = nI (i5 + 1) := ev5.trans (nI_add i5 1)
    refine va_sld hx hb hX hbl hbA hS (vp_in_nI (by omega) (by omega)) dL_law_239 ?_
    rw [ha1]
    refine lv_aload_n hx hb dL_law_240 rfl (lv_at hl 5 rfl) ?_
    refine lv_iload hx hb dL_law_241 (lv_at hl 1 rfl) ?_
    refine lv_iconst (v := 2) hx hb dL_law_243 (by decide) ?_
    refine lv_iadd hx hb dL_law_244 ?_
    refine lv_topi (fun v6 ev6 => ?_)
    obtain rfl : v6 = nI (i5 + 2) := ev6.trans (nI_add i5 2)
    refine va_sld hx hb hX hbl hbA hS (vp_in_nI (by omega) (by omega)) dL_law_245 ?_
    rw [ha2]
    refine lv_aload_n hx hb dL_law_246 rfl (lv_at hl 5 rfl) ?_
    refine lv_iload hx hb dL_law_247 (lv_at hl 1 rfl) ?_
    refine lv_iconst (v := 3) hx hb dL_law_249 (by decide) ?_
    refine lv_iadd hx hb dL_law_250 ?_
    refine lv_topi (fun v7 ev7 => ?_)
    obtain rfl : v7 = nI (i5 + 3) := ev7.trans (nI_add i5 3)
    refine va_sld hx hb hX hbl hbA hS (vp_in_nI (by omega) (by omega)) dL_law_251 ?_
    rw [ha3]
    refine lv_if_eq (tgt := 259) hx hb dL_law_252 (by decide) (fun c8 => ?_) (fun c8 => ?_)
    · skip
      refine lv_iconst (v := 0) hx hb dL_law_259 (by decide) ?_
      refine zc2i (va_runV (As := [.int a1, .int a2, .int 0]) (rest := []) ⟨hx, hb, hml, hown, hts⟩ (c_X7_listen l dC dI cy G2 S2 H.size mo ad a1 a2 0 hM.1 hM.2.1 hM.2.2.1) (cwV 3 hts gL_law_X7_listen rfl rfl rfl (by decide +kernel) ⟨Nat.le_of_ble_eq_true rfl, Nat.le_of_ble_eq_true rfl⟩) (zpreV hK hP2 hD2 hN (zrecv7 hK hP2 hM.1.1)) rfl rfl hl.1 rfl (lv_room (Nat.le_of_ble_eq_true rfl)) dL_law_260 ⟨by show _ ≤ 600002; omega, by show _ ≤ 7302232; omega⟩) hS hD2 hA hP1 hAp.symm (fun r2 T2 H locs hm hP2 hD2 hP1 hAp hS => ?_)
      have hAp := hAp.symm
      obtain ⟨hC2, hM2, ⟨hR2, hY2⟩, he2, ho2⟩ := s_listen hC hM hR hY hw hm (by decide)
      refine lv_istore (lv' := [(6, .int r2), (5, .int k9), (4, .int (nI i5)), (3, .ref o), (2, .ref mo), (1, .ref x), (0, .ref b)]) hx hb dL_law_263 hl (by decide) rfl (fun ls hl => ?_)
      refine lv_aload_n hx hb dL_law_265 rfl (lv_at hl 4 rfl) ?_
      refine vp_callSi (va_Run.run (va_runV (As := []) (rest := []) ⟨hx, hb, hml, hown, hts⟩ (c_X7_thrown l dC dI cy G2 T2 H.size mo ad hM2.1) (cwV 0 hts gL_law_X7_thrown rfl rfl rfl (by decide +kernel) ⟨Nat.le_of_ble_eq_true rfl, Nat.le_of_ble_eq_true rfl⟩) (zpreV hK hP2 hD2 hN (zrecv7 hK hP2 hM2.1.1)) rfl rfl hl.1 rfl (lv_room (Nat.le_of_ble_eq_true rfl)) dL_law_266 ⟨by show _ ≤ 600002; omega, by show _ ≤ 7302232; omega⟩)) (fun r9 hr9 => ?_)
      refine lv_iload hx hb dL_law_269 (lv_at hl 1 rfl) ?_
      refine lv_icmp_eq (tgt := 276) hx hb dL_law_271 (by decide) (fun c9 => ?_) (fun c9 => ?_)
      · skip
        refine lv_iload hx hb dL_law_276 (lv_at hl 1 rfl) ?_
        refine lv_if_ne (tgt := 300) hx hb dL_law_278 (by decide) (fun c10 => ?_) (fun c10 => ?_)
        · skip
          refine lv_goto (tgt := 1115) hx hb dL_law_300 (by decide) ?_
          refine W.widen (k := cells + 3) (n := slots + 25) (by omega) (by omega) ?_
          exact kk _ _ _ _ _ _ ⟨⟨hP1, hD1, hP2, hD2, hAp⟩, hS, hC2, hM2, hR2, hY2⟩ (lv_sub hl [2, 3, 4, 5, 6] rfl)
        · skip
          refine lv_aload_n hx hb dL_law_281 rfl (lv_at hl 3 rfl) ?_
          refine lv_iconst (v := 0) hx hb dL_law_282 (by decide) ?_
          have hP := hP1
          refine zlald hx hb hK hP hC2.2.1.1 hC2.2.1.2 (by unfold vp_in; decide) dL_law_283 ?_
          refine lv_topl (fun v11 ev11 => ?_)
          refine lv_iload hx hb dL_law_284 (lv_at hl 0 rfl) ?_
          refine lv_if_eq (tgt := 293) hx hb dL_law_286 (by decide) (fun c12 => ?_) (fun c12 => ?_)
          · skip
            refine lv_lconst (v := 0) hx hb dL_law_293 (by decide) ?_
            refine W.lcmp hx hb dL_law_294 ?_
            refine lv_topi (fun v13 ev13 => ?_)
            refine lv_if_eq (tgt := 300) hx hb dL_law_295 (by decide) (fun c14 => ?_) (fun c14 => ?_)
            · skip
              refine lv_goto (tgt := 1115) hx hb dL_law_300 (by decide) ?_
              refine W.widen (k := cells + 3) (n := slots + 25) (by omega) (by omega) ?_
              exact kk _ _ _ _ _ _ ⟨⟨hP1, hD1, hP2, hD2, hAp⟩, hS, hC2, hM2, hR2, hY2⟩ (lv_sub hl [2, 3, 4, 5, 6] rfl)
            · skip
              exact absurd (ev13.trans (zcmp0 (ev11.trans ((ho2 c10).trans (if_pos c12))))) c14
          · skip
            refine lv_lconst (v := 1) hx hb dL_law_289 (by decide) ?_
            refine lv_goto (tgt := 294) hx hb dL_law_290 (by decide) ?_
            refine W.lcmp hx hb dL_law_294 ?_
            refine lv_topi (fun v15 ev15 => ?_)
            refine lv_if_eq (tgt := 300) hx hb dL_law_295 (by decide) (fun c16 => ?_) (fun c16 => ?_)
            · skip
              refine lv_goto (tgt := 1115) hx hb dL_law_300 (by decide) ?_
              refine W.widen (k := cells + 3) (n := slots + 25) (by omega) (by omega) ?_
              exact kk _ _ _ _ _ _ ⟨⟨hP1, hD1, hP2, hD2, hAp⟩, hS, hC2, hM2, hR2, hY2⟩ (lv_sub hl [2, 3, 4, 5, 6] rfl)
            · skip
              exact absurd (ev15.trans (zcmp0 (ev11.trans ((ho2 c10).trans (if_neg c12))))) c16
      · skip
        exact absurd (hr9.trans he2) c9
    · skip
      exact absurd c4 c8
  · skip
    refine lv_iconst (v := 1) hx hb dL_law_222 (by decide) ?_
    refine lv_goto (tgt := 227) hx hb dL_law_223 (by decide) ?_
    refine lv_aload_n hx hb dL_law_227 rfl (lv_at hl 1 rfl) ?_
    refine zc2i (vx_runSW (As := [.ref x, .int a1, .int a2, .int 1, .ref o]) (rest := []) ⟨hx, hb, hml, hown, hts⟩ (w_L_listen l hlt dC dI cy G1 S1 H.size x f n sc ia na d ka va a1 a2 1 o hC.1 hC.2.1.1 hC.2.1.2) (vx_cwSW 5 hts gL_law_L_listen rfl rfl rfl (by decide +kernel) ⟨Nat.le_of_ble_eq_true rfl, Nat.le_of_ble_eq_true rfl⟩) (zpreSy hK hP1 hD1 hN hE hS hA hNc) rfl rfl hl.1 rfl (lv_room (Nat.le_of_ble_eq_true rfl)) dL_law_228 ⟨by show _ ≤ 600002; omega, by show _ ≤ 7302232; omega⟩) hS hD1 hA hP2 hAp (fun k9 T1 H locs hw hP1 hD1 hP2 hAp hS => ?_)
    refine lv_istore (lv' := [(5, .int k9), (4, .int (nI i5)), (3, .ref o), (2, .ref mo), (1, .ref x), (0, .ref b)]) hx hb dL_law_231 hl (by decide) rfl (fun ls hl => ?_)
    refine lv_aload_n hx hb dL_law_233 rfl (lv_at hl 3 rfl) ?_
    refine lv_aload_n hx hb dL_law_234 rfl (lv_at hl 5 rfl) ?_
    refine lv_iload hx hb dL_law_235 (lv_at hl 1 rfl) ?_
    refine lv_iconst (v := 1) hx hb dL_law_237 (by decide) ?_
    refine lv_iadd hx hb dL_law_238 ?_
    refine lv_topi (fun v17 ev17 => ?_)
    obtain rfl : v17 = nI (i5 + 1) := ev17.trans (nI_add i5 1)
    refine va_sld hx hb hX hbl hbA hS (vp_in_nI (by omega) (by omega)) dL_law_239 ?_
    rw [ha1]
    refine lv_aload_n hx hb dL_law_240 rfl (lv_at hl 5 rfl) ?_
    refine lv_iload hx hb dL_law_241 (lv_at hl 1 rfl) ?_
    refine lv_iconst (v := 2) hx hb dL_law_243 (by decide) ?_
    refine lv_iadd hx hb dL_law_244 ?_
    refine lv_topi (fun v18 ev18 => ?_)
    obtain rfl : v18 = nI (i5 + 2) := ev18.trans (nI_add i5 2)
    refine va_sld hx hb hX hbl hbA hS (vp_in_nI (by omega) (by omega)) dL_law_245 ?_
    rw [ha2]
    refine lv_aload_n hx hb dL_law_246 rfl (lv_at hl 5 rfl) ?_
    refine lv_iload hx hb dL_law_247 (lv_at hl 1 rfl) ?_
    refine lv_iconst (v := 3) hx hb dL_law_249 (by decide) ?_
    refine lv_iadd hx hb dL_law_250 ?_
    refine lv_topi (fun v19 ev19 => ?_)
    obtain rfl : v19 = nI (i5 + 3) := ev19.trans (nI_add i5 3)
    refine va_sld hx hb hX hbl hbA hS (vp_in_nI (by omega) (by omega)) dL_law_251 ?_
    rw [ha3]
    refine lv_if_eq (tgt := 259) hx hb dL_law_252 (by decide) (fun c20 => ?_) (fun c20 => ?_)
    · skip
      exact absurd c20 c4
    · skip
      refine lv_iconst (v := 1) hx hb dL_law_255 (by decide) ?_
      refine lv_goto (tgt := 260) hx hb dL_law_256 (by decide) ?_
      refine zc2i (va_runV (As := [.int a1, .int a2, .int 1]) (rest := []) ⟨hx, hb, hml, hown, hts⟩ (c_X7_listen l dC dI cy G2 S2 H.size mo ad a1 a2 1 hM.1 hM.2.1 hM.2.2.1) (cwV 3 hts gL_law_X7_listen rfl rfl rfl (by decide +kernel) ⟨Nat.le_of_ble_eq_true rfl, Nat.le_of_ble_eq_true rfl⟩) (zpreV hK hP2 hD2 hN (zrecv7 hK hP2 hM.1.1)) rfl rfl hl.1 rfl (lv_room (Nat.le_of_ble_eq_true rfl)) dL_law_260 ⟨by show _ ≤ 600002; omega, by show _ ≤ 7302232; omega⟩) hS hD2 hA hP1 hAp.symm (fun r2 T2 H locs hm hP2 hD2 hP1 hAp hS => ?_)
      have hAp := hAp.symm
      obtain ⟨hC2, hM2, ⟨hR2, hY2⟩, he2, ho2⟩ := s_listen hC hM hR hY hw hm (by decide)
      refine lv_istore (lv' := [(6, .int r2), (5, .int k9), (4, .int (nI i5)), (3, .ref o), (2, .ref mo), (1, .ref x), (0, .ref b)]) hx hb dL_law_263 hl (by decide) rfl (fun ls hl => ?_)
      refine lv_aload_n hx hb dL_law_265 rfl (lv_at hl 4 rfl) ?_
      refine vp_callSi (va_Run.run (va_runV (As := []) (rest := []) ⟨hx, hb, hml, hown, hts⟩ (c_X7_thrown l dC dI cy G2 T2 H.size mo ad hM2.1) (cwV 0 hts gL_law_X7_thrown rfl rfl rfl (by decide +kernel) ⟨Nat.le_of_ble_eq_true rfl, Nat.le_of_ble_eq_true rfl⟩) (zpreV hK hP2 hD2 hN (zrecv7 hK hP2 hM2.1.1)) rfl rfl hl.1 rfl (lv_room (Nat.le_of_ble_eq_true rfl)) dL_law_266 ⟨by show _ ≤ 600002; omega, by show _ ≤ 7302232; omega⟩)) (fun r9 hr9 => ?_)
      refine lv_iload hx hb dL_law_269 (lv_at hl 1 rfl) ?_
      refine lv_icmp_eq (tgt := 276) hx hb dL_law_271 (by decide) (fun c21 => ?_) (fun c21 => ?_)
      · skip
        refine lv_iload hx hb dL_law_276 (lv_at hl 1 rfl) ?_
        refine lv_if_ne (tgt := 300) hx hb dL_law_278 (by decide) (fun c22 => ?_) (fun c22 => ?_)
        · skip
          refine lv_goto (tgt := 1115) hx hb dL_law_300 (by decide) ?_
          refine W.widen (k := cells + 3) (n := slots + 25) (by omega) (by omega) ?_
          exact kk _ _ _ _ _ _ ⟨⟨hP1, hD1, hP2, hD2, hAp⟩, hS, hC2, hM2, hR2, hY2⟩ (lv_sub hl [2, 3, 4, 5, 6] rfl)
        · skip
          refine lv_aload_n hx hb dL_law_281 rfl (lv_at hl 3 rfl) ?_
          refine lv_iconst (v := 0) hx hb dL_law_282 (by decide) ?_
          have hP := hP1
          refine zlald hx hb hK hP hC2.2.1.1 hC2.2.1.2 (by unfold vp_in; decide) dL_law_283 ?_
          refine lv_topl (fun v23 ev23 => ?_)
          refine lv_iload hx hb dL_law_284 (lv_at hl 0 rfl) ?_
          refine lv_if_eq (tgt := 293) hx hb dL_law_286 (by decide) (fun c24 => ?_) (fun c24 => ?_)
          · skip
            refine lv_lconst (v := 0) hx hb dL_law_293 (by decide) ?_
            refine W.lcmp hx hb dL_law_294 ?_
            refine lv_topi (fun v25 ev25 => ?_)
            refine lv_if_eq (tgt := 300) hx hb dL_law_295 (by decide) (fun c26 => ?_) (fun c26 => ?_)
            · skip
              refine lv_goto (tgt := 1115) hx hb dL_law_300 (by decide) ?_
              refine W.widen (k := cells + 3) (n := slots + 25) (by omega) (by omega) ?_
              exact kk _ _ _ _ _ _ ⟨⟨hP1, hD1, hP2, hD2, hAp⟩, hS, hC2, hM2, hR2, hY2⟩ (lv_sub hl [2, 3, 4, 5, 6] rfl)
            · skip
              exact absurd (ev25.trans (zcmp0 (ev23.trans ((ho2 c22).trans (if_pos c24))))) c26
          · skip
            refine lv_lconst (v := 1) hx hb dL_law_289 (by decide) ?_
            refine lv_goto (tgt := 294) hx hb dL_law_290 (by decide) ?_
            refine W.lcmp hx hb dL_law_294 ?_
            refine lv_topi (fun v27 ev27 => ?_)
            refine lv_if_eq (tgt := 300) hx hb dL_law_295 (by decide) (fun c28 => ?_) (fun c28 => ?_)
            · skip
              refine lv_goto (tgt := 1115) hx hb dL_law_300 (by decide) ?_
              refine W.widen (k := cells + 3) (n := slots + 25) (by omega) (by omega) ?_
              exact kk _ _ _ _ _ _ ⟨⟨hP1, hD1, hP2, hD2, hAp⟩, hS, hC2, hM2, hR2, hY2⟩ (lv_sub hl [2, 3, 4, 5, 6] rfl)
            · skip
              exact absurd (ev27.trans (zcmp0 (ev23.trans ((ho2 c22).trans (if_neg c24))))) c28
      · skip
        exact absurd (hr9.trans he2) c21
set_option maxHeartbeats 4000000 in
set_option maxRecDepth 100000 in
theorem q_status {p : Program} {l : Launch} {e : Env} {s : State} {m : MethodId} {args : Array Value} {below : List Frame} {meth : Method} {c : Code} {H : Heap} {locs : List Loc} {cells slots : Nat} {Q : State → Prop} {ls : Array Slot} {dC : Nat → ClassId} {dI : Nat → Nat → Nat} {cy : Nat → ClassId} {A : Nat → Prop} {b L : Nat} {xs : Nat → Int32} {x f n sc ia na d ka va o mo : Nat} {ad : Nat → Nat} {G1 G2 : zG} {S1 S2 : zS} {i5 : Nat} {a1 a2 a3 a4 : Int32} (C : zLc p l s m args c dC dI cy A b L xs) (hi5 : i5 + 5 ≤ L) (ha1 : xs (nI (i5 + 1)).toNatClampNeg = a1) (ha2 : xs (nI (i5 + 2)).toNatClampNeg = a2) (ha3 : xs (nI (i5 + 3)).toNatClampNeg = a3) (ha4 : xs (nI (i5 + 4)).toNatClampNeg = a4) (hce : cells + 3 ≤ 600002) (hse : slots + 25 ≤ 7302232) (h : zLw dC dI cy s A x f n sc ia na d ka va o mo ad G1 S1 G2 S2 H locs) (hF : zF0 x f n sc d mo ad S1 S2)
    (hl : lv_has ls 7 [(4, .int (nI i5)), (3, .ref o), (2, .ref mo), (1, .ref x), (0, .ref b)]) (kk : ∀ (G1' : zG) (S1' S2' : zS) (H' : Heap) (locs' : List Loc) (ls' : Array Slot), zLw dC dI cy s A x f n sc ia na d ka va o mo ad G1' S1' G2 S2' H' locs' → lv_has ls' 7 [(4, .int (nI i5)), (3, .ref o), (2, .ref mo), (1, .ref x), (0, .ref b)] → W p l e room_1 s m args below meth c H' locs' (cells + 3) (slots + 25) Q (F0 m 1115 ls' [])) : W p l e room_1 s m args below meth c H locs cells slots Q (F0 m 303 ls []) := by
  obtain ⟨⟨hx, hb, hml, hown, hts⟩, ⟨hX, hbl, hbA, hL⟩, hA, hK, hN, hE, hNc, hlt⟩ := C
  obtain ⟨⟨hP1, hD1, hP2, hD2, hAp⟩, hS, hC, hM, hR, hY⟩ := h
  refine lv_aload_n hx hb dL_law_303 rfl (lv_at hl 3 rfl) ?_
  refine lv_aload_n hx hb dL_law_304 rfl (lv_at hl 4 rfl) ?_
  refine lv_iload hx hb dL_law_305 (lv_at hl 0 rfl) ?_
  refine lv_iconst (v := 1) hx hb dL_law_307 (by decide) ?_
  refine lv_iadd hx hb dL_law_308 ?_
  refine lv_topi (fun v1 ev1 => ?_)
  obtain rfl : v1 = nI (i5 + 1) := ev1.trans (nI_add i5 1)
  refine va_sld hx hb hX hbl hbA hS (vp_in_nI (by omega) (by omega)) dL_law_309 ?_
  rw [ha1]
  refine lv_aload_n hx hb dL_law_310 rfl (lv_at hl 4 rfl) ?_
  refine lv_iload hx hb dL_law_311 (lv_at hl 0 rfl) ?_
  refine lv_iconst (v := 2) hx hb dL_law_313 (by decide) ?_
  refine lv_iadd hx hb dL_law_314 ?_
  refine lv_topi (fun v2 ev2 => ?_)
  obtain rfl : v2 = nI (i5 + 2) := ev2.trans (nI_add i5 2)
  refine va_sld hx hb hX hbl hbA hS (vp_in_nI (by omega) (by omega)) dL_law_315 ?_
  rw [ha2]
  refine lv_aload_n hx hb dL_law_316 rfl (lv_at hl 4 rfl) ?_
  refine lv_iload hx hb dL_law_317 (lv_at hl 0 rfl) ?_
  refine lv_iconst (v := 3) hx hb dL_law_319 (by decide) ?_
  refine lv_iadd hx hb dL_law_320 ?_
  refine lv_topi (fun v3 ev3 => ?_)
  obtain rfl : v3 = nI (i5 + 3) := ev3.trans (nI_add i5 3)
  refine va_sld hx hb hX hbl hbA hS (vp_in_nI (by omega) (by omega)) dL_law_321 ?_
  rw [ha3]
  refine lv_aload_n hx hb dL_law_322 rfl (lv_at hl 4 rfl) ?_
  refine lv_iload hx hb dL_law_323 (lv_at hl 0 rfl) ?_
  refine lv_iconst (v := 4) hx hb dL_law_325 (by decide) ?_
  refine lv_iadd hx hb dL_law_326 ?_
  refine lv_topi (fun v4 ev4 => ?_)
  obtain rfl : v4 = nI (i5 + 4) := ev4.trans (nI_add i5 4)
  refine va_sld hx hb hX hbl hbA hS (vp_in_nI (by omega) (by omega)) dL_law_327 ?_
  rw [ha4]
  refine zc2i (vx_runSW (As := [.ref x, .int a1, .int a2, .int a3, .int a4]) (rest := []) ⟨hx, hb, hml, hown, hts⟩ (w_L_status l hlt dC dI cy G1 S1 H.size x f n sc ia na d ka va a1 a2 a3 a4 hC.1) (vx_cwSW 5 hts gL_law_L_status rfl rfl rfl (by decide +kernel) ⟨Nat.le_of_ble_eq_true rfl, Nat.le_of_ble_eq_true rfl⟩) (zpreSy hK hP1 hD1 hN hE hS hA hNc) rfl rfl hl.1 rfl (lv_room (Nat.le_of_ble_eq_true rfl)) dL_law_328 ⟨by show _ ≤ 600002; omega, by show _ ≤ 7302232; omega⟩) hS hD1 hA hP2 hAp (fun k9 T1 H locs hw hP1 hD1 hP2 hAp hS => ?_)
  refine lv_istore (lv' := [(5, .int k9), (4, .int (nI i5)), (3, .ref o), (2, .ref mo), (1, .ref x), (0, .ref b)]) hx hb dL_law_331 hl (by decide) rfl (fun ls hl => ?_)
  refine lv_aload_n hx hb dL_law_333 rfl (lv_at hl 3 rfl) ?_
  refine lv_aload_n hx hb dL_law_334 rfl (lv_at hl 5 rfl) ?_
  refine lv_iload hx hb dL_law_335 (lv_at hl 1 rfl) ?_
  refine lv_iconst (v := 1) hx hb dL_law_337 (by decide) ?_
  refine lv_iadd hx hb dL_law_338 ?_
  refine lv_topi (fun v5 ev5 => ?_)
  obtain rfl : v5 = nI (i5 + 1) := ev5.trans (nI_add i5 1)
  refine va_sld hx hb hX hbl hbA hS (vp_in_nI (by omega) (by omega)) dL_law_339 ?_
  rw [ha1]
  refine lv_aload_n hx hb dL_law_340 rfl (lv_at hl 5 rfl) ?_
  refine lv_iload hx hb dL_law_341 (lv_at hl 1 rfl) ?_
  refine lv_iconst (v := 2) hx hb dL_law_343 (by decide) ?_
  refine lv_iadd hx hb dL_law_344 ?_
  refine lv_topi (fun v6 ev6 => ?_)
  obtain rfl : v6 = nI (i5 + 2) := ev6.trans (nI_add i5 2)
  refine va_sld hx hb hX hbl hbA hS (vp_in_nI (by omega) (by omega)) dL_law_345 ?_
  rw [ha2]
  refine lv_aload_n hx hb dL_law_346 rfl (lv_at hl 5 rfl) ?_
  refine lv_iload hx hb dL_law_347 (lv_at hl 1 rfl) ?_
  refine lv_iconst (v := 3) hx hb dL_law_349 (by decide) ?_
  refine lv_iadd hx hb dL_law_350 ?_
  refine lv_topi (fun v7 ev7 => ?_)
  obtain rfl : v7 = nI (i5 + 3) := ev7.trans (nI_add i5 3)
  refine va_sld hx hb hX hbl hbA hS (vp_in_nI (by omega) (by omega)) dL_law_351 ?_
  rw [ha3]
  refine lv_aload_n hx hb dL_law_352 rfl (lv_at hl 5 rfl) ?_
  refine lv_iload hx hb dL_law_353 (lv_at hl 1 rfl) ?_
  refine lv_iconst (v := 4) hx hb dL_law_355 (by decide) ?_
  refine lv_iadd hx hb dL_law_356 ?_
  refine lv_topi (fun v8 ev8 => ?_)
  obtain rfl : v8 = nI (i5 + 4) := ev8.trans (nI_add i5 4)
  refine va_sld hx hb hX hbl hbA hS (vp_in_nI (by omega) (by omega)) dL_law_357 ?_
  rw [ha4]
  refine zc2v (va_runV (As := [.int a1, .int a2, .int a3, .int a4]) (rest := []) ⟨hx, hb, hml, hown, hts⟩ (c_X7_status l dC dI cy G2 S2 H.size mo ad a1 a2 a3 a4 hM.1 hM.2.1) (cwV 4 hts gL_law_X7_status rfl rfl rfl (by decide +kernel) ⟨Nat.le_of_ble_eq_true rfl, Nat.le_of_ble_eq_true rfl⟩) (zpreV hK hP2 hD2 hN (zrecv7 hK hP2 hM.1.1)) rfl rfl hl.1 rfl (lv_room (Nat.le_of_ble_eq_true rfl)) dL_law_358 ⟨by show _ ≤ 600002; omega, by show _ ≤ 7302232; omega⟩) hS hD2 hA hP1 hAp.symm (fun T2 H locs hm hP2 hD2 hP1 hAp hS => ?_)
  have hAp := hAp.symm
  obtain ⟨hC2, hM2, hR2, he2⟩ := s_status hC hM hR hw hm
  have hY2 := hY.vy (v_status (v := a1) (id := a2) (b := a3) (k := a4) hC hw) (hm.1.1.2.1 4 (by decide) (by decide)) (hm.1.1.2.1 5 (by decide) (by decide)) (hm.1.1.2.1 6 (by decide) (by decide))
  refine lv_aload_n hx hb dL_law_361 rfl (lv_at hl 3 rfl) ?_
  refine vp_callSi (va_Run.run (va_runV (As := []) (rest := []) ⟨hx, hb, hml, hown, hts⟩ (c_X7_thrown l dC dI cy G2 T2 H.size mo ad hM2.1) (cwV 0 hts gL_law_X7_thrown rfl rfl rfl (by decide +kernel) ⟨Nat.le_of_ble_eq_true rfl, Nat.le_of_ble_eq_true rfl⟩) (zpreV hK hP2 hD2 hN (zrecv7 hK hP2 hM2.1.1)) rfl rfl hl.1 rfl (lv_room (Nat.le_of_ble_eq_true rfl)) dL_law_362 ⟨by show _ ≤ 600002; omega, by show _ ≤ 7302232; omega⟩)) (fun r9 hr9 => ?_)
  refine lv_iload hx hb dL_law_365 (lv_at hl 0 rfl) ?_
  refine lv_icmp_eq (tgt := 372) hx hb dL_law_367 (by decide) (fun c9 => ?_) (fun c9 => ?_)
  · skip
    refine lv_goto (tgt := 1115) hx hb dL_law_372 (by decide) ?_
    refine W.widen (k := cells + 3) (n := slots + 25) (by omega) (by omega) ?_
    exact kk _ _ _ _ _ _ ⟨⟨hP1, hD1, hP2, hD2, hAp⟩, hS, hC2, hM2, hR2, hY2⟩ (lv_sub hl [1, 2, 3, 4, 5] rfl)
  · skip
    exact absurd (hr9.trans he2) c9
set_option maxHeartbeats 4000000 in
set_option maxRecDepth 100000 in
theorem q_space {p : Program} {l : Launch} {e : Env} {s : State} {m : MethodId} {args : Array Value} {below : List Frame} {meth : Method} {c : Code} {H : Heap} {locs : List Loc} {cells slots : Nat} {Q : State → Prop} {ls : Array Slot} {dC : Nat → ClassId} {dI : Nat → Nat → Nat} {cy : Nat → ClassId} {A : Nat → Prop} {b L : Nat} {xs : Nat → Int32} {x f n sc ia na d ka va o mo : Nat} {ad : Nat → Nat} {G1 G2 : zG} {S1 S2 : zS} {i5 : Nat} {a1 a2 a3 a4 : Int32} (C : zLc p l s m args c dC dI cy A b L xs) (hi5 : i5 + 5 ≤ L) (ha1 : xs (nI (i5 + 1)).toNatClampNeg = a1) (ha2 : xs (nI (i5 + 2)).toNatClampNeg = a2) (ha3 : xs (nI (i5 + 3)).toNatClampNeg = a3) (ha4 : xs (nI (i5 + 4)).toNatClampNeg = a4) (hce : cells + 3 ≤ 600002) (hse : slots + 25 ≤ 7302232) (h : zLw dC dI cy s A x f n sc ia na d ka va o mo ad G1 S1 G2 S2 H locs) (hF : zF0 x f n sc d mo ad S1 S2)
    (hl : lv_has ls 7 [(4, .int (nI i5)), (3, .ref o), (2, .ref mo), (1, .ref x), (0, .ref b)]) (kk : ∀ (G1' : zG) (S1' S2' : zS) (H' : Heap) (locs' : List Loc) (ls' : Array Slot), zLw dC dI cy s A x f n sc ia na d ka va o mo ad G1' S1' G2 S2' H' locs' → lv_has ls' 7 [(4, .int (nI i5)), (3, .ref o), (2, .ref mo), (1, .ref x), (0, .ref b)] → W p l e room_1 s m args below meth c H' locs' (cells + 3) (slots + 25) Q (F0 m 1115 ls' [])) : W p l e room_1 s m args below meth c H locs cells slots Q (F0 m 375 ls []) := by
  obtain ⟨⟨hx, hb, hml, hown, hts⟩, ⟨hX, hbl, hbA, hL⟩, hA, hK, hN, hE, hNc, hlt⟩ := C
  obtain ⟨⟨hP1, hD1, hP2, hD2, hAp⟩, hS, hC, hM, hR, hY⟩ := h
  refine lv_aload_n hx hb dL_law_375 rfl (lv_at hl 3 rfl) ?_
  refine lv_aload_n hx hb dL_law_376 rfl (lv_at hl 4 rfl) ?_
  refine lv_iload hx hb dL_law_377 (lv_at hl 0 rfl) ?_
  refine lv_iconst (v := 1) hx hb dL_law_379 (by decide) ?_
  refine lv_iadd hx hb dL_law_380 ?_
  refine lv_topi (fun v1 ev1 => ?_)
  obtain rfl : v1 = nI (i5 + 1) := ev1.trans (nI_add i5 1)
  refine va_sld hx hb hX hbl hbA hS (vp_in_nI (by omega) (by omega)) dL_law_381 ?_
  rw [ha1]
  refine lv_aload_n hx hb dL_law_382 rfl (lv_at hl 4 rfl) ?_
  refine lv_iload hx hb dL_law_383 (lv_at hl 0 rfl) ?_
  refine lv_iconst (v := 2) hx hb dL_law_385 (by decide) ?_
  refine lv_iadd hx hb dL_law_386 ?_
  refine lv_topi (fun v2 ev2 => ?_)
  obtain rfl : v2 = nI (i5 + 2) := ev2.trans (nI_add i5 2)
  refine va_sld hx hb hX hbl hbA hS (vp_in_nI (by omega) (by omega)) dL_law_387 ?_
  rw [ha2]
  refine lv_aload_n hx hb dL_law_388 rfl (lv_at hl 1 rfl) ?_
  refine zc2i (vx_runSW (As := [.ref x, .int a1, .int a2, .ref o]) (rest := []) ⟨hx, hb, hml, hown, hts⟩ (w_L_space l hlt dC dI cy G1 S1 H.size x f n sc ia na d ka va a1 a2 o hC.1 hC.2.1.1 hC.2.1.2) (vx_cwSW 4 hts gL_law_L_space rfl rfl rfl (by decide +kernel) ⟨Nat.le_of_ble_eq_true rfl, Nat.le_of_ble_eq_true rfl⟩) (zpreSy hK hP1 hD1 hN hE hS hA hNc) rfl rfl hl.1 rfl (lv_room (Nat.le_of_ble_eq_true rfl)) dL_law_389 ⟨by show _ ≤ 600002; omega, by show _ ≤ 7302232; omega⟩) hS hD1 hA hP2 hAp (fun k9 T1 H locs hw hP1 hD1 hP2 hAp hS => ?_)
  refine lv_istore (lv' := [(5, .int k9), (4, .int (nI i5)), (3, .ref o), (2, .ref mo), (1, .ref x), (0, .ref b)]) hx hb dL_law_392 hl (by decide) rfl (fun ls hl => ?_)
  refine lv_aload_n hx hb dL_law_394 rfl (lv_at hl 3 rfl) ?_
  refine lv_aload_n hx hb dL_law_395 rfl (lv_at hl 5 rfl) ?_
  refine lv_iload hx hb dL_law_396 (lv_at hl 1 rfl) ?_
  refine lv_iconst (v := 1) hx hb dL_law_398 (by decide) ?_
  refine lv_iadd hx hb dL_law_399 ?_
  refine lv_topi (fun v3 ev3 => ?_)
  obtain rfl : v3 = nI (i5 + 1) := ev3.trans (nI_add i5 1)
  refine va_sld hx hb hX hbl hbA hS (vp_in_nI (by omega) (by omega)) dL_law_400 ?_
  rw [ha1]
  refine lv_aload_n hx hb dL_law_401 rfl (lv_at hl 5 rfl) ?_
  refine lv_iload hx hb dL_law_402 (lv_at hl 1 rfl) ?_
  refine lv_iconst (v := 2) hx hb dL_law_404 (by decide) ?_
  refine lv_iadd hx hb dL_law_405 ?_
  refine lv_topi (fun v4 ev4 => ?_)
  obtain rfl : v4 = nI (i5 + 2) := ev4.trans (nI_add i5 2)
  refine va_sld hx hb hX hbl hbA hS (vp_in_nI (by omega) (by omega)) dL_law_406 ?_
  rw [ha2]
  refine zc2i (va_runV (As := [.int a1, .int a2]) (rest := []) ⟨hx, hb, hml, hown, hts⟩ (c_X7_space l dC dI cy G2 S2 H.size mo ad a1 a2 hM.1 hM.2.1) (cwV 2 hts gL_law_X7_space rfl rfl rfl (by decide +kernel) ⟨Nat.le_of_ble_eq_true rfl, Nat.le_of_ble_eq_true rfl⟩) (zpreV hK hP2 hD2 hN (zrecv7 hK hP2 hM.1.1)) rfl rfl hl.1 rfl (lv_room (Nat.le_of_ble_eq_true rfl)) dL_law_407 ⟨by show _ ≤ 600002; omega, by show _ ≤ 7302232; omega⟩) hS hD2 hA hP1 hAp.symm (fun r2 T2 H locs hm hP2 hD2 hP1 hAp hS => ?_)
  have hAp := hAp.symm
  obtain ⟨hC2, hM2, hR2, he2, ho2⟩ := s_space hC hM hR hw hm
  have hY2 := hY.vy (v_space (v := a1) (b := a2) hC hw) (hm.1.1.2.1 4 (by decide) (by decide)) (hm.1.1.2.1 5 (by decide) (by decide)) (hm.1.1.2.1 6 (by decide) (by decide))
  refine lv_istore (lv' := [(6, .int r2), (5, .int k9), (4, .int (nI i5)), (3, .ref o), (2, .ref mo), (1, .ref x), (0, .ref b)]) hx hb dL_law_410 hl (by decide) rfl (fun ls hl => ?_)
  refine lv_aload_n hx hb dL_law_412 rfl (lv_at hl 4 rfl) ?_
  refine vp_callSi (va_Run.run (va_runV (As := []) (rest := []) ⟨hx, hb, hml, hown, hts⟩ (c_X7_thrown l dC dI cy G2 T2 H.size mo ad hM2.1) (cwV 0 hts gL_law_X7_thrown rfl rfl rfl (by decide +kernel) ⟨Nat.le_of_ble_eq_true rfl, Nat.le_of_ble_eq_true rfl⟩) (zpreV hK hP2 hD2 hN (zrecv7 hK hP2 hM2.1.1)) rfl rfl hl.1 rfl (lv_room (Nat.le_of_ble_eq_true rfl)) dL_law_413 ⟨by show _ ≤ 600002; omega, by show _ ≤ 7302232; omega⟩)) (fun r9 hr9 => ?_)
  refine lv_iload hx hb dL_law_416 (lv_at hl 1 rfl) ?_
  refine lv_icmp_eq (tgt := 423) hx hb dL_law_418 (by decide) (fun c5 => ?_) (fun c5 => ?_)
  · skip
    refine lv_iload hx hb dL_law_423 (lv_at hl 1 rfl) ?_
    refine lv_if_ne (tgt := 440) hx hb dL_law_425 (by decide) (fun c6 => ?_) (fun c6 => ?_)
    · skip
      refine lv_goto (tgt := 1115) hx hb dL_law_440 (by decide) ?_
      refine W.widen (k := cells + 3) (n := slots + 25) (by omega) (by omega) ?_
      exact kk _ _ _ _ _ _ ⟨⟨hP1, hD1, hP2, hD2, hAp⟩, hS, hC2, hM2, hR2, hY2⟩ (lv_sub hl [2, 3, 4, 5, 6] rfl)
    · skip
      refine lv_aload_n hx hb dL_law_428 rfl (lv_at hl 3 rfl) ?_
      refine lv_iconst (v := 0) hx hb dL_law_429 (by decide) ?_
      have hP := hP1
      refine zlald hx hb hK hP hC2.2.1.1 hC2.2.1.2 (by unfold vp_in; decide) dL_law_430 ?_
      refine lv_topl (fun v7 ev7 => ?_)
      refine lv_iload hx hb dL_law_431 (lv_at hl 0 rfl) ?_
      refine lv_i2l hx hb dL_law_433 rfl ?_
      refine lv_topl (fun v8 ev8 => ?_)
      refine W.lcmp hx hb dL_law_434 ?_
      refine lv_topi (fun v9 ev9 => ?_)
      refine lv_if_eq (tgt := 440) hx hb dL_law_435 (by decide) (fun c10 => ?_) (fun c10 => ?_)
      · skip
        refine lv_goto (tgt := 1115) hx hb dL_law_440 (by decide) ?_
        refine W.widen (k := cells + 3) (n := slots + 25) (by omega) (by omega) ?_
        exact kk _ _ _ _ _ _ ⟨⟨hP1, hD1, hP2, hD2, hAp⟩, hS, hC2, hM2, hR2, hY2⟩ (lv_sub hl [2, 3, 4, 5, 6] rfl)
      · skip
        exact absurd (ev9.trans (zcmp0 (ev7.trans ((ho2 c6).trans ev8.symm)))) c10
  · skip
    exact absurd (hr9.trans he2) c5
set_option maxHeartbeats 4000000 in
set_option maxRecDepth 100000 in
theorem q_slot {p : Program} {l : Launch} {e : Env} {s : State} {m : MethodId} {args : Array Value} {below : List Frame} {meth : Method} {c : Code} {H : Heap} {locs : List Loc} {cells slots : Nat} {Q : State → Prop} {ls : Array Slot} {dC : Nat → ClassId} {dI : Nat → Nat → Nat} {cy : Nat → ClassId} {A : Nat → Prop} {b L : Nat} {xs : Nat → Int32} {x f n sc ia na d ka va o mo : Nat} {ad : Nat → Nat} {G1 G2 : zG} {S1 S2 : zS} {i5 : Nat} {a1 a2 a3 a4 : Int32} (C : zLc p l s m args c dC dI cy A b L xs) (hi5 : i5 + 5 ≤ L) (ha1 : xs (nI (i5 + 1)).toNatClampNeg = a1) (ha2 : xs (nI (i5 + 2)).toNatClampNeg = a2) (ha3 : xs (nI (i5 + 3)).toNatClampNeg = a3) (ha4 : xs (nI (i5 + 4)).toNatClampNeg = a4) (hce : cells + 3 ≤ 600002) (hse : slots + 25 ≤ 7302232) (h : zLw dC dI cy s A x f n sc ia na d ka va o mo ad G1 S1 G2 S2 H locs) (hF : zF0 x f n sc d mo ad S1 S2)
    (hl : lv_has ls 7 [(4, .int (nI i5)), (3, .ref o), (2, .ref mo), (1, .ref x), (0, .ref b)]) (kk : ∀ (G1' : zG) (S1' S2' : zS) (H' : Heap) (locs' : List Loc) (ls' : Array Slot), zLw dC dI cy s A x f n sc ia na d ka va o mo ad G1' S1' G2 S2' H' locs' → lv_has ls' 7 [(4, .int (nI i5)), (3, .ref o), (2, .ref mo), (1, .ref x), (0, .ref b)] → W p l e room_1 s m args below meth c H' locs' (cells + 3) (slots + 25) Q (F0 m 1115 ls' [])) : W p l e room_1 s m args below meth c H locs cells slots Q (F0 m 443 ls []) := by
  obtain ⟨⟨hx, hb, hml, hown, hts⟩, ⟨hX, hbl, hbA, hL⟩, hA, hK, hN, hE, hNc, hlt⟩ := C
  obtain ⟨⟨hP1, hD1, hP2, hD2, hAp⟩, hS, hC, hM, hR, hY⟩ := h
  have hsl : ∃ q, q ≤ 16 ∧ S1.1 sc 2 = nI q := by rw [hR.2.1]; exact hM.2.1.2.1
  refine lv_aload_n hx hb dL_law_443 rfl (lv_at hl 3 rfl) ?_
  refine lv_aload_n hx hb dL_law_444 rfl (lv_at hl 4 rfl) ?_
  refine lv_iload hx hb dL_law_445 (lv_at hl 0 rfl) ?_
  refine lv_iconst (v := 1) hx hb dL_law_447 (by decide) ?_
  refine lv_iadd hx hb dL_law_448 ?_
  refine lv_topi (fun v1 ev1 => ?_)
  obtain rfl : v1 = nI (i5 + 1) := ev1.trans (nI_add i5 1)
  refine va_sld hx hb hX hbl hbA hS (vp_in_nI (by omega) (by omega)) dL_law_449 ?_
  rw [ha1]
  refine lv_aload_n hx hb dL_law_450 rfl (lv_at hl 4 rfl) ?_
  refine lv_iload hx hb dL_law_451 (lv_at hl 0 rfl) ?_
  refine lv_iconst (v := 2) hx hb dL_law_453 (by decide) ?_
  refine lv_iadd hx hb dL_law_454 ?_
  refine lv_topi (fun v2 ev2 => ?_)
  obtain rfl : v2 = nI (i5 + 2) := ev2.trans (nI_add i5 2)
  refine va_sld hx hb hX hbl hbA hS (vp_in_nI (by omega) (by omega)) dL_law_455 ?_
  rw [ha2]
  refine lv_aload_n hx hb dL_law_456 rfl (lv_at hl 1 rfl) ?_
  refine zc2i (vx_runSW (As := [.ref x, .int a1, .int a2, .ref o]) (rest := []) ⟨hx, hb, hml, hown, hts⟩ (w_L_slot l hlt dC dI cy G1 S1 H.size x f n sc ia na d ka va a1 a2 o hC.1 hsl hC.2.1.1 hC.2.1.2) (vx_cwSW 4 hts gL_law_L_slot rfl rfl rfl (by decide +kernel) ⟨Nat.le_of_ble_eq_true rfl, Nat.le_of_ble_eq_true rfl⟩) (zpreSy hK hP1 hD1 hN hE hS hA hNc) rfl rfl hl.1 rfl (lv_room (Nat.le_of_ble_eq_true rfl)) dL_law_457 ⟨by show _ ≤ 600002; omega, by show _ ≤ 7302232; omega⟩) hS hD1 hA hP2 hAp (fun k9 T1 H locs hw hP1 hD1 hP2 hAp hS => ?_)
  refine lv_istore (lv' := [(5, .int k9), (4, .int (nI i5)), (3, .ref o), (2, .ref mo), (1, .ref x), (0, .ref b)]) hx hb dL_law_460 hl (by decide) rfl (fun ls hl => ?_)
  refine lv_aload_n hx hb dL_law_462 rfl (lv_at hl 3 rfl) ?_
  refine lv_aload_n hx hb dL_law_463 rfl (lv_at hl 5 rfl) ?_
  refine lv_iload hx hb dL_law_464 (lv_at hl 1 rfl) ?_
  refine lv_iconst (v := 1) hx hb dL_law_466 (by decide) ?_
  refine lv_iadd hx hb dL_law_467 ?_
  refine lv_topi (fun v3 ev3 => ?_)
  obtain rfl : v3 = nI (i5 + 1) := ev3.trans (nI_add i5 1)
  refine va_sld hx hb hX hbl hbA hS (vp_in_nI (by omega) (by omega)) dL_law_468 ?_
  rw [ha1]
  refine lv_aload_n hx hb dL_law_469 rfl (lv_at hl 5 rfl) ?_
  refine lv_iload hx hb dL_law_470 (lv_at hl 1 rfl) ?_
  refine lv_iconst (v := 2) hx hb dL_law_472 (by decide) ?_
  refine lv_iadd hx hb dL_law_473 ?_
  refine lv_topi (fun v4 ev4 => ?_)
  obtain rfl : v4 = nI (i5 + 2) := ev4.trans (nI_add i5 2)
  refine va_sld hx hb hX hbl hbA hS (vp_in_nI (by omega) (by omega)) dL_law_474 ?_
  rw [ha2]
  refine zc2i (va_runV (As := [.int a1, .int a2]) (rest := []) ⟨hx, hb, hml, hown, hts⟩ (c_X7_slot l dC dI cy G2 S2 H.size mo ad a1 a2 hM.1 hM.2.1) (cwV 2 hts gL_law_X7_slot rfl rfl rfl (by decide +kernel) ⟨Nat.le_of_ble_eq_true rfl, Nat.le_of_ble_eq_true rfl⟩) (zpreV hK hP2 hD2 hN (zrecv7 hK hP2 hM.1.1)) rfl rfl hl.1 rfl (lv_room (Nat.le_of_ble_eq_true rfl)) dL_law_475 ⟨by show _ ≤ 600002; omega, by show _ ≤ 7302232; omega⟩) hS hD2 hA hP1 hAp.symm (fun r2 T2 H locs hm hP2 hD2 hP1 hAp hS => ?_)
  have hAp := hAp.symm
  obtain ⟨hC2, hM2, hR2, he2, ho2⟩ := s_slot hC hM hR hw hm
  have hY2 := hY.vy (v_slot (id := a1) (b := a2) hC hw) (hm.1.1.2.1 4 (by decide) (by decide)) (hm.1.1.2.1 5 (by decide) (by decide)) (hm.1.1.2.1 6 (by decide) (by decide))
  refine lv_istore (lv' := [(6, .int r2), (5, .int k9), (4, .int (nI i5)), (3, .ref o), (2, .ref mo), (1, .ref x), (0, .ref b)]) hx hb dL_law_478 hl (by decide) rfl (fun ls hl => ?_)
  refine lv_aload_n hx hb dL_law_480 rfl (lv_at hl 4 rfl) ?_
  refine vp_callSi (va_Run.run (va_runV (As := []) (rest := []) ⟨hx, hb, hml, hown, hts⟩ (c_X7_thrown l dC dI cy G2 T2 H.size mo ad hM2.1) (cwV 0 hts gL_law_X7_thrown rfl rfl rfl (by decide +kernel) ⟨Nat.le_of_ble_eq_true rfl, Nat.le_of_ble_eq_true rfl⟩) (zpreV hK hP2 hD2 hN (zrecv7 hK hP2 hM2.1.1)) rfl rfl hl.1 rfl (lv_room (Nat.le_of_ble_eq_true rfl)) dL_law_481 ⟨by show _ ≤ 600002; omega, by show _ ≤ 7302232; omega⟩)) (fun r9 hr9 => ?_)
  refine lv_iload hx hb dL_law_484 (lv_at hl 1 rfl) ?_
  refine lv_icmp_eq (tgt := 491) hx hb dL_law_486 (by decide) (fun c5 => ?_) (fun c5 => ?_)
  · skip
    refine lv_iload hx hb dL_law_491 (lv_at hl 1 rfl) ?_
    refine lv_if_ne (tgt := 508) hx hb dL_law_493 (by decide) (fun c6 => ?_) (fun c6 => ?_)
    · skip
      refine lv_goto (tgt := 1115) hx hb dL_law_508 (by decide) ?_
      refine W.widen (k := cells + 3) (n := slots + 25) (by omega) (by omega) ?_
      exact kk _ _ _ _ _ _ ⟨⟨hP1, hD1, hP2, hD2, hAp⟩, hS, hC2, hM2, hR2, hY2⟩ (lv_sub hl [2, 3, 4, 5, 6] rfl)
    · skip
      refine lv_aload_n hx hb dL_law_496 rfl (lv_at hl 3 rfl) ?_
      refine lv_iconst (v := 0) hx hb dL_law_497 (by decide) ?_
      have hP := hP1
      refine zlald hx hb hK hP hC2.2.1.1 hC2.2.1.2 (by unfold vp_in; decide) dL_law_498 ?_
      refine lv_topl (fun v7 ev7 => ?_)
      refine lv_iload hx hb dL_law_499 (lv_at hl 0 rfl) ?_
      refine lv_i2l hx hb dL_law_501 rfl ?_
      refine lv_topl (fun v8 ev8 => ?_)
      refine W.lcmp hx hb dL_law_502 ?_
      refine lv_topi (fun v9 ev9 => ?_)
      refine lv_if_eq (tgt := 508) hx hb dL_law_503 (by decide) (fun c10 => ?_) (fun c10 => ?_)
      · skip
        refine lv_goto (tgt := 1115) hx hb dL_law_508 (by decide) ?_
        refine W.widen (k := cells + 3) (n := slots + 25) (by omega) (by omega) ?_
        exact kk _ _ _ _ _ _ ⟨⟨hP1, hD1, hP2, hD2, hAp⟩, hS, hC2, hM2, hR2, hY2⟩ (lv_sub hl [2, 3, 4, 5, 6] rfl)
      · skip
        exact absurd (ev9.trans (zcmp0 (ev7.trans ((ho2 c6).trans ev8.symm)))) c10
  · skip
    exact absurd (hr9.trans he2) c5
set_option maxHeartbeats 4000000 in
set_option maxRecDepth 100000 in
theorem q_write {p : Program} {l : Launch} {e : Env} {s : State} {m : MethodId} {args : Array Value} {below : List Frame} {meth : Method} {c : Code} {H : Heap} {locs : List Loc} {cells slots : Nat} {Q : State → Prop} {ls : Array Slot} {dC : Nat → ClassId} {dI : Nat → Nat → Nat} {cy : Nat → ClassId} {A : Nat → Prop} {b L : Nat} {xs : Nat → Int32} {x f n sc ia na d ka va o mo : Nat} {ad : Nat → Nat} {G1 G2 : zG} {S1 S2 : zS} {i5 : Nat} {a1 a2 a3 a4 : Int32} (C : zLc p l s m args c dC dI cy A b L xs) (hi5 : i5 + 5 ≤ L) (ha1 : xs (nI (i5 + 1)).toNatClampNeg = a1) (ha2 : xs (nI (i5 + 2)).toNatClampNeg = a2) (ha3 : xs (nI (i5 + 3)).toNatClampNeg = a3) (ha4 : xs (nI (i5 + 4)).toNatClampNeg = a4) (hce : cells + 3 ≤ 600002) (hse : slots + 25 ≤ 7302232) (h : zLw dC dI cy s A x f n sc ia na d ka va o mo ad G1 S1 G2 S2 H locs) (hF : zF0 x f n sc d mo ad S1 S2)
    (hl : lv_has ls 7 [(4, .int (nI i5)), (3, .ref o), (2, .ref mo), (1, .ref x), (0, .ref b)]) (kk : ∀ (G1' : zG) (S1' S2' : zS) (H' : Heap) (locs' : List Loc) (ls' : Array Slot), zLw dC dI cy s A x f n sc ia na d ka va o mo ad G1' S1' G2 S2' H' locs' → lv_has ls' 7 [(4, .int (nI i5)), (3, .ref o), (2, .ref mo), (1, .ref x), (0, .ref b)] → W p l e room_1 s m args below meth c H' locs' (cells + 3) (slots + 25) Q (F0 m 1115 ls' [])) : W p l e room_1 s m args below meth c H locs cells slots Q (F0 m 511 ls []) := by
  obtain ⟨⟨hx, hb, hml, hown, hts⟩, ⟨hX, hbl, hbA, hL⟩, hA, hK, hN, hE, hNc, hlt⟩ := C
  obtain ⟨⟨hP1, hD1, hP2, hD2, hAp⟩, hS, hC, hM, hR, hY⟩ := h
  refine lv_aload_n hx hb dL_law_511 rfl (lv_at hl 3 rfl) ?_
  refine lv_aload_n hx hb dL_law_512 rfl (lv_at hl 4 rfl) ?_
  refine lv_iload hx hb dL_law_513 (lv_at hl 0 rfl) ?_
  refine lv_iconst (v := 1) hx hb dL_law_515 (by decide) ?_
  refine lv_iadd hx hb dL_law_516 ?_
  refine lv_topi (fun v1 ev1 => ?_)
  obtain rfl : v1 = nI (i5 + 1) := ev1.trans (nI_add i5 1)
  refine va_sld hx hb hX hbl hbA hS (vp_in_nI (by omega) (by omega)) dL_law_517 ?_
  rw [ha1]
  refine lv_aload_n hx hb dL_law_518 rfl (lv_at hl 4 rfl) ?_
  refine lv_iload hx hb dL_law_519 (lv_at hl 0 rfl) ?_
  refine lv_iconst (v := 2) hx hb dL_law_521 (by decide) ?_
  refine lv_iadd hx hb dL_law_522 ?_
  refine lv_topi (fun v2 ev2 => ?_)
  obtain rfl : v2 = nI (i5 + 2) := ev2.trans (nI_add i5 2)
  refine va_sld hx hb hX hbl hbA hS (vp_in_nI (by omega) (by omega)) dL_law_523 ?_
  rw [ha2]
  refine lv_aload_n hx hb dL_law_524 rfl (lv_at hl 4 rfl) ?_
  refine lv_iload hx hb dL_law_525 (lv_at hl 0 rfl) ?_
  refine lv_iconst (v := 3) hx hb dL_law_527 (by decide) ?_
  refine lv_iadd hx hb dL_law_528 ?_
  refine lv_topi (fun v3 ev3 => ?_)
  obtain rfl : v3 = nI (i5 + 3) := ev3.trans (nI_add i5 3)
  refine va_sld hx hb hX hbl hbA hS (vp_in_nI (by omega) (by omega)) dL_law_529 ?_
  rw [ha3]
  refine lv_aload_n hx hb dL_law_530 rfl (lv_at hl 1 rfl) ?_
  refine zc2i (vx_runSW (As := [.ref x, .int a1, .int a2, .int a3, .ref o]) (rest := []) ⟨hx, hb, hml, hown, hts⟩ (w_L_write l hlt dC dI cy G1 S1 H.size x f n sc ia na d ka va a1 a2 a3 o hC.1 hC.2.1.1 hC.2.1.2) (vx_cwSW 5 hts gL_law_L_write rfl rfl rfl (by decide +kernel) ⟨Nat.le_of_ble_eq_true rfl, Nat.le_of_ble_eq_true rfl⟩) (zpreSy hK hP1 hD1 hN hE hS hA hNc) rfl rfl hl.1 rfl (lv_room (Nat.le_of_ble_eq_true rfl)) dL_law_531 ⟨by show _ ≤ 600002; omega, by show _ ≤ 7302232; omega⟩) hS hD1 hA hP2 hAp (fun k9 T1 H locs hw hP1 hD1 hP2 hAp hS => ?_)
  refine lv_istore (lv' := [(5, .int k9), (4, .int (nI i5)), (3, .ref o), (2, .ref mo), (1, .ref x), (0, .ref b)]) hx hb dL_law_534 hl (by decide) rfl (fun ls hl => ?_)
  refine lv_aload_n hx hb dL_law_536 rfl (lv_at hl 3 rfl) ?_
  refine lv_aload_n hx hb dL_law_537 rfl (lv_at hl 5 rfl) ?_
  refine lv_iload hx hb dL_law_538 (lv_at hl 1 rfl) ?_
  refine lv_iconst (v := 1) hx hb dL_law_540 (by decide) ?_
  refine lv_iadd hx hb dL_law_541 ?_
  refine lv_topi (fun v4 ev4 => ?_)
  obtain rfl : v4 = nI (i5 + 1) := ev4.trans (nI_add i5 1)
  refine va_sld hx hb hX hbl hbA hS (vp_in_nI (by omega) (by omega)) dL_law_542 ?_
  rw [ha1]
  refine lv_aload_n hx hb dL_law_543 rfl (lv_at hl 5 rfl) ?_
  refine lv_iload hx hb dL_law_544 (lv_at hl 1 rfl) ?_
  refine lv_iconst (v := 2) hx hb dL_law_546 (by decide) ?_
  refine lv_iadd hx hb dL_law_547 ?_
  refine lv_topi (fun v5 ev5 => ?_)
  obtain rfl : v5 = nI (i5 + 2) := ev5.trans (nI_add i5 2)
  refine va_sld hx hb hX hbl hbA hS (vp_in_nI (by omega) (by omega)) dL_law_548 ?_
  rw [ha2]
  refine lv_aload_n hx hb dL_law_549 rfl (lv_at hl 5 rfl) ?_
  refine lv_iload hx hb dL_law_550 (lv_at hl 1 rfl) ?_
  refine lv_iconst (v := 3) hx hb dL_law_552 (by decide) ?_
  refine lv_iadd hx hb dL_law_553 ?_
  refine lv_topi (fun v6 ev6 => ?_)
  obtain rfl : v6 = nI (i5 + 3) := ev6.trans (nI_add i5 3)
  refine va_sld hx hb hX hbl hbA hS (vp_in_nI (by omega) (by omega)) dL_law_554 ?_
  rw [ha3]
  refine zc2i (va_runV (As := [.int a1, .int a2, .int a3]) (rest := []) ⟨hx, hb, hml, hown, hts⟩ (c_X7_write l dC dI cy G2 S2 H.size mo ad a1 a2 a3 hM.1 hM.2.1) (cwV 3 hts gL_law_X7_write rfl rfl rfl (by decide +kernel) ⟨Nat.le_of_ble_eq_true rfl, Nat.le_of_ble_eq_true rfl⟩) (zpreV hK hP2 hD2 hN (zrecv7 hK hP2 hM.1.1)) rfl rfl hl.1 rfl (lv_room (Nat.le_of_ble_eq_true rfl)) dL_law_555 ⟨by show _ ≤ 600002; omega, by show _ ≤ 7302232; omega⟩) hS hD2 hA hP1 hAp.symm (fun r2 T2 H locs hm hP2 hD2 hP1 hAp hS => ?_)
  have hAp := hAp.symm
  obtain ⟨hC2, hM2, ⟨hR2, hY2⟩, he2, ho2⟩ := s_write hC hM hR hY hw hm
  refine lv_istore (lv' := [(6, .int r2), (5, .int k9), (4, .int (nI i5)), (3, .ref o), (2, .ref mo), (1, .ref x), (0, .ref b)]) hx hb dL_law_558 hl (by decide) rfl (fun ls hl => ?_)
  refine lv_aload_n hx hb dL_law_560 rfl (lv_at hl 4 rfl) ?_
  refine vp_callSi (va_Run.run (va_runV (As := []) (rest := []) ⟨hx, hb, hml, hown, hts⟩ (c_X7_thrown l dC dI cy G2 T2 H.size mo ad hM2.1) (cwV 0 hts gL_law_X7_thrown rfl rfl rfl (by decide +kernel) ⟨Nat.le_of_ble_eq_true rfl, Nat.le_of_ble_eq_true rfl⟩) (zpreV hK hP2 hD2 hN (zrecv7 hK hP2 hM2.1.1)) rfl rfl hl.1 rfl (lv_room (Nat.le_of_ble_eq_true rfl)) dL_law_561 ⟨by show _ ≤ 600002; omega, by show _ ≤ 7302232; omega⟩)) (fun r9 hr9 => ?_)
  refine lv_iload hx hb dL_law_564 (lv_at hl 1 rfl) ?_
  refine lv_icmp_eq (tgt := 571) hx hb dL_law_566 (by decide) (fun c7 => ?_) (fun c7 => ?_)
  · skip
    refine lv_iload hx hb dL_law_571 (lv_at hl 1 rfl) ?_
    refine lv_if_ne (tgt := 588) hx hb dL_law_573 (by decide) (fun c8 => ?_) (fun c8 => ?_)
    · skip
      refine lv_goto (tgt := 1115) hx hb dL_law_588 (by decide) ?_
      refine W.widen (k := cells + 3) (n := slots + 25) (by omega) (by omega) ?_
      exact kk _ _ _ _ _ _ ⟨⟨hP1, hD1, hP2, hD2, hAp⟩, hS, hC2, hM2, hR2, hY2⟩ (lv_sub hl [2, 3, 4, 5, 6] rfl)
    · skip
      refine lv_aload_n hx hb dL_law_576 rfl (lv_at hl 3 rfl) ?_
      refine lv_iconst (v := 0) hx hb dL_law_577 (by decide) ?_
      have hP := hP1
      refine zlald hx hb hK hP hC2.2.1.1 hC2.2.1.2 (by unfold vp_in; decide) dL_law_578 ?_
      refine lv_topl (fun v9 ev9 => ?_)
      refine lv_iload hx hb dL_law_579 (lv_at hl 0 rfl) ?_
      refine lv_i2l hx hb dL_law_581 rfl ?_
      refine lv_topl (fun v10 ev10 => ?_)
      refine W.lcmp hx hb dL_law_582 ?_
      refine lv_topi (fun v11 ev11 => ?_)
      refine lv_if_eq (tgt := 588) hx hb dL_law_583 (by decide) (fun c12 => ?_) (fun c12 => ?_)
      · skip
        refine lv_goto (tgt := 1115) hx hb dL_law_588 (by decide) ?_
        refine W.widen (k := cells + 3) (n := slots + 25) (by omega) (by omega) ?_
        exact kk _ _ _ _ _ _ ⟨⟨hP1, hD1, hP2, hD2, hAp⟩, hS, hC2, hM2, hR2, hY2⟩ (lv_sub hl [2, 3, 4, 5, 6] rfl)
      · skip
        exact absurd (ev11.trans (zcmp0 (ev9.trans ((ho2 c8).trans ev10.symm)))) c12
  · skip
    exact absurd (hr9.trans he2) c7
set_option maxHeartbeats 4000000 in
set_option maxRecDepth 100000 in
theorem q_disturb {p : Program} {l : Launch} {e : Env} {s : State} {m : MethodId} {args : Array Value} {below : List Frame} {meth : Method} {c : Code} {H : Heap} {locs : List Loc} {cells slots : Nat} {Q : State → Prop} {ls : Array Slot} {dC : Nat → ClassId} {dI : Nat → Nat → Nat} {cy : Nat → ClassId} {A : Nat → Prop} {b L : Nat} {xs : Nat → Int32} {x f n sc ia na d ka va o mo : Nat} {ad : Nat → Nat} {G1 G2 : zG} {S1 S2 : zS} {i5 : Nat} {a1 a2 a3 a4 : Int32} (C : zLc p l s m args c dC dI cy A b L xs) (hi5 : i5 + 5 ≤ L) (ha1 : xs (nI (i5 + 1)).toNatClampNeg = a1) (ha2 : xs (nI (i5 + 2)).toNatClampNeg = a2) (ha3 : xs (nI (i5 + 3)).toNatClampNeg = a3) (ha4 : xs (nI (i5 + 4)).toNatClampNeg = a4) (hce : cells + 3 ≤ 600002) (hse : slots + 25 ≤ 7302232) (h : zLw dC dI cy s A x f n sc ia na d ka va o mo ad G1 S1 G2 S2 H locs) (hF : zF0 x f n sc d mo ad S1 S2)
    (hl : lv_has ls 7 [(4, .int (nI i5)), (3, .ref o), (2, .ref mo), (1, .ref x), (0, .ref b)]) (kk : ∀ (G1' : zG) (S1' S2' : zS) (H' : Heap) (locs' : List Loc) (ls' : Array Slot), zLw dC dI cy s A x f n sc ia na d ka va o mo ad G1' S1' G2 S2' H' locs' → lv_has ls' 7 [(4, .int (nI i5)), (3, .ref o), (2, .ref mo), (1, .ref x), (0, .ref b)] → W p l e room_1 s m args below meth c H' locs' (cells + 3) (slots + 25) Q (F0 m 1115 ls' [])) : W p l e room_1 s m args below meth c H locs cells slots Q (F0 m 591 ls []) := by
  obtain ⟨⟨hx, hb, hml, hown, hts⟩, ⟨hX, hbl, hbA, hL⟩, hA, hK, hN, hE, hNc, hlt⟩ := C
  obtain ⟨⟨hP1, hD1, hP2, hD2, hAp⟩, hS, hC, hM, hR, hY⟩ := h
  refine lv_aload_n hx hb dL_law_591 rfl (lv_at hl 3 rfl) ?_
  refine lv_aload_n hx hb dL_law_592 rfl (lv_at hl 4 rfl) ?_
  refine lv_iload hx hb dL_law_593 (lv_at hl 0 rfl) ?_
  refine lv_iconst (v := 1) hx hb dL_law_595 (by decide) ?_
  refine lv_iadd hx hb dL_law_596 ?_
  refine lv_topi (fun v1 ev1 => ?_)
  obtain rfl : v1 = nI (i5 + 1) := ev1.trans (nI_add i5 1)
  refine va_sld hx hb hX hbl hbA hS (vp_in_nI (by omega) (by omega)) dL_law_597 ?_
  rw [ha1]
  refine lv_aload_n hx hb dL_law_598 rfl (lv_at hl 4 rfl) ?_
  refine lv_iload hx hb dL_law_599 (lv_at hl 0 rfl) ?_
  refine lv_iconst (v := 2) hx hb dL_law_601 (by decide) ?_
  refine lv_iadd hx hb dL_law_602 ?_
  refine lv_topi (fun v2 ev2 => ?_)
  obtain rfl : v2 = nI (i5 + 2) := ev2.trans (nI_add i5 2)
  refine va_sld hx hb hX hbl hbA hS (vp_in_nI (by omega) (by omega)) dL_law_603 ?_
  rw [ha2]
  refine zc2i (vx_runSW (As := [.ref x, .int a1, .int a2]) (rest := []) ⟨hx, hb, hml, hown, hts⟩ (w_L_disturb l hlt dC dI cy G1 S1 H.size x f n sc ia na d ka va a1 a2 hC.1) (vx_cwSW 3 hts gL_law_L_disturb rfl rfl rfl (by decide +kernel) ⟨Nat.le_of_ble_eq_true rfl, Nat.le_of_ble_eq_true rfl⟩) (zpreSy hK hP1 hD1 hN hE hS hA hNc) rfl rfl hl.1 rfl (lv_room (Nat.le_of_ble_eq_true rfl)) dL_law_604 ⟨by show _ ≤ 600002; omega, by show _ ≤ 7302232; omega⟩) hS hD1 hA hP2 hAp (fun k9 T1 H locs hw hP1 hD1 hP2 hAp hS => ?_)
  refine lv_istore (lv' := [(5, .int k9), (4, .int (nI i5)), (3, .ref o), (2, .ref mo), (1, .ref x), (0, .ref b)]) hx hb dL_law_607 hl (by decide) rfl (fun ls hl => ?_)
  refine lv_aload_n hx hb dL_law_609 rfl (lv_at hl 3 rfl) ?_
  refine lv_aload_n hx hb dL_law_610 rfl (lv_at hl 5 rfl) ?_
  refine lv_iload hx hb dL_law_611 (lv_at hl 1 rfl) ?_
  refine lv_iconst (v := 1) hx hb dL_law_613 (by decide) ?_
  refine lv_iadd hx hb dL_law_614 ?_
  refine lv_topi (fun v3 ev3 => ?_)
  obtain rfl : v3 = nI (i5 + 1) := ev3.trans (nI_add i5 1)
  refine va_sld hx hb hX hbl hbA hS (vp_in_nI (by omega) (by omega)) dL_law_615 ?_
  rw [ha1]
  refine lv_aload_n hx hb dL_law_616 rfl (lv_at hl 5 rfl) ?_
  refine lv_iload hx hb dL_law_617 (lv_at hl 1 rfl) ?_
  refine lv_iconst (v := 2) hx hb dL_law_619 (by decide) ?_
  refine lv_iadd hx hb dL_law_620 ?_
  refine lv_topi (fun v4 ev4 => ?_)
  obtain rfl : v4 = nI (i5 + 2) := ev4.trans (nI_add i5 2)
  refine va_sld hx hb hX hbl hbA hS (vp_in_nI (by omega) (by omega)) dL_law_621 ?_
  rw [ha2]
  refine zc2v (va_runV (As := [.int a1, .int a2]) (rest := []) ⟨hx, hb, hml, hown, hts⟩ (c_X7_disturb l dC dI cy G2 S2 H.size mo ad a1 a2 hM.1 hM.2.1) (cwV 2 hts gL_law_X7_disturb rfl rfl rfl (by decide +kernel) ⟨Nat.le_of_ble_eq_true rfl, Nat.le_of_ble_eq_true rfl⟩) (zpreV hK hP2 hD2 hN (zrecv7 hK hP2 hM.1.1)) rfl rfl hl.1 rfl (lv_room (Nat.le_of_ble_eq_true rfl)) dL_law_622 ⟨by show _ ≤ 600002; omega, by show _ ≤ 7302232; omega⟩) hS hD2 hA hP1 hAp.symm (fun T2 H locs hm hP2 hD2 hP1 hAp hS => ?_)
  have hAp := hAp.symm
  obtain ⟨hC2, hv2⟩ := k_disturb (b := a1) (v := a2) hC hw
  obtain ⟨hM2, hu2⟩ := m_disturb hM hm
  have hR2 := hR.vw hv2 hu2
  have hY2 := hY.vy (v_disturb (b := a1) (v := a2) hC hw) (hm.1.1.2.1 4 (by decide) (by decide)) (hm.1.1.2.1 5 (by decide) (by decide)) (hm.1.1.2.1 6 (by decide) (by decide))
  have he2 := f_disturb (b := a1) (v := a2) hF hw hm
  refine lv_aload_n hx hb dL_law_625 rfl (lv_at hl 3 rfl) ?_
  refine vp_callSi (va_Run.run (va_runV (As := []) (rest := []) ⟨hx, hb, hml, hown, hts⟩ (c_X7_thrown l dC dI cy G2 T2 H.size mo ad hM2.1) (cwV 0 hts gL_law_X7_thrown rfl rfl rfl (by decide +kernel) ⟨Nat.le_of_ble_eq_true rfl, Nat.le_of_ble_eq_true rfl⟩) (zpreV hK hP2 hD2 hN (zrecv7 hK hP2 hM2.1.1)) rfl rfl hl.1 rfl (lv_room (Nat.le_of_ble_eq_true rfl)) dL_law_626 ⟨by show _ ≤ 600002; omega, by show _ ≤ 7302232; omega⟩)) (fun r9 hr9 => ?_)
  refine lv_iload hx hb dL_law_629 (lv_at hl 0 rfl) ?_
  refine lv_icmp_eq (tgt := 636) hx hb dL_law_631 (by decide) (fun c5 => ?_) (fun c5 => ?_)
  · skip
    refine lv_goto (tgt := 1115) hx hb dL_law_636 (by decide) ?_
    refine W.widen (k := cells + 3) (n := slots + 25) (by omega) (by omega) ?_
    exact kk _ _ _ _ _ _ ⟨⟨hP1, hD1, hP2, hD2, hAp⟩, hS, hC2, hM2, hR2, hY2⟩ (lv_sub hl [1, 2, 3, 4, 5] rfl)
  · skip
    exact absurd (hr9.trans he2) c5
set_option maxHeartbeats 4000000 in
set_option maxRecDepth 100000 in
theorem q_wake {p : Program} {l : Launch} {e : Env} {s : State} {m : MethodId} {args : Array Value} {below : List Frame} {meth : Method} {c : Code} {H : Heap} {locs : List Loc} {cells slots : Nat} {Q : State → Prop} {ls : Array Slot} {dC : Nat → ClassId} {dI : Nat → Nat → Nat} {cy : Nat → ClassId} {A : Nat → Prop} {b L : Nat} {xs : Nat → Int32} {x f n sc ia na d ka va o mo : Nat} {ad : Nat → Nat} {G1 G2 : zG} {S1 S2 : zS} {i5 : Nat} {a1 a2 a3 a4 : Int32} (C : zLc p l s m args c dC dI cy A b L xs) (hi5 : i5 + 5 ≤ L) (ha1 : xs (nI (i5 + 1)).toNatClampNeg = a1) (ha2 : xs (nI (i5 + 2)).toNatClampNeg = a2) (ha3 : xs (nI (i5 + 3)).toNatClampNeg = a3) (ha4 : xs (nI (i5 + 4)).toNatClampNeg = a4) (hce : cells + 3 ≤ 600002) (hse : slots + 25 ≤ 7302232) (h : zLw dC dI cy s A x f n sc ia na d ka va o mo ad G1 S1 G2 S2 H locs) (hF : zF0 x f n sc d mo ad S1 S2)
    (hl : lv_has ls 7 [(4, .int (nI i5)), (3, .ref o), (2, .ref mo), (1, .ref x), (0, .ref b)]) (kk : ∀ (G1' : zG) (S1' S2' : zS) (H' : Heap) (locs' : List Loc) (ls' : Array Slot), zLw dC dI cy s A x f n sc ia na d ka va o mo ad G1' S1' G2 S2' H' locs' → lv_has ls' 7 [(4, .int (nI i5)), (3, .ref o), (2, .ref mo), (1, .ref x), (0, .ref b)] → W p l e room_1 s m args below meth c H' locs' (cells + 3) (slots + 25) Q (F0 m 1115 ls' [])) : W p l e room_1 s m args below meth c H locs cells slots Q (F0 m 639 ls []) := by
  obtain ⟨⟨hx, hb, hml, hown, hts⟩, ⟨hX, hbl, hbA, hL⟩, hA, hK, hN, hE, hNc, hlt⟩ := C
  obtain ⟨⟨hP1, hD1, hP2, hD2, hAp⟩, hS, hC, hM, hR, hY⟩ := h
  refine lv_aload_n hx hb dL_law_639 rfl (lv_at hl 3 rfl) ?_
  refine lv_aload_n hx hb dL_law_640 rfl (lv_at hl 4 rfl) ?_
  refine lv_iload hx hb dL_law_641 (lv_at hl 0 rfl) ?_
  refine lv_iconst (v := 1) hx hb dL_law_643 (by decide) ?_
  refine lv_iadd hx hb dL_law_644 ?_
  refine lv_topi (fun v1 ev1 => ?_)
  obtain rfl : v1 = nI (i5 + 1) := ev1.trans (nI_add i5 1)
  refine va_sld hx hb hX hbl hbA hS (vp_in_nI (by omega) (by omega)) dL_law_645 ?_
  rw [ha1]
  refine zc2i (vx_runSW (As := [.ref x, .int a1]) (rest := []) ⟨hx, hb, hml, hown, hts⟩ (w_L_wake l hlt dC dI cy G1 S1 H.size x f n sc ia na d ka va a1 hC.1) (vx_cwSW 2 hts gL_law_L_wake rfl rfl rfl (by decide +kernel) ⟨Nat.le_of_ble_eq_true rfl, Nat.le_of_ble_eq_true rfl⟩) (zpreSy hK hP1 hD1 hN hE hS hA hNc) rfl rfl hl.1 rfl (lv_room (Nat.le_of_ble_eq_true rfl)) dL_law_646 ⟨by show _ ≤ 600002; omega, by show _ ≤ 7302232; omega⟩) hS hD1 hA hP2 hAp (fun k9 T1 H locs hw hP1 hD1 hP2 hAp hS => ?_)
  refine lv_istore (lv' := [(5, .int k9), (4, .int (nI i5)), (3, .ref o), (2, .ref mo), (1, .ref x), (0, .ref b)]) hx hb dL_law_649 hl (by decide) rfl (fun ls hl => ?_)
  refine lv_aload_n hx hb dL_law_651 rfl (lv_at hl 3 rfl) ?_
  refine lv_aload_n hx hb dL_law_652 rfl (lv_at hl 5 rfl) ?_
  refine lv_iload hx hb dL_law_653 (lv_at hl 1 rfl) ?_
  refine lv_iconst (v := 1) hx hb dL_law_655 (by decide) ?_
  refine lv_iadd hx hb dL_law_656 ?_
  refine lv_topi (fun v2 ev2 => ?_)
  obtain rfl : v2 = nI (i5 + 1) := ev2.trans (nI_add i5 1)
  refine va_sld hx hb hX hbl hbA hS (vp_in_nI (by omega) (by omega)) dL_law_657 ?_
  rw [ha1]
  refine zc2v (va_runV (As := [.int a1]) (rest := []) ⟨hx, hb, hml, hown, hts⟩ (c_X7_wake l dC dI cy G2 S2 H.size mo ad a1 hM.1 hM.2.1) (cwV 1 hts gL_law_X7_wake rfl rfl rfl (by decide +kernel) ⟨Nat.le_of_ble_eq_true rfl, Nat.le_of_ble_eq_true rfl⟩) (zpreV hK hP2 hD2 hN (zrecv7 hK hP2 hM.1.1)) rfl rfl hl.1 rfl (lv_room (Nat.le_of_ble_eq_true rfl)) dL_law_658 ⟨by show _ ≤ 600002; omega, by show _ ≤ 7302232; omega⟩) hS hD2 hA hP1 hAp.symm (fun T2 H locs hm hP2 hD2 hP1 hAp hS => ?_)
  have hAp := hAp.symm
  obtain ⟨hC2, hM2, hR2, he2⟩ := s_wake hC hM hR hw hm
  have hY2 := hY.vy (v_wake (v := a1) hC hw) (hm.1.1.2.1 4 (by decide) (by decide)) (hm.1.1.2.1 5 (by decide) (by decide)) (hm.1.1.2.1 6 (by decide) (by decide))
  refine lv_aload_n hx hb dL_law_661 rfl (lv_at hl 3 rfl) ?_
  refine vp_callSi (va_Run.run (va_runV (As := []) (rest := []) ⟨hx, hb, hml, hown, hts⟩ (c_X7_thrown l dC dI cy G2 T2 H.size mo ad hM2.1) (cwV 0 hts gL_law_X7_thrown rfl rfl rfl (by decide +kernel) ⟨Nat.le_of_ble_eq_true rfl, Nat.le_of_ble_eq_true rfl⟩) (zpreV hK hP2 hD2 hN (zrecv7 hK hP2 hM2.1.1)) rfl rfl hl.1 rfl (lv_room (Nat.le_of_ble_eq_true rfl)) dL_law_662 ⟨by show _ ≤ 600002; omega, by show _ ≤ 7302232; omega⟩)) (fun r9 hr9 => ?_)
  refine lv_iload hx hb dL_law_665 (lv_at hl 0 rfl) ?_
  refine lv_icmp_eq (tgt := 672) hx hb dL_law_667 (by decide) (fun c3 => ?_) (fun c3 => ?_)
  · skip
    refine lv_goto (tgt := 1115) hx hb dL_law_672 (by decide) ?_
    refine W.widen (k := cells + 3) (n := slots + 25) (by omega) (by omega) ?_
    exact kk _ _ _ _ _ _ ⟨⟨hP1, hD1, hP2, hD2, hAp⟩, hS, hC2, hM2, hR2, hY2⟩ (lv_sub hl [1, 2, 3, 4, 5] rfl)
  · skip
    exact absurd (hr9.trans he2) c3
set_option maxHeartbeats 4000000 in
set_option maxRecDepth 100000 in
theorem q_run {p : Program} {l : Launch} {e : Env} {s : State} {m : MethodId} {args : Array Value} {below : List Frame} {meth : Method} {c : Code} {H : Heap} {locs : List Loc} {cells slots : Nat} {Q : State → Prop} {ls : Array Slot} {dC : Nat → ClassId} {dI : Nat → Nat → Nat} {cy : Nat → ClassId} {A : Nat → Prop} {b L : Nat} {xs : Nat → Int32} {x f n sc ia na d ka va o mo : Nat} {ad : Nat → Nat} {G1 G2 : zG} {S1 S2 : zS} {i5 : Nat} {a1 a2 a3 a4 : Int32} (C : zLc p l s m args c dC dI cy A b L xs) (hi5 : i5 + 5 ≤ L) (ha1 : xs (nI (i5 + 1)).toNatClampNeg = a1) (ha2 : xs (nI (i5 + 2)).toNatClampNeg = a2) (ha3 : xs (nI (i5 + 3)).toNatClampNeg = a3) (ha4 : xs (nI (i5 + 4)).toNatClampNeg = a4) (hce : cells + 3 ≤ 600002) (hse : slots + 25 ≤ 7302232) (h : zLw dC dI cy s A x f n sc ia na d ka va o mo ad G1 S1 G2 S2 H locs) (hF : zF0 x f n sc d mo ad S1 S2)
    (hl : lv_has ls 7 [(4, .int (nI i5)), (3, .ref o), (2, .ref mo), (1, .ref x), (0, .ref b)]) (kk : ∀ (G1' : zG) (S1' S2' : zS) (H' : Heap) (locs' : List Loc) (ls' : Array Slot), zLw dC dI cy s A x f n sc ia na d ka va o mo ad G1' S1' G2 S2' H' locs' → lv_has ls' 7 [(4, .int (nI i5)), (3, .ref o), (2, .ref mo), (1, .ref x), (0, .ref b)] → W p l e room_1 s m args below meth c H' locs' (cells + 3) (slots + 25) Q (F0 m 1115 ls' [])) : W p l e room_1 s m args below meth c H locs cells slots Q (F0 m 675 ls []) := by
  obtain ⟨⟨hx, hb, hml, hown, hts⟩, ⟨hX, hbl, hbA, hL⟩, hA, hK, hN, hE, hNc, hlt⟩ := C
  obtain ⟨⟨hP1, hD1, hP2, hD2, hAp⟩, hS, hC, hM, hR, hY⟩ := h
  refine lv_aload_n hx hb dL_law_675 rfl (lv_at hl 3 rfl) ?_
  refine lv_aload_n hx hb dL_law_676 rfl (lv_at hl 4 rfl) ?_
  refine lv_iload hx hb dL_law_677 (lv_at hl 0 rfl) ?_
  refine lv_iconst (v := 1) hx hb dL_law_679 (by decide) ?_
  refine lv_iadd hx hb dL_law_680 ?_
  refine lv_topi (fun v1 ev1 => ?_)
  obtain rfl : v1 = nI (i5 + 1) := ev1.trans (nI_add i5 1)
  refine va_sld hx hb hX hbl hbA hS (vp_in_nI (by omega) (by omega)) dL_law_681 ?_
  rw [ha1]
  refine lv_aload_n hx hb dL_law_682 rfl (lv_at hl 1 rfl) ?_
  refine zc2i (vx_runSW (As := [.ref x, .int a1, .ref o]) (rest := []) ⟨hx, hb, hml, hown, hts⟩ (w_L_run l hlt dC dI cy G1 S1 H.size x f n sc ia na d ka va a1 o hC.1 hC.2.1.1 hC.2.1.2) (vx_cwSW 3 hts gL_law_L_run rfl rfl rfl (by decide +kernel) ⟨Nat.le_of_ble_eq_true rfl, Nat.le_of_ble_eq_true rfl⟩) (zpreSy hK hP1 hD1 hN hE hS hA hNc) rfl rfl hl.1 rfl (lv_room (Nat.le_of_ble_eq_true rfl)) dL_law_683 ⟨by show _ ≤ 600002; omega, by show _ ≤ 7302232; omega⟩) hS hD1 hA hP2 hAp (fun k9 T1 H locs hw hP1 hD1 hP2 hAp hS => ?_)
  refine lv_istore (lv' := [(5, .int k9), (4, .int (nI i5)), (3, .ref o), (2, .ref mo), (1, .ref x), (0, .ref b)]) hx hb dL_law_686 hl (by decide) rfl (fun ls hl => ?_)
  refine lv_aload_n hx hb dL_law_688 rfl (lv_at hl 3 rfl) ?_
  refine lv_aload_n hx hb dL_law_689 rfl (lv_at hl 5 rfl) ?_
  refine lv_iload hx hb dL_law_690 (lv_at hl 1 rfl) ?_
  refine lv_iconst (v := 1) hx hb dL_law_692 (by decide) ?_
  refine lv_iadd hx hb dL_law_693 ?_
  refine lv_topi (fun v2 ev2 => ?_)
  obtain rfl : v2 = nI (i5 + 1) := ev2.trans (nI_add i5 1)
  refine va_sld hx hb hX hbl hbA hS (vp_in_nI (by omega) (by omega)) dL_law_694 ?_
  rw [ha1]
  refine zc2i (va_runV (As := [.int a1]) (rest := []) ⟨hx, hb, hml, hown, hts⟩ (c_X7_run l dC dI cy G2 S2 H.size mo ad a1 hM.1 hM.2.1) (cwV 1 hts gL_law_X7_run rfl rfl rfl (by decide +kernel) ⟨Nat.le_of_ble_eq_true rfl, Nat.le_of_ble_eq_true rfl⟩) (zpreV hK hP2 hD2 hN (zrecv7 hK hP2 hM.1.1)) rfl rfl hl.1 rfl (lv_room (Nat.le_of_ble_eq_true rfl)) dL_law_695 ⟨by show _ ≤ 600002; omega, by show _ ≤ 7302232; omega⟩) hS hD2 hA hP1 hAp.symm (fun r2 T2 H locs hm hP2 hD2 hP1 hAp hS => ?_)
  have hAp := hAp.symm
  obtain ⟨hC2, hM2, hR2, he2, ho2⟩ := s_run hC hM hR hw hm
  have hY2 := hY.vy (v_run (v := a1) hC hw) (hm.1.1.2.1 4 (by decide) (by decide)) (hm.1.1.2.1 5 (by decide) (by decide)) (hm.1.1.2.1 6 (by decide) (by decide))
  refine lv_istore (lv' := [(6, .int r2), (5, .int k9), (4, .int (nI i5)), (3, .ref o), (2, .ref mo), (1, .ref x), (0, .ref b)]) hx hb dL_law_698 hl (by decide) rfl (fun ls hl => ?_)
  refine lv_aload_n hx hb dL_law_700 rfl (lv_at hl 4 rfl) ?_
  refine vp_callSi (va_Run.run (va_runV (As := []) (rest := []) ⟨hx, hb, hml, hown, hts⟩ (c_X7_thrown l dC dI cy G2 T2 H.size mo ad hM2.1) (cwV 0 hts gL_law_X7_thrown rfl rfl rfl (by decide +kernel) ⟨Nat.le_of_ble_eq_true rfl, Nat.le_of_ble_eq_true rfl⟩) (zpreV hK hP2 hD2 hN (zrecv7 hK hP2 hM2.1.1)) rfl rfl hl.1 rfl (lv_room (Nat.le_of_ble_eq_true rfl)) dL_law_701 ⟨by show _ ≤ 600002; omega, by show _ ≤ 7302232; omega⟩)) (fun r9 hr9 => ?_)
  refine lv_iload hx hb dL_law_704 (lv_at hl 1 rfl) ?_
  refine lv_icmp_eq (tgt := 711) hx hb dL_law_706 (by decide) (fun c3 => ?_) (fun c3 => ?_)
  · skip
    refine lv_iload hx hb dL_law_711 (lv_at hl 1 rfl) ?_
    refine lv_if_ne (tgt := 728) hx hb dL_law_713 (by decide) (fun c4 => ?_) (fun c4 => ?_)
    · skip
      refine lv_goto (tgt := 1115) hx hb dL_law_728 (by decide) ?_
      refine W.widen (k := cells + 3) (n := slots + 25) (by omega) (by omega) ?_
      exact kk _ _ _ _ _ _ ⟨⟨hP1, hD1, hP2, hD2, hAp⟩, hS, hC2, hM2, hR2, hY2⟩ (lv_sub hl [2, 3, 4, 5, 6] rfl)
    · skip
      refine lv_aload_n hx hb dL_law_716 rfl (lv_at hl 3 rfl) ?_
      refine lv_iconst (v := 0) hx hb dL_law_717 (by decide) ?_
      have hP := hP1
      refine zlald hx hb hK hP hC2.2.1.1 hC2.2.1.2 (by unfold vp_in; decide) dL_law_718 ?_
      refine lv_topl (fun v5 ev5 => ?_)
      refine lv_iload hx hb dL_law_719 (lv_at hl 0 rfl) ?_
      refine lv_i2l hx hb dL_law_721 rfl ?_
      refine lv_topl (fun v6 ev6 => ?_)
      refine W.lcmp hx hb dL_law_722 ?_
      refine lv_topi (fun v7 ev7 => ?_)
      refine lv_if_eq (tgt := 728) hx hb dL_law_723 (by decide) (fun c8 => ?_) (fun c8 => ?_)
      · skip
        refine lv_goto (tgt := 1115) hx hb dL_law_728 (by decide) ?_
        refine W.widen (k := cells + 3) (n := slots + 25) (by omega) (by omega) ?_
        exact kk _ _ _ _ _ _ ⟨⟨hP1, hD1, hP2, hD2, hAp⟩, hS, hC2, hM2, hR2, hY2⟩ (lv_sub hl [2, 3, 4, 5, 6] rfl)
      · skip
        exact absurd (ev7.trans (zcmp0 (ev5.trans ((ho2 c4).trans ev6.symm)))) c8
  · skip
    exact absurd (hr9.trans he2) c3
set_option maxHeartbeats 4000000 in
set_option maxRecDepth 100000 in
theorem q_byteAt {p : Program} {l : Launch} {e : Env} {s : State} {m : MethodId} {args : Array Value} {below : List Frame} {meth : Method} {c : Code} {H : Heap} {locs : List Loc} {cells slots : Nat} {Q : State → Prop} {ls : Array Slot} {dC : Nat → ClassId} {dI : Nat → Nat → Nat} {cy : Nat → ClassId} {A : Nat → Prop} {b L : Nat} {xs : Nat → Int32} {x f n sc ia na d ka va o mo : Nat} {ad : Nat → Nat} {G1 G2 : zG} {S1 S2 : zS} {i5 : Nat} {a1 a2 a3 a4 : Int32} (C : zLc p l s m args c dC dI cy A b L xs) (hi5 : i5 + 5 ≤ L) (ha1 : xs (nI (i5 + 1)).toNatClampNeg = a1) (ha2 : xs (nI (i5 + 2)).toNatClampNeg = a2) (ha3 : xs (nI (i5 + 3)).toNatClampNeg = a3) (ha4 : xs (nI (i5 + 4)).toNatClampNeg = a4) (hce : cells + 3 ≤ 600002) (hse : slots + 25 ≤ 7302232) (h : zLw dC dI cy s A x f n sc ia na d ka va o mo ad G1 S1 G2 S2 H locs) (hF : zF0 x f n sc d mo ad S1 S2)
    (hl : lv_has ls 7 [(4, .int (nI i5)), (3, .ref o), (2, .ref mo), (1, .ref x), (0, .ref b)]) (kk : ∀ (G1' : zG) (S1' S2' : zS) (H' : Heap) (locs' : List Loc) (ls' : Array Slot), zLw dC dI cy s A x f n sc ia na d ka va o mo ad G1' S1' G2 S2' H' locs' → lv_has ls' 7 [(4, .int (nI i5)), (3, .ref o), (2, .ref mo), (1, .ref x), (0, .ref b)] → W p l e room_1 s m args below meth c H' locs' (cells + 3) (slots + 25) Q (F0 m 1115 ls' [])) : W p l e room_1 s m args below meth c H locs cells slots Q (F0 m 731 ls []) := by
  obtain ⟨⟨hx, hb, hml, hown, hts⟩, ⟨hX, hbl, hbA, hL⟩, hA, hK, hN, hE, hNc, hlt⟩ := C
  obtain ⟨⟨hP1, hD1, hP2, hD2, hAp⟩, hS, hC, hM, hR, hY⟩ := h
  refine lv_aload_n hx hb dL_law_731 rfl (lv_at hl 3 rfl) ?_
  refine lv_aload_n hx hb dL_law_732 rfl (lv_at hl 4 rfl) ?_
  refine lv_iload hx hb dL_law_733 (lv_at hl 0 rfl) ?_
  refine lv_iconst (v := 1) hx hb dL_law_735 (by decide) ?_
  refine lv_iadd hx hb dL_law_736 ?_
  refine lv_topi (fun v1 ev1 => ?_)
  obtain rfl : v1 = nI (i5 + 1) := ev1.trans (nI_add i5 1)
  refine va_sld hx hb hX hbl hbA hS (vp_in_nI (by omega) (by omega)) dL_law_737 ?_
  rw [ha1]
  refine lv_aload_n hx hb dL_law_738 rfl (lv_at hl 4 rfl) ?_
  refine lv_iload hx hb dL_law_739 (lv_at hl 0 rfl) ?_
  refine lv_iconst (v := 2) hx hb dL_law_741 (by decide) ?_
  refine lv_iadd hx hb dL_law_742 ?_
  refine lv_topi (fun v2 ev2 => ?_)
  obtain rfl : v2 = nI (i5 + 2) := ev2.trans (nI_add i5 2)
  refine va_sld hx hb hX hbl hbA hS (vp_in_nI (by omega) (by omega)) dL_law_743 ?_
  rw [ha2]
  refine lv_aload_n hx hb dL_law_744 rfl (lv_at hl 4 rfl) ?_
  refine lv_iload hx hb dL_law_745 (lv_at hl 0 rfl) ?_
  refine lv_iconst (v := 3) hx hb dL_law_747 (by decide) ?_
  refine lv_iadd hx hb dL_law_748 ?_
  refine lv_topi (fun v3 ev3 => ?_)
  obtain rfl : v3 = nI (i5 + 3) := ev3.trans (nI_add i5 3)
  refine va_sld hx hb hX hbl hbA hS (vp_in_nI (by omega) (by omega)) dL_law_749 ?_
  rw [ha3]
  refine lv_aload_n hx hb dL_law_750 rfl (lv_at hl 1 rfl) ?_
  refine zc2i (vx_runSW (As := [.ref x, .int a1, .int a2, .int a3, .ref o]) (rest := []) ⟨hx, hb, hml, hown, hts⟩ (w_L_byteAt l hlt dC dI cy G1 S1 H.size x f n sc ia na d ka va a1 a2 a3 o hC.1 hC.2.1.1 hC.2.1.2) (vx_cwSW 5 hts gL_law_L_byteAt rfl rfl rfl (by decide +kernel) ⟨Nat.le_of_ble_eq_true rfl, Nat.le_of_ble_eq_true rfl⟩) (zpreSy hK hP1 hD1 hN hE hS hA hNc) rfl rfl hl.1 rfl (lv_room (Nat.le_of_ble_eq_true rfl)) dL_law_751 ⟨by show _ ≤ 600002; omega, by show _ ≤ 7302232; omega⟩) hS hD1 hA hP2 hAp (fun k9 T1 H locs hw hP1 hD1 hP2 hAp hS => ?_)
  refine lv_istore (lv' := [(5, .int k9), (4, .int (nI i5)), (3, .ref o), (2, .ref mo), (1, .ref x), (0, .ref b)]) hx hb dL_law_754 hl (by decide) rfl (fun ls hl => ?_)
  refine lv_aload_n hx hb dL_law_756 rfl (lv_at hl 3 rfl) ?_
  refine lv_aload_n hx hb dL_law_757 rfl (lv_at hl 5 rfl) ?_
  refine lv_iload hx hb dL_law_758 (lv_at hl 1 rfl) ?_
  refine lv_iconst (v := 1) hx hb dL_law_760 (by decide) ?_
  refine lv_iadd hx hb dL_law_761 ?_
  refine lv_topi (fun v4 ev4 => ?_)
  obtain rfl : v4 = nI (i5 + 1) := ev4.trans (nI_add i5 1)
  refine va_sld hx hb hX hbl hbA hS (vp_in_nI (by omega) (by omega)) dL_law_762 ?_
  rw [ha1]
  refine lv_aload_n hx hb dL_law_763 rfl (lv_at hl 5 rfl) ?_
  refine lv_iload hx hb dL_law_764 (lv_at hl 1 rfl) ?_
  refine lv_iconst (v := 2) hx hb dL_law_766 (by decide) ?_
  refine lv_iadd hx hb dL_law_767 ?_
  refine lv_topi (fun v5 ev5 => ?_)
  obtain rfl : v5 = nI (i5 + 2) := ev5.trans (nI_add i5 2)
  refine va_sld hx hb hX hbl hbA hS (vp_in_nI (by omega) (by omega)) dL_law_768 ?_
  rw [ha2]
  refine lv_aload_n hx hb dL_law_769 rfl (lv_at hl 5 rfl) ?_
  refine lv_iload hx hb dL_law_770 (lv_at hl 1 rfl) ?_
  refine lv_iconst (v := 3) hx hb dL_law_772 (by decide) ?_
  refine lv_iadd hx hb dL_law_773 ?_
  refine lv_topi (fun v6 ev6 => ?_)
  obtain rfl : v6 = nI (i5 + 3) := ev6.trans (nI_add i5 3)
  refine va_sld hx hb hX hbl hbA hS (vp_in_nI (by omega) (by omega)) dL_law_774 ?_
  rw [ha3]
  refine zc2i (va_runV (As := [.int a1, .int a2, .int a3]) (rest := []) ⟨hx, hb, hml, hown, hts⟩ (c_X7_byteAt l dC dI cy G2 S2 H.size mo ad a1 a2 a3 hM.1 hM.2.1) (cwV 3 hts gL_law_X7_byteAt rfl rfl rfl (by decide +kernel) ⟨Nat.le_of_ble_eq_true rfl, Nat.le_of_ble_eq_true rfl⟩) (zpreV hK hP2 hD2 hN (zrecv7 hK hP2 hM.1.1)) rfl rfl hl.1 rfl (lv_room (Nat.le_of_ble_eq_true rfl)) dL_law_775 ⟨by show _ ≤ 600002; omega, by show _ ≤ 7302232; omega⟩) hS hD2 hA hP1 hAp.symm (fun r2 T2 H locs hm hP2 hD2 hP1 hAp hS => ?_)
  have hAp := hAp.symm
  obtain ⟨hC2, hv2⟩ := k_byteAt (v := a1) (id := a2) (b := a3) hC hw
  obtain ⟨hM2, hu2⟩ := m_byteAt hM hm
  have hR2 := hR.vw hv2 hu2
  have hY2 := hY.vy (v_byteAt (v := a1) (id := a2) (b := a3) hC hw) (hm.1.1.2.1 4 (by decide) (by decide)) (hm.1.1.2.1 5 (by decide) (by decide)) (hm.1.1.2.1 6 (by decide) (by decide))
  obtain ⟨he2, ho2⟩ := f_byteAt (v := a1) (id := a2) (b := a3) hF hw hm
  refine lv_istore (lv' := [(6, .int r2), (5, .int k9), (4, .int (nI i5)), (3, .ref o), (2, .ref mo), (1, .ref x), (0, .ref b)]) hx hb dL_law_778 hl (by decide) rfl (fun ls hl => ?_)
  refine lv_aload_n hx hb dL_law_780 rfl (lv_at hl 4 rfl) ?_
  refine vp_callSi (va_Run.run (va_runV (As := []) (rest := []) ⟨hx, hb, hml, hown, hts⟩ (c_X7_thrown l dC dI cy G2 T2 H.size mo ad hM2.1) (cwV 0 hts gL_law_X7_thrown rfl rfl rfl (by decide +kernel) ⟨Nat.le_of_ble_eq_true rfl, Nat.le_of_ble_eq_true rfl⟩) (zpreV hK hP2 hD2 hN (zrecv7 hK hP2 hM2.1.1)) rfl rfl hl.1 rfl (lv_room (Nat.le_of_ble_eq_true rfl)) dL_law_781 ⟨by show _ ≤ 600002; omega, by show _ ≤ 7302232; omega⟩)) (fun r9 hr9 => ?_)
  refine lv_iload hx hb dL_law_784 (lv_at hl 1 rfl) ?_
  refine lv_icmp_eq (tgt := 791) hx hb dL_law_786 (by decide) (fun c7 => ?_) (fun c7 => ?_)
  · skip
    refine lv_iload hx hb dL_law_791 (lv_at hl 1 rfl) ?_
    refine lv_if_ne (tgt := 808) hx hb dL_law_793 (by decide) (fun c8 => ?_) (fun c8 => ?_)
    · skip
      refine lv_goto (tgt := 1115) hx hb dL_law_808 (by decide) ?_
      refine W.widen (k := cells + 3) (n := slots + 25) (by omega) (by omega) ?_
      exact kk _ _ _ _ _ _ ⟨⟨hP1, hD1, hP2, hD2, hAp⟩, hS, hC2, hM2, hR2, hY2⟩ (lv_sub hl [2, 3, 4, 5, 6] rfl)
    · skip
      refine lv_aload_n hx hb dL_law_796 rfl (lv_at hl 3 rfl) ?_
      refine lv_iconst (v := 0) hx hb dL_law_797 (by decide) ?_
      have hP := hP1
      refine zlald hx hb hK hP hC2.2.1.1 hC2.2.1.2 (by unfold vp_in; decide) dL_law_798 ?_
      refine lv_topl (fun v9 ev9 => ?_)
      refine lv_iload hx hb dL_law_799 (lv_at hl 0 rfl) ?_
      refine lv_i2l hx hb dL_law_801 rfl ?_
      refine lv_topl (fun v10 ev10 => ?_)
      refine W.lcmp hx hb dL_law_802 ?_
      refine lv_topi (fun v11 ev11 => ?_)
      refine lv_if_eq (tgt := 808) hx hb dL_law_803 (by decide) (fun c12 => ?_) (fun c12 => ?_)
      · skip
        refine lv_goto (tgt := 1115) hx hb dL_law_808 (by decide) ?_
        refine W.widen (k := cells + 3) (n := slots + 25) (by omega) (by omega) ?_
        exact kk _ _ _ _ _ _ ⟨⟨hP1, hD1, hP2, hD2, hAp⟩, hS, hC2, hM2, hR2, hY2⟩ (lv_sub hl [2, 3, 4, 5, 6] rfl)
      · skip
        exact absurd (ev11.trans (zcmp0 (ev9.trans ((ho2 c8).trans ev10.symm)))) c12
  · skip
    exact absurd (hr9.trans he2) c7
set_option maxHeartbeats 4000000 in
set_option maxRecDepth 100000 in
theorem q_taken {p : Program} {l : Launch} {e : Env} {s : State} {m : MethodId} {args : Array Value} {below : List Frame} {meth : Method} {c : Code} {H : Heap} {locs : List Loc} {cells slots : Nat} {Q : State → Prop} {ls : Array Slot} {dC : Nat → ClassId} {dI : Nat → Nat → Nat} {cy : Nat → ClassId} {A : Nat → Prop} {b L : Nat} {xs : Nat → Int32} {x f n sc ia na d ka va o mo : Nat} {ad : Nat → Nat} {G1 G2 : zG} {S1 S2 : zS} {i5 : Nat} {a1 a2 a3 a4 : Int32} (C : zLc p l s m args c dC dI cy A b L xs) (hi5 : i5 + 5 ≤ L) (ha1 : xs (nI (i5 + 1)).toNatClampNeg = a1) (ha2 : xs (nI (i5 + 2)).toNatClampNeg = a2) (ha3 : xs (nI (i5 + 3)).toNatClampNeg = a3) (ha4 : xs (nI (i5 + 4)).toNatClampNeg = a4) (hce : cells + 3 ≤ 600002) (hse : slots + 25 ≤ 7302232) (h : zLw dC dI cy s A x f n sc ia na d ka va o mo ad G1 S1 G2 S2 H locs) (hF : zF0 x f n sc d mo ad S1 S2)
    (hl : lv_has ls 7 [(4, .int (nI i5)), (3, .ref o), (2, .ref mo), (1, .ref x), (0, .ref b)]) (kk : ∀ (G1' : zG) (S1' S2' : zS) (H' : Heap) (locs' : List Loc) (ls' : Array Slot), zLw dC dI cy s A x f n sc ia na d ka va o mo ad G1' S1' G2 S2' H' locs' → lv_has ls' 7 [(4, .int (nI i5)), (3, .ref o), (2, .ref mo), (1, .ref x), (0, .ref b)] → W p l e room_1 s m args below meth c H' locs' (cells + 3) (slots + 25) Q (F0 m 1115 ls' [])) : W p l e room_1 s m args below meth c H locs cells slots Q (F0 m 811 ls []) := by
  obtain ⟨⟨hx, hb, hml, hown, hts⟩, ⟨hX, hbl, hbA, hL⟩, hA, hK, hN, hE, hNc, hlt⟩ := C
  obtain ⟨⟨hP1, hD1, hP2, hD2, hAp⟩, hS, hC, hM, hR, hY⟩ := h
  refine lv_aload_n hx hb dL_law_811 rfl (lv_at hl 3 rfl) ?_
  refine lv_aload_n hx hb dL_law_812 rfl (lv_at hl 4 rfl) ?_
  refine lv_iload hx hb dL_law_813 (lv_at hl 0 rfl) ?_
  refine lv_iconst (v := 1) hx hb dL_law_815 (by decide) ?_
  refine lv_iadd hx hb dL_law_816 ?_
  refine lv_topi (fun v1 ev1 => ?_)
  obtain rfl : v1 = nI (i5 + 1) := ev1.trans (nI_add i5 1)
  refine va_sld hx hb hX hbl hbA hS (vp_in_nI (by omega) (by omega)) dL_law_817 ?_
  rw [ha1]
  refine lv_aload_n hx hb dL_law_818 rfl (lv_at hl 4 rfl) ?_
  refine lv_iload hx hb dL_law_819 (lv_at hl 0 rfl) ?_
  refine lv_iconst (v := 2) hx hb dL_law_821 (by decide) ?_
  refine lv_iadd hx hb dL_law_822 ?_
  refine lv_topi (fun v2 ev2 => ?_)
  obtain rfl : v2 = nI (i5 + 2) := ev2.trans (nI_add i5 2)
  refine va_sld hx hb hX hbl hbA hS (vp_in_nI (by omega) (by omega)) dL_law_823 ?_
  rw [ha2]
  refine lv_aload_n hx hb dL_law_824 rfl (lv_at hl 1 rfl) ?_
  refine zc2i (vx_runSW (As := [.ref x, .int a1, .int a2, .ref o]) (rest := []) ⟨hx, hb, hml, hown, hts⟩ (w_L_taken l hlt dC dI cy G1 S1 H.size x f n sc ia na d ka va a1 a2 o hC.1 hC.2.1.1 hC.2.1.2) (vx_cwSW 4 hts gL_law_L_taken rfl rfl rfl (by decide +kernel) ⟨Nat.le_of_ble_eq_true rfl, Nat.le_of_ble_eq_true rfl⟩) (zpreSy hK hP1 hD1 hN hE hS hA hNc) rfl rfl hl.1 rfl (lv_room (Nat.le_of_ble_eq_true rfl)) dL_law_825 ⟨by show _ ≤ 600002; omega, by show _ ≤ 7302232; omega⟩) hS hD1 hA hP2 hAp (fun k9 T1 H locs hw hP1 hD1 hP2 hAp hS => ?_)
  refine lv_istore (lv' := [(5, .int k9), (4, .int (nI i5)), (3, .ref o), (2, .ref mo), (1, .ref x), (0, .ref b)]) hx hb dL_law_828 hl (by decide) rfl (fun ls hl => ?_)
  refine lv_aload_n hx hb dL_law_830 rfl (lv_at hl 3 rfl) ?_
  refine lv_aload_n hx hb dL_law_831 rfl (lv_at hl 5 rfl) ?_
  refine lv_iload hx hb dL_law_832 (lv_at hl 1 rfl) ?_
  refine lv_iconst (v := 1) hx hb dL_law_834 (by decide) ?_
  refine lv_iadd hx hb dL_law_835 ?_
  refine lv_topi (fun v3 ev3 => ?_)
  obtain rfl : v3 = nI (i5 + 1) := ev3.trans (nI_add i5 1)
  refine va_sld hx hb hX hbl hbA hS (vp_in_nI (by omega) (by omega)) dL_law_836 ?_
  rw [ha1]
  refine lv_aload_n hx hb dL_law_837 rfl (lv_at hl 5 rfl) ?_
  refine lv_iload hx hb dL_law_838 (lv_at hl 1 rfl) ?_
  refine lv_iconst (v := 2) hx hb dL_law_840 (by decide) ?_
  refine lv_iadd hx hb dL_law_841 ?_
  refine lv_topi (fun v4 ev4 => ?_)
  obtain rfl : v4 = nI (i5 + 2) := ev4.trans (nI_add i5 2)
  refine va_sld hx hb hX hbl hbA hS (vp_in_nI (by omega) (by omega)) dL_law_842 ?_
  rw [ha2]
  refine zc2i (va_runV (As := [.int a1, .int a2]) (rest := []) ⟨hx, hb, hml, hown, hts⟩ (c_X7_taken l dC dI cy G2 S2 H.size mo ad a1 a2 hM.1 hM.2.1) (cwV 2 hts gL_law_X7_taken rfl rfl rfl (by decide +kernel) ⟨Nat.le_of_ble_eq_true rfl, Nat.le_of_ble_eq_true rfl⟩) (zpreV hK hP2 hD2 hN (zrecv7 hK hP2 hM.1.1)) rfl rfl hl.1 rfl (lv_room (Nat.le_of_ble_eq_true rfl)) dL_law_843 ⟨by show _ ≤ 600002; omega, by show _ ≤ 7302232; omega⟩) hS hD2 hA hP1 hAp.symm (fun r2 T2 H locs hm hP2 hD2 hP1 hAp hS => ?_)
  have hAp := hAp.symm
  obtain ⟨hC2, hv2⟩ := k_taken (v := a1) (id := a2) hC hw
  obtain ⟨hM2, hu2⟩ := m_taken hM hm
  have hR2 := hR.vw hv2 hu2
  have hY2 := hY.vy (v_taken (v := a1) (id := a2) hC hw) (hm.1.1.2.1 4 (by decide) (by decide)) (hm.1.1.2.1 5 (by decide) (by decide)) (hm.1.1.2.1 6 (by decide) (by decide))
  obtain ⟨he2, ho2⟩ := f_taken (v := a1) (id := a2) hF hw hm
  refine lv_istore (lv' := [(6, .int r2), (5, .int k9), (4, .int (nI i5)), (3, .ref o), (2, .ref mo), (1, .ref x), (0, .ref b)]) hx hb dL_law_846 hl (by decide) rfl (fun ls hl => ?_)
  refine lv_aload_n hx hb dL_law_848 rfl (lv_at hl 4 rfl) ?_
  refine vp_callSi (va_Run.run (va_runV (As := []) (rest := []) ⟨hx, hb, hml, hown, hts⟩ (c_X7_thrown l dC dI cy G2 T2 H.size mo ad hM2.1) (cwV 0 hts gL_law_X7_thrown rfl rfl rfl (by decide +kernel) ⟨Nat.le_of_ble_eq_true rfl, Nat.le_of_ble_eq_true rfl⟩) (zpreV hK hP2 hD2 hN (zrecv7 hK hP2 hM2.1.1)) rfl rfl hl.1 rfl (lv_room (Nat.le_of_ble_eq_true rfl)) dL_law_849 ⟨by show _ ≤ 600002; omega, by show _ ≤ 7302232; omega⟩)) (fun r9 hr9 => ?_)
  refine lv_iload hx hb dL_law_852 (lv_at hl 1 rfl) ?_
  refine lv_icmp_eq (tgt := 859) hx hb dL_law_854 (by decide) (fun c5 => ?_) (fun c5 => ?_)
  · skip
    refine lv_iload hx hb dL_law_859 (lv_at hl 1 rfl) ?_
    refine lv_if_ne (tgt := 876) hx hb dL_law_861 (by decide) (fun c6 => ?_) (fun c6 => ?_)
    · skip
      refine lv_goto (tgt := 1115) hx hb dL_law_876 (by decide) ?_
      refine W.widen (k := cells + 3) (n := slots + 25) (by omega) (by omega) ?_
      exact kk _ _ _ _ _ _ ⟨⟨hP1, hD1, hP2, hD2, hAp⟩, hS, hC2, hM2, hR2, hY2⟩ (lv_sub hl [2, 3, 4, 5, 6] rfl)
    · skip
      refine lv_aload_n hx hb dL_law_864 rfl (lv_at hl 3 rfl) ?_
      refine lv_iconst (v := 0) hx hb dL_law_865 (by decide) ?_
      have hP := hP1
      refine zlald hx hb hK hP hC2.2.1.1 hC2.2.1.2 (by unfold vp_in; decide) dL_law_866 ?_
      refine lv_topl (fun v7 ev7 => ?_)
      refine lv_iload hx hb dL_law_867 (lv_at hl 0 rfl) ?_
      refine lv_i2l hx hb dL_law_869 rfl ?_
      refine lv_topl (fun v8 ev8 => ?_)
      refine W.lcmp hx hb dL_law_870 ?_
      refine lv_topi (fun v9 ev9 => ?_)
      refine lv_if_eq (tgt := 876) hx hb dL_law_871 (by decide) (fun c10 => ?_) (fun c10 => ?_)
      · skip
        refine lv_goto (tgt := 1115) hx hb dL_law_876 (by decide) ?_
        refine W.widen (k := cells + 3) (n := slots + 25) (by omega) (by omega) ?_
        exact kk _ _ _ _ _ _ ⟨⟨hP1, hD1, hP2, hD2, hAp⟩, hS, hC2, hM2, hR2, hY2⟩ (lv_sub hl [2, 3, 4, 5, 6] rfl)
      · skip
        exact absurd (ev9.trans (zcmp0 (ev7.trans ((ho2 c6).trans ev8.symm)))) c10
  · skip
    exact absurd (hr9.trans he2) c5
set_option maxHeartbeats 4000000 in
set_option maxRecDepth 100000 in
theorem q_told {p : Program} {l : Launch} {e : Env} {s : State} {m : MethodId} {args : Array Value} {below : List Frame} {meth : Method} {c : Code} {H : Heap} {locs : List Loc} {cells slots : Nat} {Q : State → Prop} {ls : Array Slot} {dC : Nat → ClassId} {dI : Nat → Nat → Nat} {cy : Nat → ClassId} {A : Nat → Prop} {b L : Nat} {xs : Nat → Int32} {x f n sc ia na d ka va o mo : Nat} {ad : Nat → Nat} {G1 G2 : zG} {S1 S2 : zS} {i5 : Nat} {a1 a2 a3 a4 : Int32} (C : zLc p l s m args c dC dI cy A b L xs) (hi5 : i5 + 5 ≤ L) (ha1 : xs (nI (i5 + 1)).toNatClampNeg = a1) (ha2 : xs (nI (i5 + 2)).toNatClampNeg = a2) (ha3 : xs (nI (i5 + 3)).toNatClampNeg = a3) (ha4 : xs (nI (i5 + 4)).toNatClampNeg = a4) (hce : cells + 3 ≤ 600002) (hse : slots + 25 ≤ 7302232) (h : zLw dC dI cy s A x f n sc ia na d ka va o mo ad G1 S1 G2 S2 H locs) (hF : zF0 x f n sc d mo ad S1 S2)
    (hl : lv_has ls 7 [(4, .int (nI i5)), (3, .ref o), (2, .ref mo), (1, .ref x), (0, .ref b)]) (kk : ∀ (G1' : zG) (S1' S2' : zS) (H' : Heap) (locs' : List Loc) (ls' : Array Slot), zLw dC dI cy s A x f n sc ia na d ka va o mo ad G1' S1' G2 S2' H' locs' → lv_has ls' 7 [(4, .int (nI i5)), (3, .ref o), (2, .ref mo), (1, .ref x), (0, .ref b)] → W p l e room_1 s m args below meth c H' locs' (cells + 3) (slots + 25) Q (F0 m 1115 ls' [])) : W p l e room_1 s m args below meth c H locs cells slots Q (F0 m 879 ls []) := by
  obtain ⟨⟨hx, hb, hml, hown, hts⟩, ⟨hX, hbl, hbA, hL⟩, hA, hK, hN, hE, hNc, hlt⟩ := C
  obtain ⟨⟨hP1, hD1, hP2, hD2, hAp⟩, hS, hC, hM, hR, hY⟩ := h
  refine lv_aload_n hx hb dL_law_879 rfl (lv_at hl 3 rfl) ?_
  refine lv_aload_n hx hb dL_law_880 rfl (lv_at hl 4 rfl) ?_
  refine lv_iload hx hb dL_law_881 (lv_at hl 0 rfl) ?_
  refine lv_iconst (v := 1) hx hb dL_law_883 (by decide) ?_
  refine lv_iadd hx hb dL_law_884 ?_
  refine lv_topi (fun v1 ev1 => ?_)
  obtain rfl : v1 = nI (i5 + 1) := ev1.trans (nI_add i5 1)
  refine va_sld hx hb hX hbl hbA hS (vp_in_nI (by omega) (by omega)) dL_law_885 ?_
  rw [ha1]
  refine lv_aload_n hx hb dL_law_886 rfl (lv_at hl 4 rfl) ?_
  refine lv_iload hx hb dL_law_887 (lv_at hl 0 rfl) ?_
  refine lv_iconst (v := 2) hx hb dL_law_889 (by decide) ?_
  refine lv_iadd hx hb dL_law_890 ?_
  refine lv_topi (fun v2 ev2 => ?_)
  obtain rfl : v2 = nI (i5 + 2) := ev2.trans (nI_add i5 2)
  refine va_sld hx hb hX hbl hbA hS (vp_in_nI (by omega) (by omega)) dL_law_891 ?_
  rw [ha2]
  refine lv_aload_n hx hb dL_law_892 rfl (lv_at hl 1 rfl) ?_
  refine zc2i (vx_runSW (As := [.ref x, .int a1, .int a2, .ref o]) (rest := []) ⟨hx, hb, hml, hown, hts⟩ (w_L_told l hlt dC dI cy G1 S1 H.size x f n sc ia na d ka va a1 a2 o hC.1 hC.2.1.1 hC.2.1.2) (vx_cwSW 4 hts gL_law_L_told rfl rfl rfl (by decide +kernel) ⟨Nat.le_of_ble_eq_true rfl, Nat.le_of_ble_eq_true rfl⟩) (zpreSy hK hP1 hD1 hN hE hS hA hNc) rfl rfl hl.1 rfl (lv_room (Nat.le_of_ble_eq_true rfl)) dL_law_893 ⟨by show _ ≤ 600002; omega, by show _ ≤ 7302232; omega⟩) hS hD1 hA hP2 hAp (fun k9 T1 H locs hw hP1 hD1 hP2 hAp hS => ?_)
  refine lv_istore (lv' := [(5, .int k9), (4, .int (nI i5)), (3, .ref o), (2, .ref mo), (1, .ref x), (0, .ref b)]) hx hb dL_law_896 hl (by decide) rfl (fun ls hl => ?_)
  refine lv_aload_n hx hb dL_law_898 rfl (lv_at hl 3 rfl) ?_
  refine lv_aload_n hx hb dL_law_899 rfl (lv_at hl 5 rfl) ?_
  refine lv_iload hx hb dL_law_900 (lv_at hl 1 rfl) ?_
  refine lv_iconst (v := 1) hx hb dL_law_902 (by decide) ?_
  refine lv_iadd hx hb dL_law_903 ?_
  refine lv_topi (fun v3 ev3 => ?_)
  obtain rfl : v3 = nI (i5 + 1) := ev3.trans (nI_add i5 1)
  refine va_sld hx hb hX hbl hbA hS (vp_in_nI (by omega) (by omega)) dL_law_904 ?_
  rw [ha1]
  refine lv_aload_n hx hb dL_law_905 rfl (lv_at hl 5 rfl) ?_
  refine lv_iload hx hb dL_law_906 (lv_at hl 1 rfl) ?_
  refine lv_iconst (v := 2) hx hb dL_law_908 (by decide) ?_
  refine lv_iadd hx hb dL_law_909 ?_
  refine lv_topi (fun v4 ev4 => ?_)
  obtain rfl : v4 = nI (i5 + 2) := ev4.trans (nI_add i5 2)
  refine va_sld hx hb hX hbl hbA hS (vp_in_nI (by omega) (by omega)) dL_law_910 ?_
  rw [ha2]
  refine zc2i (va_runV (As := [.int a1, .int a2]) (rest := []) ⟨hx, hb, hml, hown, hts⟩ (c_X7_told l dC dI cy G2 S2 H.size mo ad a1 a2 hM.1 hM.2.1) (cwV 2 hts gL_law_X7_told rfl rfl rfl (by decide +kernel) ⟨Nat.le_of_ble_eq_true rfl, Nat.le_of_ble_eq_true rfl⟩) (zpreV hK hP2 hD2 hN (zrecv7 hK hP2 hM.1.1)) rfl rfl hl.1 rfl (lv_room (Nat.le_of_ble_eq_true rfl)) dL_law_911 ⟨by show _ ≤ 600002; omega, by show _ ≤ 7302232; omega⟩) hS hD2 hA hP1 hAp.symm (fun r2 T2 H locs hm hP2 hD2 hP1 hAp hS => ?_)
  have hAp := hAp.symm
  obtain ⟨hC2, hv2⟩ := k_told (v := a1) (k := a2) hC hw
  obtain ⟨hM2, hu2⟩ := m_told hM hm
  have hR2 := hR.vw hv2 hu2
  have hY2 := hY.vy (v_told (v := a1) (k := a2) hC hw) (hm.1.1.2.1 4 (by decide) (by decide)) (hm.1.1.2.1 5 (by decide) (by decide)) (hm.1.1.2.1 6 (by decide) (by decide))
  obtain ⟨he2, ho2⟩ := f_told (v := a1) (k := a2) hF hw hm
  refine lv_istore (lv' := [(6, .int r2), (5, .int k9), (4, .int (nI i5)), (3, .ref o), (2, .ref mo), (1, .ref x), (0, .ref b)]) hx hb dL_law_914 hl (by decide) rfl (fun ls hl => ?_)
  refine lv_aload_n hx hb dL_law_916 rfl (lv_at hl 4 rfl) ?_
  refine vp_callSi (va_Run.run (va_runV (As := []) (rest := []) ⟨hx, hb, hml, hown, hts⟩ (c_X7_thrown l dC dI cy G2 T2 H.size mo ad hM2.1) (cwV 0 hts gL_law_X7_thrown rfl rfl rfl (by decide +kernel) ⟨Nat.le_of_ble_eq_true rfl, Nat.le_of_ble_eq_true rfl⟩) (zpreV hK hP2 hD2 hN (zrecv7 hK hP2 hM2.1.1)) rfl rfl hl.1 rfl (lv_room (Nat.le_of_ble_eq_true rfl)) dL_law_917 ⟨by show _ ≤ 600002; omega, by show _ ≤ 7302232; omega⟩)) (fun r9 hr9 => ?_)
  refine lv_iload hx hb dL_law_920 (lv_at hl 1 rfl) ?_
  refine lv_icmp_eq (tgt := 927) hx hb dL_law_922 (by decide) (fun c5 => ?_) (fun c5 => ?_)
  · skip
    refine lv_iload hx hb dL_law_927 (lv_at hl 1 rfl) ?_
    refine lv_if_ne (tgt := 944) hx hb dL_law_929 (by decide) (fun c6 => ?_) (fun c6 => ?_)
    · skip
      refine lv_goto (tgt := 1115) hx hb dL_law_944 (by decide) ?_
      refine W.widen (k := cells + 3) (n := slots + 25) (by omega) (by omega) ?_
      exact kk _ _ _ _ _ _ ⟨⟨hP1, hD1, hP2, hD2, hAp⟩, hS, hC2, hM2, hR2, hY2⟩ (lv_sub hl [2, 3, 4, 5, 6] rfl)
    · skip
      refine lv_aload_n hx hb dL_law_932 rfl (lv_at hl 3 rfl) ?_
      refine lv_iconst (v := 0) hx hb dL_law_933 (by decide) ?_
      have hP := hP1
      refine zlald hx hb hK hP hC2.2.1.1 hC2.2.1.2 (by unfold vp_in; decide) dL_law_934 ?_
      refine lv_topl (fun v7 ev7 => ?_)
      refine lv_iload hx hb dL_law_935 (lv_at hl 0 rfl) ?_
      refine lv_i2l hx hb dL_law_937 rfl ?_
      refine lv_topl (fun v8 ev8 => ?_)
      refine W.lcmp hx hb dL_law_938 ?_
      refine lv_topi (fun v9 ev9 => ?_)
      refine lv_if_eq (tgt := 944) hx hb dL_law_939 (by decide) (fun c10 => ?_) (fun c10 => ?_)
      · skip
        refine lv_goto (tgt := 1115) hx hb dL_law_944 (by decide) ?_
        refine W.widen (k := cells + 3) (n := slots + 25) (by omega) (by omega) ?_
        exact kk _ _ _ _ _ _ ⟨⟨hP1, hD1, hP2, hD2, hAp⟩, hS, hC2, hM2, hR2, hY2⟩ (lv_sub hl [2, 3, 4, 5, 6] rfl)
      · skip
        exact absurd (ev9.trans (zcmp0 (ev7.trans ((ho2 c6).trans ev8.symm)))) c10
  · skip
    exact absurd (hr9.trans he2) c5
set_option maxHeartbeats 4000000 in
set_option maxRecDepth 100000 in
theorem q_count {p : Program} {l : Launch} {e : Env} {s : State} {m : MethodId} {args : Array Value} {below : List Frame} {meth : Method} {c : Code} {H : Heap} {locs : List Loc} {cells slots : Nat} {Q : State → Prop} {ls : Array Slot} {dC : Nat → ClassId} {dI : Nat → Nat → Nat} {cy : Nat → ClassId} {A : Nat → Prop} {b L : Nat} {xs : Nat → Int32} {x f n sc ia na d ka va o mo : Nat} {ad : Nat → Nat} {G1 G2 : zG} {S1 S2 : zS} {i5 : Nat} {a1 a2 a3 a4 : Int32} (C : zLc p l s m args c dC dI cy A b L xs) (hi5 : i5 + 5 ≤ L) (ha1 : xs (nI (i5 + 1)).toNatClampNeg = a1) (ha2 : xs (nI (i5 + 2)).toNatClampNeg = a2) (ha3 : xs (nI (i5 + 3)).toNatClampNeg = a3) (ha4 : xs (nI (i5 + 4)).toNatClampNeg = a4) (hce : cells + 3 ≤ 600002) (hse : slots + 25 ≤ 7302232) (h : zLw dC dI cy s A x f n sc ia na d ka va o mo ad G1 S1 G2 S2 H locs) (hF : zF0 x f n sc d mo ad S1 S2)
    (hl : lv_has ls 7 [(4, .int (nI i5)), (3, .ref o), (2, .ref mo), (1, .ref x), (0, .ref b)]) (kk : ∀ (G1' : zG) (S1' S2' : zS) (H' : Heap) (locs' : List Loc) (ls' : Array Slot), zLw dC dI cy s A x f n sc ia na d ka va o mo ad G1' S1' G2 S2' H' locs' → lv_has ls' 7 [(4, .int (nI i5)), (3, .ref o), (2, .ref mo), (1, .ref x), (0, .ref b)] → W p l e room_1 s m args below meth c H' locs' (cells + 3) (slots + 25) Q (F0 m 1115 ls' [])) : W p l e room_1 s m args below meth c H locs cells slots Q (F0 m 947 ls []) := by
  obtain ⟨⟨hx, hb, hml, hown, hts⟩, ⟨hX, hbl, hbA, hL⟩, hA, hK, hN, hE, hNc, hlt⟩ := C
  obtain ⟨⟨hP1, hD1, hP2, hD2, hAp⟩, hS, hC, hM, hR, hY⟩ := h
  refine lv_aload_n hx hb dL_law_947 rfl (lv_at hl 3 rfl) ?_
  refine lv_aload_n hx hb dL_law_948 rfl (lv_at hl 4 rfl) ?_
  refine lv_iload hx hb dL_law_949 (lv_at hl 0 rfl) ?_
  refine lv_iconst (v := 1) hx hb dL_law_951 (by decide) ?_
  refine lv_iadd hx hb dL_law_952 ?_
  refine lv_topi (fun v1 ev1 => ?_)
  obtain rfl : v1 = nI (i5 + 1) := ev1.trans (nI_add i5 1)
  refine va_sld hx hb hX hbl hbA hS (vp_in_nI (by omega) (by omega)) dL_law_953 ?_
  rw [ha1]
  refine lv_aload_n hx hb dL_law_954 rfl (lv_at hl 1 rfl) ?_
  refine zc2i (vx_runSW (As := [.ref x, .int a1, .ref o]) (rest := []) ⟨hx, hb, hml, hown, hts⟩ (w_L_count l hlt dC dI cy G1 S1 H.size x f n sc ia na d ka va a1 o hC.1 hC.2.1.1 hC.2.1.2) (vx_cwSW 3 hts gL_law_L_count rfl rfl rfl (by decide +kernel) ⟨Nat.le_of_ble_eq_true rfl, Nat.le_of_ble_eq_true rfl⟩) (zpreSy hK hP1 hD1 hN hE hS hA hNc) rfl rfl hl.1 rfl (lv_room (Nat.le_of_ble_eq_true rfl)) dL_law_955 ⟨by show _ ≤ 600002; omega, by show _ ≤ 7302232; omega⟩) hS hD1 hA hP2 hAp (fun k9 T1 H locs hw hP1 hD1 hP2 hAp hS => ?_)
  refine lv_istore (lv' := [(5, .int k9), (4, .int (nI i5)), (3, .ref o), (2, .ref mo), (1, .ref x), (0, .ref b)]) hx hb dL_law_958 hl (by decide) rfl (fun ls hl => ?_)
  refine lv_aload_n hx hb dL_law_960 rfl (lv_at hl 3 rfl) ?_
  refine lv_aload_n hx hb dL_law_961 rfl (lv_at hl 5 rfl) ?_
  refine lv_iload hx hb dL_law_962 (lv_at hl 1 rfl) ?_
  refine lv_iconst (v := 1) hx hb dL_law_964 (by decide) ?_
  refine lv_iadd hx hb dL_law_965 ?_
  refine lv_topi (fun v2 ev2 => ?_)
  obtain rfl : v2 = nI (i5 + 1) := ev2.trans (nI_add i5 1)
  refine va_sld hx hb hX hbl hbA hS (vp_in_nI (by omega) (by omega)) dL_law_966 ?_
  rw [ha1]
  refine zc2i (va_runV (As := [.int a1]) (rest := []) ⟨hx, hb, hml, hown, hts⟩ (c_X7_count l dC dI cy G2 S2 H.size mo ad a1 hM.1 hM.2.1) (cwV 1 hts gL_law_X7_count rfl rfl rfl (by decide +kernel) ⟨Nat.le_of_ble_eq_true rfl, Nat.le_of_ble_eq_true rfl⟩) (zpreV hK hP2 hD2 hN (zrecv7 hK hP2 hM.1.1)) rfl rfl hl.1 rfl (lv_room (Nat.le_of_ble_eq_true rfl)) dL_law_967 ⟨by show _ ≤ 600002; omega, by show _ ≤ 7302232; omega⟩) hS hD2 hA hP1 hAp.symm (fun r2 T2 H locs hm hP2 hD2 hP1 hAp hS => ?_)
  have hAp := hAp.symm
  obtain ⟨hC2, hv2⟩ := k_count (k := a1) hC hw
  obtain ⟨hM2, hu2⟩ := m_count hM hm
  have hR2 := hR.vw hv2 hu2
  have hY2 := hY.vy (v_count (k := a1) hC hw) (hm.1.1.2.1 4 (by decide) (by decide)) (hm.1.1.2.1 5 (by decide) (by decide)) (hm.1.1.2.1 6 (by decide) (by decide))
  obtain ⟨he2, ho2⟩ := f_count (k := a1) hF hw hm
  refine lv_istore (lv' := [(6, .int r2), (5, .int k9), (4, .int (nI i5)), (3, .ref o), (2, .ref mo), (1, .ref x), (0, .ref b)]) hx hb dL_law_970 hl (by decide) rfl (fun ls hl => ?_)
  refine lv_aload_n hx hb dL_law_972 rfl (lv_at hl 4 rfl) ?_
  refine vp_callSi (va_Run.run (va_runV (As := []) (rest := []) ⟨hx, hb, hml, hown, hts⟩ (c_X7_thrown l dC dI cy G2 T2 H.size mo ad hM2.1) (cwV 0 hts gL_law_X7_thrown rfl rfl rfl (by decide +kernel) ⟨Nat.le_of_ble_eq_true rfl, Nat.le_of_ble_eq_true rfl⟩) (zpreV hK hP2 hD2 hN (zrecv7 hK hP2 hM2.1.1)) rfl rfl hl.1 rfl (lv_room (Nat.le_of_ble_eq_true rfl)) dL_law_973 ⟨by show _ ≤ 600002; omega, by show _ ≤ 7302232; omega⟩)) (fun r9 hr9 => ?_)
  refine lv_iload hx hb dL_law_976 (lv_at hl 1 rfl) ?_
  refine lv_icmp_eq (tgt := 983) hx hb dL_law_978 (by decide) (fun c3 => ?_) (fun c3 => ?_)
  · skip
    refine lv_iload hx hb dL_law_983 (lv_at hl 1 rfl) ?_
    refine lv_if_ne (tgt := 1000) hx hb dL_law_985 (by decide) (fun c4 => ?_) (fun c4 => ?_)
    · skip
      refine lv_goto (tgt := 1115) hx hb dL_law_1000 (by decide) ?_
      refine W.widen (k := cells + 3) (n := slots + 25) (by omega) (by omega) ?_
      exact kk _ _ _ _ _ _ ⟨⟨hP1, hD1, hP2, hD2, hAp⟩, hS, hC2, hM2, hR2, hY2⟩ (lv_sub hl [2, 3, 4, 5, 6] rfl)
    · skip
      refine lv_aload_n hx hb dL_law_988 rfl (lv_at hl 3 rfl) ?_
      refine lv_iconst (v := 0) hx hb dL_law_989 (by decide) ?_
      have hP := hP1
      refine zlald hx hb hK hP hC2.2.1.1 hC2.2.1.2 (by unfold vp_in; decide) dL_law_990 ?_
      refine lv_topl (fun v5 ev5 => ?_)
      refine lv_iload hx hb dL_law_991 (lv_at hl 0 rfl) ?_
      refine lv_i2l hx hb dL_law_993 rfl ?_
      refine lv_topl (fun v6 ev6 => ?_)
      refine W.lcmp hx hb dL_law_994 ?_
      refine lv_topi (fun v7 ev7 => ?_)
      refine lv_if_eq (tgt := 1000) hx hb dL_law_995 (by decide) (fun c8 => ?_) (fun c8 => ?_)
      · skip
        refine lv_goto (tgt := 1115) hx hb dL_law_1000 (by decide) ?_
        refine W.widen (k := cells + 3) (n := slots + 25) (by omega) (by omega) ?_
        exact kk _ _ _ _ _ _ ⟨⟨hP1, hD1, hP2, hD2, hAp⟩, hS, hC2, hM2, hR2, hY2⟩ (lv_sub hl [2, 3, 4, 5, 6] rfl)
      · skip
        exact absurd (ev7.trans (zcmp0 (ev5.trans ((ho2 c4).trans ev6.symm)))) c8
  · skip
    exact absurd (hr9.trans he2) c3
set_option maxHeartbeats 4000000 in
set_option maxRecDepth 100000 in
theorem q_line {p : Program} {l : Launch} {e : Env} {s : State} {m : MethodId} {args : Array Value} {below : List Frame} {meth : Method} {c : Code} {H : Heap} {locs : List Loc} {cells slots : Nat} {Q : State → Prop} {ls : Array Slot} {dC : Nat → ClassId} {dI : Nat → Nat → Nat} {cy : Nat → ClassId} {A : Nat → Prop} {b L : Nat} {xs : Nat → Int32} {x f n sc ia na d ka va o mo : Nat} {ad : Nat → Nat} {G1 G2 : zG} {S1 S2 : zS} {i5 : Nat} {a1 a2 a3 a4 : Int32} (C : zLc p l s m args c dC dI cy A b L xs) (hi5 : i5 + 5 ≤ L) (ha1 : xs (nI (i5 + 1)).toNatClampNeg = a1) (ha2 : xs (nI (i5 + 2)).toNatClampNeg = a2) (ha3 : xs (nI (i5 + 3)).toNatClampNeg = a3) (ha4 : xs (nI (i5 + 4)).toNatClampNeg = a4) (hce : cells + 3 ≤ 600002) (hse : slots + 25 ≤ 7302232) (h : zLw dC dI cy s A x f n sc ia na d ka va o mo ad G1 S1 G2 S2 H locs) (hF : zF0 x f n sc d mo ad S1 S2)
    (hl : lv_has ls 7 [(4, .int (nI i5)), (3, .ref o), (2, .ref mo), (1, .ref x), (0, .ref b)]) (kk : ∀ (G1' : zG) (S1' S2' : zS) (H' : Heap) (locs' : List Loc) (ls' : Array Slot), zLw dC dI cy s A x f n sc ia na d ka va o mo ad G1' S1' G2 S2' H' locs' → lv_has ls' 7 [(4, .int (nI i5)), (3, .ref o), (2, .ref mo), (1, .ref x), (0, .ref b)] → W p l e room_1 s m args below meth c H' locs' (cells + 3) (slots + 25) Q (F0 m 1115 ls' [])) : W p l e room_1 s m args below meth c H locs cells slots Q (F0 m 1003 ls []) := by
  obtain ⟨⟨hx, hb, hml, hown, hts⟩, ⟨hX, hbl, hbA, hL⟩, hA, hK, hN, hE, hNc, hlt⟩ := C
  obtain ⟨⟨hP1, hD1, hP2, hD2, hAp⟩, hS, hC, hM, hR, hY⟩ := h
  obtain ⟨t8, hlt8, ht8⟩ := hM.2.1.2.2.1
  refine lv_aload_n hx hb dL_law_1003 rfl (lv_at hl 3 rfl) ?_
  refine lv_aload_n hx hb dL_law_1004 rfl (lv_at hl 4 rfl) ?_
  refine lv_iload hx hb dL_law_1005 (lv_at hl 0 rfl) ?_
  refine lv_iconst (v := 1) hx hb dL_law_1007 (by decide) ?_
  refine lv_iadd hx hb dL_law_1008 ?_
  refine lv_topi (fun v1 ev1 => ?_)
  obtain rfl : v1 = nI (i5 + 1) := ev1.trans (nI_add i5 1)
  refine va_sld hx hb hX hbl hbA hS (vp_in_nI (by omega) (by omega)) dL_law_1009 ?_
  rw [ha1]
  refine lv_aload_n hx hb dL_law_1010 rfl (lv_at hl 1 rfl) ?_
  refine zc2i (vx_runSW (As := [.ref x, .int a1, .ref o]) (rest := []) ⟨hx, hb, hml, hown, hts⟩ (w_L_line l hlt dC dI cy G1 S1 H.size x f n sc ia na d ka va a1 o hC.1 hC.2.1.1 hC.2.1.2) (vx_cwSW 3 hts gL_law_L_line rfl rfl rfl (by decide +kernel) ⟨Nat.le_of_ble_eq_true rfl, Nat.le_of_ble_eq_true rfl⟩) (zpreSy hK hP1 hD1 hN hE hS hA hNc) rfl rfl hl.1 rfl (lv_room (Nat.le_of_ble_eq_true rfl)) dL_law_1011 ⟨by show _ ≤ 600002; omega, by show _ ≤ 7302232; omega⟩) hS hD1 hA hP2 hAp (fun k9 T1 H locs hw hP1 hD1 hP2 hAp hS => ?_)
  refine lv_istore (lv' := [(5, .int k9), (4, .int (nI i5)), (3, .ref o), (2, .ref mo), (1, .ref x), (0, .ref b)]) hx hb dL_law_1014 hl (by decide) rfl (fun ls hl => ?_)
  refine lv_aload_n hx hb dL_law_1016 rfl (lv_at hl 3 rfl) ?_
  refine lv_aload_n hx hb dL_law_1017 rfl (lv_at hl 5 rfl) ?_
  refine lv_iload hx hb dL_law_1018 (lv_at hl 1 rfl) ?_
  refine lv_iconst (v := 1) hx hb dL_law_1020 (by decide) ?_
  refine lv_iadd hx hb dL_law_1021 ?_
  refine lv_topi (fun v2 ev2 => ?_)
  obtain rfl : v2 = nI (i5 + 1) := ev2.trans (nI_add i5 1)
  refine va_sld hx hb hX hbl hbA hS (vp_in_nI (by omega) (by omega)) dL_law_1022 ?_
  rw [ha1]
  refine zc2i (va_runV (As := [.int a1]) (rest := []) ⟨hx, hb, hml, hown, hts⟩ (c_X7_line l dC dI cy G2 S2 H.size mo ad a1 t8 hM.1 hM.2.1 ht8 hlt8) (cwV 1 hts gL_law_X7_line rfl rfl rfl (by decide +kernel) ⟨Nat.le_of_ble_eq_true rfl, Nat.le_of_ble_eq_true rfl⟩) (zpreV hK hP2 hD2 hN (zrecv7 hK hP2 hM.1.1)) rfl rfl hl.1 rfl (lv_room (Nat.le_of_ble_eq_true rfl)) dL_law_1023 ⟨by show _ ≤ 600002; omega, by show _ ≤ 7302232; omega⟩) hS hD2 hA hP1 hAp.symm (fun r2 T2 H locs hm hP2 hD2 hP1 hAp hS => ?_)
  have hAp := hAp.symm
  obtain ⟨hC2, hv2⟩ := k_line (b := a1) hC hw
  obtain ⟨hM2, hu2⟩ := m_line hM hm
  have hR2 := hR.vw hv2 hu2
  have hY2 := hY.vy (v_line (b := a1) hC hw) (hm.1.1.2.1 4 (by decide) (by decide)) (hm.1.1.2.1 5 (by decide) (by decide)) (hm.1.1.2.1 6 (by decide) (by decide))
  obtain ⟨he2, ho2⟩ := f_line (b := a1) hF hw hm
  refine lv_istore (lv' := [(6, .int r2), (5, .int k9), (4, .int (nI i5)), (3, .ref o), (2, .ref mo), (1, .ref x), (0, .ref b)]) hx hb dL_law_1026 hl (by decide) rfl (fun ls hl => ?_)
  refine lv_aload_n hx hb dL_law_1028 rfl (lv_at hl 4 rfl) ?_
  refine vp_callSi (va_Run.run (va_runV (As := []) (rest := []) ⟨hx, hb, hml, hown, hts⟩ (c_X7_thrown l dC dI cy G2 T2 H.size mo ad hM2.1) (cwV 0 hts gL_law_X7_thrown rfl rfl rfl (by decide +kernel) ⟨Nat.le_of_ble_eq_true rfl, Nat.le_of_ble_eq_true rfl⟩) (zpreV hK hP2 hD2 hN (zrecv7 hK hP2 hM2.1.1)) rfl rfl hl.1 rfl (lv_room (Nat.le_of_ble_eq_true rfl)) dL_law_1029 ⟨by show _ ≤ 600002; omega, by show _ ≤ 7302232; omega⟩)) (fun r9 hr9 => ?_)
  refine lv_iload hx hb dL_law_1032 (lv_at hl 1 rfl) ?_
  refine lv_icmp_eq (tgt := 1039) hx hb dL_law_1034 (by decide) (fun c3 => ?_) (fun c3 => ?_)
  · skip
    refine lv_iload hx hb dL_law_1039 (lv_at hl 1 rfl) ?_
    refine lv_if_ne (tgt := 1056) hx hb dL_law_1041 (by decide) (fun c4 => ?_) (fun c4 => ?_)
    · skip
      refine lv_goto (tgt := 1115) hx hb dL_law_1056 (by decide) ?_
      refine W.widen (k := cells + 3) (n := slots + 25) (by omega) (by omega) ?_
      exact kk _ _ _ _ _ _ ⟨⟨hP1, hD1, hP2, hD2, hAp⟩, hS, hC2, hM2, hR2, hY2⟩ (lv_sub hl [2, 3, 4, 5, 6] rfl)
    · skip
      refine lv_aload_n hx hb dL_law_1044 rfl (lv_at hl 3 rfl) ?_
      refine lv_iconst (v := 0) hx hb dL_law_1045 (by decide) ?_
      have hP := hP1
      refine zlald hx hb hK hP hC2.2.1.1 hC2.2.1.2 (by unfold vp_in; decide) dL_law_1046 ?_
      refine lv_topl (fun v5 ev5 => ?_)
      refine lv_iload hx hb dL_law_1047 (lv_at hl 0 rfl) ?_
      refine lv_i2l hx hb dL_law_1049 rfl ?_
      refine lv_topl (fun v6 ev6 => ?_)
      refine W.lcmp hx hb dL_law_1050 ?_
      refine lv_topi (fun v7 ev7 => ?_)
      refine lv_if_eq (tgt := 1056) hx hb dL_law_1051 (by decide) (fun c8 => ?_) (fun c8 => ?_)
      · skip
        refine lv_goto (tgt := 1115) hx hb dL_law_1056 (by decide) ?_
        refine W.widen (k := cells + 3) (n := slots + 25) (by omega) (by omega) ?_
        exact kk _ _ _ _ _ _ ⟨⟨hP1, hD1, hP2, hD2, hAp⟩, hS, hC2, hM2, hR2, hY2⟩ (lv_sub hl [2, 3, 4, 5, 6] rfl)
      · skip
        exact absurd (ev7.trans (zcmp0 (ev5.trans ((ho2 c4).trans ev6.symm)))) c8
  · skip
    exact absurd (hr9.trans he2) c3
set_option maxHeartbeats 4000000 in
set_option maxRecDepth 100000 in
theorem q_checks {p : Program} {l : Launch} {e : Env} {s : State} {m : MethodId} {args : Array Value} {below : List Frame} {meth : Method} {c : Code} {H : Heap} {locs : List Loc} {cells slots : Nat} {Q : State → Prop} {ls : Array Slot} {dC : Nat → ClassId} {dI : Nat → Nat → Nat} {cy : Nat → ClassId} {A : Nat → Prop} {b L : Nat} {xs : Nat → Int32} {x f n sc ia na d ka va o mo : Nat} {ad : Nat → Nat} {G1 G2 : zG} {S1 S2 : zS} {i5 : Nat} {a1 a2 a3 a4 : Int32} (C : zLc p l s m args c dC dI cy A b L xs) (hi5 : i5 + 5 ≤ L) (ha1 : xs (nI (i5 + 1)).toNatClampNeg = a1) (ha2 : xs (nI (i5 + 2)).toNatClampNeg = a2) (ha3 : xs (nI (i5 + 3)).toNatClampNeg = a3) (ha4 : xs (nI (i5 + 4)).toNatClampNeg = a4) (hce : cells + 3 ≤ 600002) (hse : slots + 25 ≤ 7302232) (h : zLw dC dI cy s A x f n sc ia na d ka va o mo ad G1 S1 G2 S2 H locs) (hF : zF0 x f n sc d mo ad S1 S2)
    (hl : lv_has ls 7 [(4, .int (nI i5)), (3, .ref o), (2, .ref mo), (1, .ref x), (0, .ref b)]) (kk : ∀ (G1' : zG) (S1' S2' : zS) (H' : Heap) (locs' : List Loc) (ls' : Array Slot), zLw dC dI cy s A x f n sc ia na d ka va o mo ad G1' S1' G2 S2' H' locs' → lv_has ls' 7 [(4, .int (nI i5)), (3, .ref o), (2, .ref mo), (1, .ref x), (0, .ref b)] → W p l e room_1 s m args below meth c H' locs' (cells + 3) (slots + 25) Q (F0 m 1115 ls' [])) : W p l e room_1 s m args below meth c H locs cells slots Q (F0 m 1059 ls []) := by
  obtain ⟨⟨hx, hb, hml, hown, hts⟩, ⟨hX, hbl, hbA, hL⟩, hA, hK, hN, hE, hNc, hlt⟩ := C
  obtain ⟨⟨hP1, hD1, hP2, hD2, hAp⟩, hS, hC, hM, hR, hY⟩ := h
  refine lv_aload_n hx hb dL_law_1059 rfl (lv_at hl 3 rfl) ?_
  refine lv_aload_n hx hb dL_law_1060 rfl (lv_at hl 4 rfl) ?_
  refine lv_iload hx hb dL_law_1061 (lv_at hl 0 rfl) ?_
  refine lv_iconst (v := 1) hx hb dL_law_1063 (by decide) ?_
  refine lv_iadd hx hb dL_law_1064 ?_
  refine lv_topi (fun v1 ev1 => ?_)
  obtain rfl : v1 = nI (i5 + 1) := ev1.trans (nI_add i5 1)
  refine va_sld hx hb hX hbl hbA hS (vp_in_nI (by omega) (by omega)) dL_law_1065 ?_
  rw [ha1]
  refine lv_aload_n hx hb dL_law_1066 rfl (lv_at hl 1 rfl) ?_
  refine zc2i (vx_runSW (As := [.ref x, .int a1, .ref o]) (rest := []) ⟨hx, hb, hml, hown, hts⟩ (w_L_checks l hlt dC dI cy G1 S1 H.size x f n sc ia na d ka va a1 o hC.1 hC.2.1.1 hC.2.1.2) (vx_cwSW 3 hts gL_law_L_checks rfl rfl rfl (by decide +kernel) ⟨Nat.le_of_ble_eq_true rfl, Nat.le_of_ble_eq_true rfl⟩) (zpreSy hK hP1 hD1 hN hE hS hA hNc) rfl rfl hl.1 rfl (lv_room (Nat.le_of_ble_eq_true rfl)) dL_law_1067 ⟨by show _ ≤ 600002; omega, by show _ ≤ 7302232; omega⟩) hS hD1 hA hP2 hAp (fun k9 T1 H locs hw hP1 hD1 hP2 hAp hS => ?_)
  refine lv_istore (lv' := [(5, .int k9), (4, .int (nI i5)), (3, .ref o), (2, .ref mo), (1, .ref x), (0, .ref b)]) hx hb dL_law_1070 hl (by decide) rfl (fun ls hl => ?_)
  refine lv_aload_n hx hb dL_law_1072 rfl (lv_at hl 3 rfl) ?_
  refine lv_aload_n hx hb dL_law_1073 rfl (lv_at hl 5 rfl) ?_
  refine lv_iload hx hb dL_law_1074 (lv_at hl 1 rfl) ?_
  refine lv_iconst (v := 1) hx hb dL_law_1076 (by decide) ?_
  refine lv_iadd hx hb dL_law_1077 ?_
  refine lv_topi (fun v2 ev2 => ?_)
  obtain rfl : v2 = nI (i5 + 1) := ev2.trans (nI_add i5 1)
  refine va_sld hx hb hX hbl hbA hS (vp_in_nI (by omega) (by omega)) dL_law_1078 ?_
  rw [ha1]
  refine zc2i (va_runV (As := [.int a1]) (rest := []) ⟨hx, hb, hml, hown, hts⟩ (c_X7_checks l dC dI cy G2 S2 H.size mo ad a1 hM.1 hM.2.1) (cwV 1 hts gL_law_X7_checks rfl rfl rfl (by decide +kernel) ⟨Nat.le_of_ble_eq_true rfl, Nat.le_of_ble_eq_true rfl⟩) (zpreV hK hP2 hD2 hN (zrecv7 hK hP2 hM.1.1)) rfl rfl hl.1 rfl (lv_room (Nat.le_of_ble_eq_true rfl)) dL_law_1079 ⟨by show _ ≤ 600002; omega, by show _ ≤ 7302232; omega⟩) hS hD2 hA hP1 hAp.symm (fun r2 T2 H locs hm hP2 hD2 hP1 hAp hS => ?_)
  have hAp := hAp.symm
  obtain ⟨hC2, hM2, ⟨hR2, hY2⟩, he2, ho2⟩ := s_checks hC hM hR hY hw hm
  refine lv_istore (lv' := [(6, .int r2), (5, .int k9), (4, .int (nI i5)), (3, .ref o), (2, .ref mo), (1, .ref x), (0, .ref b)]) hx hb dL_law_1082 hl (by decide) rfl (fun ls hl => ?_)
  refine lv_aload_n hx hb dL_law_1084 rfl (lv_at hl 4 rfl) ?_
  refine vp_callSi (va_Run.run (va_runV (As := []) (rest := []) ⟨hx, hb, hml, hown, hts⟩ (c_X7_thrown l dC dI cy G2 T2 H.size mo ad hM2.1) (cwV 0 hts gL_law_X7_thrown rfl rfl rfl (by decide +kernel) ⟨Nat.le_of_ble_eq_true rfl, Nat.le_of_ble_eq_true rfl⟩) (zpreV hK hP2 hD2 hN (zrecv7 hK hP2 hM2.1.1)) rfl rfl hl.1 rfl (lv_room (Nat.le_of_ble_eq_true rfl)) dL_law_1085 ⟨by show _ ≤ 600002; omega, by show _ ≤ 7302232; omega⟩)) (fun r9 hr9 => ?_)
  refine lv_iload hx hb dL_law_1088 (lv_at hl 1 rfl) ?_
  refine lv_icmp_eq (tgt := 1095) hx hb dL_law_1090 (by decide) (fun c3 => ?_) (fun c3 => ?_)
  · skip
    refine lv_iload hx hb dL_law_1095 (lv_at hl 1 rfl) ?_
    refine lv_if_ne (tgt := 1112) hx hb dL_law_1097 (by decide) (fun c4 => ?_) (fun c4 => ?_)
    · skip
      refine lv_goto (tgt := 1115) hx hb dL_law_1112 (by decide) ?_
      refine W.widen (k := cells + 3) (n := slots + 25) (by omega) (by omega) ?_
      exact kk _ _ _ _ _ _ ⟨⟨hP1, hD1, hP2, hD2, hAp⟩, hS, hC2, hM2, hR2, hY2⟩ (lv_sub hl [2, 3, 4, 5, 6] rfl)
    · skip
      refine lv_aload_n hx hb dL_law_1100 rfl (lv_at hl 3 rfl) ?_
      refine lv_iconst (v := 0) hx hb dL_law_1101 (by decide) ?_
      have hP := hP1
      refine zlald hx hb hK hP hC2.2.1.1 hC2.2.1.2 (by unfold vp_in; decide) dL_law_1102 ?_
      refine lv_topl (fun v5 ev5 => ?_)
      refine lv_iload hx hb dL_law_1103 (lv_at hl 0 rfl) ?_
      refine lv_i2l hx hb dL_law_1105 rfl ?_
      refine lv_topl (fun v6 ev6 => ?_)
      refine W.lcmp hx hb dL_law_1106 ?_
      refine lv_topi (fun v7 ev7 => ?_)
      refine lv_if_eq (tgt := 1112) hx hb dL_law_1107 (by decide) (fun c8 => ?_) (fun c8 => ?_)
      · skip
        refine lv_goto (tgt := 1115) hx hb dL_law_1112 (by decide) ?_
        refine W.widen (k := cells + 3) (n := slots + 25) (by omega) (by omega) ?_
        exact kk _ _ _ _ _ _ ⟨⟨hP1, hD1, hP2, hD2, hAp⟩, hS, hC2, hM2, hR2, hY2⟩ (lv_sub hl [2, 3, 4, 5, 6] rfl)
      · skip
        exact absurd (ev7.trans (zcmp0 (ev5.trans ((ho2 c4).trans ev6.symm)))) c8
  · skip
    exact absurd (hr9.trans he2) c3
