def zLw (dC : Nat → ClassId) (dI : Nat → Nat → Nat) (cy : Nat → ClassId) (s : State) (A : Nat → Prop) (x f n sc ia na d ka va o mo : Nat) (ad : Nat → Nat) (G1 : zG) (S1 : zS) (G2 : zG) (S2 : zS) (H : Heap) (locs : List Loc) : Prop :=
  (va_P (dC, dI) vwCl (zW cy G1 S1) H ∧ va_D A (zW cy G1 S1) ∧ va_P (dC, dI) vwCl (zW cy G2 S2) H ∧ va_D A (zW cy G2 S2) ∧ zAp (zW cy G1 S1) (zW cy G2 S2)) ∧ va_S A s.heap H locs ∧ zCI G1 S1 x f n sc ia na d ka va o ∧ zMI G2 S2 mo ad ∧ zRl x f n sc mo ad S1 S2 ∧ zRy f ad S1 S2
/-- what holds all through the law -/
def zLc (p : Program) (l : Launch) (s : State) (m : MethodId) (args : Array Value) (c : Code) (dC : Nat → ClassId) (dI : Nat → Nat → Nat) (cy : Nat → ClassId) (A : Nat → Prop) (b L : Nat) (xs : Nat → Int32) : Prop :=
  CallFix p m c cL_law 7 s args wsL_law RL ∧ (va_X b L xs s s.heap ∧ b < s.heap.size ∧ ¬ A b ∧ L ≤ 2560) ∧ (∀ q : Nat, s.heap.size ≤ q → A q) ∧ va_K (dC, dI) vwCl (zT cy) s ∧ zN s ∧ zEx A s s.heap ∧ va_Nc "java/lang/IllegalStateException" "java/lang/IllegalArgumentException" s ∧ l.stackTraces = false
theorem zcmp0 {a b : Int64} (h : a = b) : lg_cmp a b = 0 := by subst h; simp [lg_cmp]
set_option maxHeartbeats 4000000 in
set_option maxRecDepth 100000 in
theorem q_frame {p : Program} {l : Launch} {e : Env} {s : State} {m : MethodId} {args : Array Value} {below : List Frame} {meth : Method} {c : Code} {H : Heap} {locs : List Loc} {cells slots : Nat} {Q : State → Prop} {ls : Array Slot} {dC : Nat → ClassId} {dI : Nat → Nat → Nat} {cy : Nat → ClassId} {A : Nat → Prop} {b L : Nat} {xs : Nat → Int32} {x f n sc ia na d ka va o mo : Nat} {ad : Nat → Nat} {G1 G2 : zG} {S1 S2 : zS} {i5 : Nat} {a1 a2 a3 a4 : Int32} (C : zLc p l s m args c dC dI cy A b L xs) (hi5 : i5 + 5 ≤ L) (ha1 : xs (nI (i5 + 1)).toNatClampNeg = a1) (ha2 : xs (nI (i5 + 2)).toNatClampNeg = a2) (ha3 : xs (nI (i5 + 3)).toNatClampNeg = a3) (ha4 : xs (nI (i5 + 4)).toNatClampNeg = a4) (hce : cells + 3 ≤ 601024) (hse : slots + 25 ≤ 7293034) (h : zLw dC dI cy s A x f n sc ia na d ka va o mo ad G1 S1 G2 S2 H locs)
    (hl : lv_has ls 7 [(4, .int (nI i5)), (3, .ref o), (2, .ref mo), (1, .ref x), (0, .ref b)]) (kk : ∀ (G1' : zG) (S1' S2' : zS) (H' : Heap) (locs' : List Loc) (ls' : Array Slot), zLw dC dI cy s A x f n sc ia na d ka va o mo ad G1' S1' G2 S2' H' locs' → lv_has ls' 7 [(4, .int (nI i5)), (3, .ref o), (2, .ref mo), (1, .ref x), (0, .ref b)] → W p l e room_1 s m args below meth c H' locs' (cells + 3) (slots + 25) Q (F0 m 791 ls' [])) : W p l e room_1 s m args below meth c H locs cells slots Q (F0 m 112 ls []) := by
  obtain ⟨⟨hx, hb, hml, hown, hts⟩, ⟨hX, hbl, hbA, hL⟩, hA, hK, hN, hE, hNc, hlt⟩ := C
  obtain ⟨⟨hP1, hD1, hP2, hD2, hAp⟩, hS, hC, hM, hR, hY⟩ := h
  refine lv_aload_n hx hb dL_law_112 rfl (lv_at hl 3 rfl) ?_
  refine lv_aload_n hx hb dL_law_113 rfl (lv_at hl 4 rfl) ?_
  refine lv_iload hx hb dL_law_114 (lv_at hl 0 rfl) ?_
  refine lv_iconst (v := 1) hx hb dL_law_116 (by decide) ?_
  refine lv_iadd hx hb dL_law_117 ?_
  refine lv_topi (fun v1 ev1 => ?_)
  obtain rfl : v1 = nI (i5 + 1) := ev1.trans (nI_add i5 1)
  refine va_sld hx hb hX hbl hbA hS (vp_in_nI (by omega) (by omega)) dL_law_118 ?_
  rw [ha1]
  refine lv_aload_n hx hb dL_law_119 rfl (lv_at hl 4 rfl) ?_
  refine lv_iload hx hb dL_law_120 (lv_at hl 0 rfl) ?_
  refine lv_iconst (v := 2) hx hb dL_law_122 (by decide) ?_
  refine lv_iadd hx hb dL_law_123 ?_
  refine lv_topi (fun v2 ev2 => ?_)
  obtain rfl : v2 = nI (i5 + 2) := ev2.trans (nI_add i5 2)
  refine va_sld hx hb hX hbl hbA hS (vp_in_nI (by omega) (by omega)) dL_law_124 ?_
  rw [ha2]
  refine lv_aload_n hx hb dL_law_125 rfl (lv_at hl 4 rfl) ?_
  refine lv_iload hx hb dL_law_126 (lv_at hl 0 rfl) ?_
  refine lv_iconst (v := 3) hx hb dL_law_128 (by decide) ?_
  refine lv_iadd hx hb dL_law_129 ?_
  refine lv_topi (fun v3 ev3 => ?_)
  obtain rfl : v3 = nI (i5 + 3) := ev3.trans (nI_add i5 3)
  refine va_sld hx hb hX hbl hbA hS (vp_in_nI (by omega) (by omega)) dL_law_130 ?_
  rw [ha3]
  refine lv_aload_n hx hb dL_law_131 rfl (lv_at hl 4 rfl) ?_
  refine lv_iload hx hb dL_law_132 (lv_at hl 0 rfl) ?_
  refine lv_iconst (v := 4) hx hb dL_law_134 (by decide) ?_
  refine lv_iadd hx hb dL_law_135 ?_
  refine lv_topi (fun v4 ev4 => ?_)
  obtain rfl : v4 = nI (i5 + 4) := ev4.trans (nI_add i5 4)
  refine va_sld hx hb hX hbl hbA hS (vp_in_nI (by omega) (by omega)) dL_law_136 ?_
  rw [ha4]
  refine lv_if_eq (tgt := 144) hx hb dL_law_137 (by decide) (fun c5 => ?_) (fun c5 => ?_)
  · skip
    refine lv_iconst (v := 0) hx hb dL_law_144 (by decide) ?_
    refine zc2I (vx_runSW (As := [.ref x, .int a1, .int a2, .int a3, .int 0]) (rest := []) ⟨hx, hb, hml, hown, hts⟩ (w_L_frame l hlt dC dI cy G1 S1 H.size x f n sc ia na d ka va a1 a2 a3 0 hC.1) (vx_cwSW 5 hts gL_law_L_frame rfl rfl rfl (by decide +kernel) ⟨Nat.le_of_ble_eq_true rfl, Nat.le_of_ble_eq_true rfl⟩) (zpreSy hK hP1 hD1 hN hE hS hA hNc) rfl rfl hl.1 rfl (lv_room (Nat.le_of_ble_eq_true rfl)) dL_law_145 ⟨by show _ ≤ 601024; omega, by show _ ≤ 7293034; omega⟩) hS hD1 hA hP2 hAp (fun k9 u1 H locs hw hP1 hD1 hP2 hAp hS => ?_)
    refine lv_istore (lv' := [(5, .int k9), (4, .int (nI i5)), (3, .ref o), (2, .ref mo), (1, .ref x), (0, .ref b)]) hx hb dL_law_148 hl (by decide) rfl (fun ls hl => ?_)
    refine lv_aload_n hx hb dL_law_150 rfl (lv_at hl 3 rfl) ?_
    refine lv_aload_n hx hb dL_law_151 rfl (lv_at hl 5 rfl) ?_
    refine lv_iload hx hb dL_law_152 (lv_at hl 1 rfl) ?_
    refine lv_iconst (v := 1) hx hb dL_law_154 (by decide) ?_
    refine lv_iadd hx hb dL_law_155 ?_
    refine lv_topi (fun v6 ev6 => ?_)
    obtain rfl : v6 = nI (i5 + 1) := ev6.trans (nI_add i5 1)
    refine va_sld hx hb hX hbl hbA hS (vp_in_nI (by omega) (by omega)) dL_law_156 ?_
    rw [ha1]
    refine lv_aload_n hx hb dL_law_157 rfl (lv_at hl 5 rfl) ?_
    refine lv_iload hx hb dL_law_158 (lv_at hl 1 rfl) ?_
    refine lv_iconst (v := 2) hx hb dL_law_160 (by decide) ?_
    refine lv_iadd hx hb dL_law_161 ?_
    refine lv_topi (fun v7 ev7 => ?_)
    obtain rfl : v7 = nI (i5 + 2) := ev7.trans (nI_add i5 2)
    refine va_sld hx hb hX hbl hbA hS (vp_in_nI (by omega) (by omega)) dL_law_162 ?_
    rw [ha2]
    refine lv_aload_n hx hb dL_law_163 rfl (lv_at hl 5 rfl) ?_
    refine lv_iload hx hb dL_law_164 (lv_at hl 1 rfl) ?_
    refine lv_iconst (v := 3) hx hb dL_law_166 (by decide) ?_
    refine lv_iadd hx hb dL_law_167 ?_
    refine lv_topi (fun v8 ev8 => ?_)
    obtain rfl : v8 = nI (i5 + 3) := ev8.trans (nI_add i5 3)
    refine va_sld hx hb hX hbl hbA hS (vp_in_nI (by omega) (by omega)) dL_law_168 ?_
    rw [ha3]
    refine lv_aload_n hx hb dL_law_169 rfl (lv_at hl 5 rfl) ?_
    refine lv_iload hx hb dL_law_170 (lv_at hl 1 rfl) ?_
    refine lv_iconst (v := 4) hx hb dL_law_172 (by decide) ?_
    refine lv_iadd hx hb dL_law_173 ?_
    refine lv_topi (fun v9 ev9 => ?_)
    obtain rfl : v9 = nI (i5 + 4) := ev9.trans (nI_add i5 4)
    refine va_sld hx hb hX hbl hbA hS (vp_in_nI (by omega) (by omega)) dL_law_174 ?_
    rw [ha4]
    refine lv_if_eq (tgt := 182) hx hb dL_law_175 (by decide) (fun c10 => ?_) (fun c10 => ?_)
    · skip
      refine lv_iconst (v := 0) hx hb dL_law_182 (by decide) ?_
      refine zc2v (va_runV (As := [.int a1, .int a2, .int a3, .int 0]) (rest := []) ⟨hx, hb, hml, hown, hts⟩ (c_X7_frame l dC dI cy G2 S2 H.size mo ad a1 a2 a3 0 hM.1 hM.2.1 hM.2.2.1 hM.2.2.2) (cwV 4 hts gL_law_X7_frame rfl rfl rfl (by decide +kernel) ⟨Nat.le_of_ble_eq_true rfl, Nat.le_of_ble_eq_true rfl⟩) (zpreV hK hP2 hD2 hN (zrecv7 hK hP2 hM.1.1)) rfl rfl hl.1 rfl (lv_room (Nat.le_of_ble_eq_true rfl)) dL_law_183 ⟨by show _ ≤ 601024; omega, by show _ ≤ 7293034; omega⟩) hS hD2 hA hP1 hAp.symm (fun T2 H locs hm hP2 hD2 hP1 hAp hS => ?_)
      have hAp := hAp.symm
      obtain ⟨hC2, hM2, ⟨hR2, hY2⟩, he2⟩ := s_frame (T1 := S1) hC hM hR hw hm hY (by decide)
      refine lv_goto (tgt := 791) hx hb dL_law_186 (by decide) ?_
      refine W.widen (k := cells + 3) (n := slots + 25) (by omega) (by omega) ?_
      exact kk _ _ _ _ _ _ ⟨⟨hP1, hD1, hP2, hD2, hAp⟩, hS, hC2, hM2, hR2, hY2⟩ (lv_sub hl [1, 2, 3, 4, 5] rfl)
    · skip
      exact absurd c5 c10
  · skip
    refine lv_iconst (v := 1) hx hb dL_law_140 (by decide) ?_
    refine lv_goto (tgt := 145) hx hb dL_law_141 (by decide) ?_
    refine zc2I (vx_runSW (As := [.ref x, .int a1, .int a2, .int a3, .int 1]) (rest := []) ⟨hx, hb, hml, hown, hts⟩ (w_L_frame l hlt dC dI cy G1 S1 H.size x f n sc ia na d ka va a1 a2 a3 1 hC.1) (vx_cwSW 5 hts gL_law_L_frame rfl rfl rfl (by decide +kernel) ⟨Nat.le_of_ble_eq_true rfl, Nat.le_of_ble_eq_true rfl⟩) (zpreSy hK hP1 hD1 hN hE hS hA hNc) rfl rfl hl.1 rfl (lv_room (Nat.le_of_ble_eq_true rfl)) dL_law_145 ⟨by show _ ≤ 601024; omega, by show _ ≤ 7293034; omega⟩) hS hD1 hA hP2 hAp (fun k9 u1 H locs hw hP1 hD1 hP2 hAp hS => ?_)
    refine lv_istore (lv' := [(5, .int k9), (4, .int (nI i5)), (3, .ref o), (2, .ref mo), (1, .ref x), (0, .ref b)]) hx hb dL_law_148 hl (by decide) rfl (fun ls hl => ?_)
    refine lv_aload_n hx hb dL_law_150 rfl (lv_at hl 3 rfl) ?_
    refine lv_aload_n hx hb dL_law_151 rfl (lv_at hl 5 rfl) ?_
    refine lv_iload hx hb dL_law_152 (lv_at hl 1 rfl) ?_
    refine lv_iconst (v := 1) hx hb dL_law_154 (by decide) ?_
    refine lv_iadd hx hb dL_law_155 ?_
    refine lv_topi (fun v11 ev11 => ?_)
    obtain rfl : v11 = nI (i5 + 1) := ev11.trans (nI_add i5 1)
    refine va_sld hx hb hX hbl hbA hS (vp_in_nI (by omega) (by omega)) dL_law_156 ?_
    rw [ha1]
    refine lv_aload_n hx hb dL_law_157 rfl (lv_at hl 5 rfl) ?_
    refine lv_iload hx hb dL_law_158 (lv_at hl 1 rfl) ?_
    refine lv_iconst (v := 2) hx hb dL_law_160 (by decide) ?_
    refine lv_iadd hx hb dL_law_161 ?_
    refine lv_topi (fun v12 ev12 => ?_)
    obtain rfl : v12 = nI (i5 + 2) := ev12.trans (nI_add i5 2)
    refine va_sld hx hb hX hbl hbA hS (vp_in_nI (by omega) (by omega)) dL_law_162 ?_
    rw [ha2]
    refine lv_aload_n hx hb dL_law_163 rfl (lv_at hl 5 rfl) ?_
    refine lv_iload hx hb dL_law_164 (lv_at hl 1 rfl) ?_
    refine lv_iconst (v := 3) hx hb dL_law_166 (by decide) ?_
    refine lv_iadd hx hb dL_law_167 ?_
    refine lv_topi (fun v13 ev13 => ?_)
    obtain rfl : v13 = nI (i5 + 3) := ev13.trans (nI_add i5 3)
    refine va_sld hx hb hX hbl hbA hS (vp_in_nI (by omega) (by omega)) dL_law_168 ?_
    rw [ha3]
    refine lv_aload_n hx hb dL_law_169 rfl (lv_at hl 5 rfl) ?_
    refine lv_iload hx hb dL_law_170 (lv_at hl 1 rfl) ?_
    refine lv_iconst (v := 4) hx hb dL_law_172 (by decide) ?_
    refine lv_iadd hx hb dL_law_173 ?_
    refine lv_topi (fun v14 ev14 => ?_)
    obtain rfl : v14 = nI (i5 + 4) := ev14.trans (nI_add i5 4)
    refine va_sld hx hb hX hbl hbA hS (vp_in_nI (by omega) (by omega)) dL_law_174 ?_
    rw [ha4]
    refine lv_if_eq (tgt := 182) hx hb dL_law_175 (by decide) (fun c15 => ?_) (fun c15 => ?_)
    · skip
      exact absurd c15 c5
    · skip
      refine lv_iconst (v := 1) hx hb dL_law_178 (by decide) ?_
      refine lv_goto (tgt := 183) hx hb dL_law_179 (by decide) ?_
      refine zc2v (va_runV (As := [.int a1, .int a2, .int a3, .int 1]) (rest := []) ⟨hx, hb, hml, hown, hts⟩ (c_X7_frame l dC dI cy G2 S2 H.size mo ad a1 a2 a3 1 hM.1 hM.2.1 hM.2.2.1 hM.2.2.2) (cwV 4 hts gL_law_X7_frame rfl rfl rfl (by decide +kernel) ⟨Nat.le_of_ble_eq_true rfl, Nat.le_of_ble_eq_true rfl⟩) (zpreV hK hP2 hD2 hN (zrecv7 hK hP2 hM.1.1)) rfl rfl hl.1 rfl (lv_room (Nat.le_of_ble_eq_true rfl)) dL_law_183 ⟨by show _ ≤ 601024; omega, by show _ ≤ 7293034; omega⟩) hS hD2 hA hP1 hAp.symm (fun T2 H locs hm hP2 hD2 hP1 hAp hS => ?_)
      have hAp := hAp.symm
      obtain ⟨hC2, hM2, ⟨hR2, hY2⟩, he2⟩ := s_frame (T1 := S1) hC hM hR hw hm hY (by decide)
      refine lv_goto (tgt := 791) hx hb dL_law_186 (by decide) ?_
      refine W.widen (k := cells + 3) (n := slots + 25) (by omega) (by omega) ?_
      exact kk _ _ _ _ _ _ ⟨⟨hP1, hD1, hP2, hD2, hAp⟩, hS, hC2, hM2, hR2, hY2⟩ (lv_sub hl [1, 2, 3, 4, 5] rfl)
set_option maxHeartbeats 4000000 in
set_option maxRecDepth 100000 in
theorem q_listen {p : Program} {l : Launch} {e : Env} {s : State} {m : MethodId} {args : Array Value} {below : List Frame} {meth : Method} {c : Code} {H : Heap} {locs : List Loc} {cells slots : Nat} {Q : State → Prop} {ls : Array Slot} {dC : Nat → ClassId} {dI : Nat → Nat → Nat} {cy : Nat → ClassId} {A : Nat → Prop} {b L : Nat} {xs : Nat → Int32} {x f n sc ia na d ka va o mo : Nat} {ad : Nat → Nat} {G1 G2 : zG} {S1 S2 : zS} {i5 : Nat} {a1 a2 a3 a4 : Int32} (C : zLc p l s m args c dC dI cy A b L xs) (hi5 : i5 + 5 ≤ L) (ha1 : xs (nI (i5 + 1)).toNatClampNeg = a1) (ha2 : xs (nI (i5 + 2)).toNatClampNeg = a2) (ha3 : xs (nI (i5 + 3)).toNatClampNeg = a3) (ha4 : xs (nI (i5 + 4)).toNatClampNeg = a4) (hce : cells + 3 ≤ 601024) (hse : slots + 25 ≤ 7293034) (h : zLw dC dI cy s A x f n sc ia na d ka va o mo ad G1 S1 G2 S2 H locs)
    (hl : lv_has ls 7 [(4, .int (nI i5)), (3, .ref o), (2, .ref mo), (1, .ref x), (0, .ref b)]) (kk : ∀ (G1' : zG) (S1' S2' : zS) (H' : Heap) (locs' : List Loc) (ls' : Array Slot), zLw dC dI cy s A x f n sc ia na d ka va o mo ad G1' S1' G2 S2' H' locs' → lv_has ls' 7 [(4, .int (nI i5)), (3, .ref o), (2, .ref mo), (1, .ref x), (0, .ref b)] → W p l e room_1 s m args below meth c H' locs' (cells + 3) (slots + 25) Q (F0 m 791 ls' [])) : W p l e room_1 s m args below meth c H locs cells slots Q (F0 m 189 ls []) := by
  obtain ⟨⟨hx, hb, hml, hown, hts⟩, ⟨hX, hbl, hbA, hL⟩, hA, hK, hN, hE, hNc, hlt⟩ := C
  obtain ⟨⟨hP1, hD1, hP2, hD2, hAp⟩, hS, hC, hM, hR, hY⟩ := h
  refine lv_aload_n hx hb dL_law_189 rfl (lv_at hl 3 rfl) ?_
  refine lv_aload_n hx hb dL_law_190 rfl (lv_at hl 4 rfl) ?_
  refine lv_iload hx hb dL_law_191 (lv_at hl 0 rfl) ?_
  refine lv_iconst (v := 1) hx hb dL_law_193 (by decide) ?_
  refine lv_iadd hx hb dL_law_194 ?_
  refine lv_topi (fun v1 ev1 => ?_)
  obtain rfl : v1 = nI (i5 + 1) := ev1.trans (nI_add i5 1)
  refine va_sld hx hb hX hbl hbA hS (vp_in_nI (by omega) (by omega)) dL_law_195 ?_
  rw [ha1]
  refine lv_aload_n hx hb dL_law_196 rfl (lv_at hl 4 rfl) ?_
  refine lv_iload hx hb dL_law_197 (lv_at hl 0 rfl) ?_
  refine lv_iconst (v := 2) hx hb dL_law_199 (by decide) ?_
  refine lv_iadd hx hb dL_law_200 ?_
  refine lv_topi (fun v2 ev2 => ?_)
  obtain rfl : v2 = nI (i5 + 2) := ev2.trans (nI_add i5 2)
  refine va_sld hx hb hX hbl hbA hS (vp_in_nI (by omega) (by omega)) dL_law_201 ?_
  rw [ha2]
  refine lv_aload_n hx hb dL_law_202 rfl (lv_at hl 4 rfl) ?_
  refine lv_iload hx hb dL_law_203 (lv_at hl 0 rfl) ?_
  refine lv_iconst (v := 3) hx hb dL_law_205 (by decide) ?_
  refine lv_iadd hx hb dL_law_206 ?_
  refine lv_topi (fun v3 ev3 => ?_)
  obtain rfl : v3 = nI (i5 + 3) := ev3.trans (nI_add i5 3)
  refine va_sld hx hb hX hbl hbA hS (vp_in_nI (by omega) (by omega)) dL_law_207 ?_
  rw [ha3]
  refine lv_if_eq (tgt := 215) hx hb dL_law_208 (by decide) (fun c4 => ?_) (fun c4 => ?_)
  · skip
    refine lv_iconst (v := 0) hx hb dL_law_215 (by decide) ?_
    refine lv_aload_n hx hb dL_law_216 rfl (lv_at hl 1 rfl) ?_
    refine zc2i (vx_runSW (As := [.ref x, .int a1, .int a2, .int 0, .ref o]) (rest := []) ⟨hx, hb, hml, hown, hts⟩ (w_L_listen l hlt dC dI cy G1 S1 H.size x f n sc ia na d ka va a1 a2 0 o hC.1 hC.2.1.1 hC.2.1.2) (vx_cwSW 5 hts gL_law_L_listen rfl rfl rfl (by decide +kernel) ⟨Nat.le_of_ble_eq_true rfl, Nat.le_of_ble_eq_true rfl⟩) (zpreSy hK hP1 hD1 hN hE hS hA hNc) rfl rfl hl.1 rfl (lv_room (Nat.le_of_ble_eq_true rfl)) dL_law_217 ⟨by show _ ≤ 601024; omega, by show _ ≤ 7293034; omega⟩) hS hD1 hA hP2 hAp (fun k9 T1 H locs hw hP1 hD1 hP2 hAp hS => ?_)
    refine lv_istore (lv' := [(5, .int k9), (4, .int (nI i5)), (3, .ref o), (2, .ref mo), (1, .ref x), (0, .ref b)]) hx hb dL_law_220 hl (by decide) rfl (fun ls hl => ?_)
    refine lv_aload_n hx hb dL_law_222 rfl (lv_at hl 3 rfl) ?_
    refine lv_aload_n hx hb dL_law_223 rfl (lv_at hl 5 rfl) ?_
    refine lv_iload hx hb dL_law_224 (lv_at hl 1 rfl) ?_
    refine lv_iconst (v := 1) hx hb dL_law_226 (by decide) ?_
    refine lv_iadd hx hb dL_law_227 ?_
    refine lv_topi (fun v5 ev5 => ?_)
    obtain rfl : v5 = nI (i5 + 1) := ev5.trans (nI_add i5 1)
    refine va_sld hx hb hX hbl hbA hS (vp_in_nI (by omega) (by omega)) dL_law_228 ?_
    rw [ha1]
    refine lv_aload_n hx hb dL_law_229 rfl (lv_at hl 5 rfl) ?_
    refine lv_iload hx hb dL_law_230 (lv_at hl 1 rfl) ?_
    refine lv_iconst (v := 2) hx hb dL_law_232 (by decide) ?_
    refine lv_iadd hx hb dL_law_233 ?_
    refine lv_topi (fun v6 ev6 => ?_)
    obtain rfl : v6 = nI (i5 + 2) := ev6.trans (nI_add i5 2)
    refine va_sld hx hb hX hbl hbA hS (vp_in_nI (by omega) (by omega)) dL_law_234 ?_
    rw [ha2]
    refine lv_aload_n hx hb dL_law_235 rfl (lv_at hl 5 rfl) ?_
    refine lv_iload hx hb dL_law_236 (lv_at hl 1 rfl) ?_
    refine lv_iconst (v := 3) hx hb dL_law_238 (by decide) ?_
    refine lv_iadd hx hb dL_law_239 ?_
    refine lv_topi (fun v7 ev7 => ?_)
    obtain rfl : v7 = nI (i5 + 3) := ev7.trans (nI_add i5 3)
    refine va_sld hx hb hX hbl hbA hS (vp_in_nI (by omega) (by omega)) dL_law_240 ?_
    rw [ha3]
    refine lv_if_eq (tgt := 248) hx hb dL_law_241 (by decide) (fun c8 => ?_) (fun c8 => ?_)
    · skip
      refine lv_iconst (v := 0) hx hb dL_law_248 (by decide) ?_
      refine zc2i (va_runV (As := [.int a1, .int a2, .int 0]) (rest := []) ⟨hx, hb, hml, hown, hts⟩ (c_X7_listen l dC dI cy G2 S2 H.size mo ad a1 a2 0 hM.1 hM.2.1 hM.2.2.1) (cwV 3 hts gL_law_X7_listen rfl rfl rfl (by decide +kernel) ⟨Nat.le_of_ble_eq_true rfl, Nat.le_of_ble_eq_true rfl⟩) (zpreV hK hP2 hD2 hN (zrecv7 hK hP2 hM.1.1)) rfl rfl hl.1 rfl (lv_room (Nat.le_of_ble_eq_true rfl)) dL_law_249 ⟨by show _ ≤ 601024; omega, by show _ ≤ 7293034; omega⟩) hS hD2 hA hP1 hAp.symm (fun r2 T2 H locs hm hP2 hD2 hP1 hAp hS => ?_)
      have hAp := hAp.symm
      obtain ⟨hC2, hM2, ⟨hR2, hY2⟩, he2, ho2⟩ := s_listen hC hM hR hY hw hm (by decide)
      refine lv_istore (lv' := [(6, .int r2), (5, .int k9), (4, .int (nI i5)), (3, .ref o), (2, .ref mo), (1, .ref x), (0, .ref b)]) hx hb dL_law_252 hl (by decide) rfl (fun ls hl => ?_)
      refine lv_aload_n hx hb dL_law_254 rfl (lv_at hl 4 rfl) ?_
      refine vp_callSi (va_Run.run (va_runV (As := []) (rest := []) ⟨hx, hb, hml, hown, hts⟩ (c_X7_thrown l dC dI cy G2 T2 H.size mo ad hM2.1) (cwV 0 hts gL_law_X7_thrown rfl rfl rfl (by decide +kernel) ⟨Nat.le_of_ble_eq_true rfl, Nat.le_of_ble_eq_true rfl⟩) (zpreV hK hP2 hD2 hN (zrecv7 hK hP2 hM2.1.1)) rfl rfl hl.1 rfl (lv_room (Nat.le_of_ble_eq_true rfl)) dL_law_255 ⟨by show _ ≤ 601024; omega, by show _ ≤ 7293034; omega⟩)) (fun r9 hr9 => ?_)
      refine lv_iload hx hb dL_law_258 (lv_at hl 1 rfl) ?_
      refine lv_icmp_eq (tgt := 265) hx hb dL_law_260 (by decide) (fun c9 => ?_) (fun c9 => ?_)
      · skip
        refine lv_iload hx hb dL_law_265 (lv_at hl 1 rfl) ?_
        refine lv_if_ne (tgt := 289) hx hb dL_law_267 (by decide) (fun c10 => ?_) (fun c10 => ?_)
        · skip
          refine lv_goto (tgt := 791) hx hb dL_law_289 (by decide) ?_
          refine W.widen (k := cells + 3) (n := slots + 25) (by omega) (by omega) ?_
          exact kk _ _ _ _ _ _ ⟨⟨hP1, hD1, hP2, hD2, hAp⟩, hS, hC2, hM2, hR2, hY2⟩ (lv_sub hl [2, 3, 4, 5, 6] rfl)
        · skip
          refine lv_aload_n hx hb dL_law_270 rfl (lv_at hl 3 rfl) ?_
          refine lv_iconst (v := 0) hx hb dL_law_271 (by decide) ?_
          have hP := hP1
          refine zlald hx hb hK hP hC2.2.1.1 hC2.2.1.2 (by unfold vp_in; decide) dL_law_272 ?_
          refine lv_topl (fun v11 ev11 => ?_)
          refine lv_iload hx hb dL_law_273 (lv_at hl 0 rfl) ?_
          refine lv_if_eq (tgt := 282) hx hb dL_law_275 (by decide) (fun c12 => ?_) (fun c12 => ?_)
          · skip
            refine lv_lconst (v := 0) hx hb dL_law_282 (by decide) ?_
            refine W.lcmp hx hb dL_law_283 ?_
            refine lv_topi (fun v13 ev13 => ?_)
            refine lv_if_eq (tgt := 289) hx hb dL_law_284 (by decide) (fun c14 => ?_) (fun c14 => ?_)
            · skip
              refine lv_goto (tgt := 791) hx hb dL_law_289 (by decide) ?_
              refine W.widen (k := cells + 3) (n := slots + 25) (by omega) (by omega) ?_
              exact kk _ _ _ _ _ _ ⟨⟨hP1, hD1, hP2, hD2, hAp⟩, hS, hC2, hM2, hR2, hY2⟩ (lv_sub hl [2, 3, 4, 5, 6] rfl)
            · skip
              exact absurd (ev13.trans (zcmp0 (ev11.trans ((ho2 c10).trans (if_pos c12))))) c14
          · skip
            refine lv_lconst (v := 1) hx hb dL_law_278 (by decide) ?_
            refine lv_goto (tgt := 283) hx hb dL_law_279 (by decide) ?_
            refine W.lcmp hx hb dL_law_283 ?_
            refine lv_topi (fun v15 ev15 => ?_)
            refine lv_if_eq (tgt := 289) hx hb dL_law_284 (by decide) (fun c16 => ?_) (fun c16 => ?_)
            · skip
              refine lv_goto (tgt := 791) hx hb dL_law_289 (by decide) ?_
              refine W.widen (k := cells + 3) (n := slots + 25) (by omega) (by omega) ?_
              exact kk _ _ _ _ _ _ ⟨⟨hP1, hD1, hP2, hD2, hAp⟩, hS, hC2, hM2, hR2, hY2⟩ (lv_sub hl [2, 3, 4, 5, 6] rfl)
            · skip
              exact absurd (ev15.trans (zcmp0 (ev11.trans ((ho2 c10).trans (if_neg c12))))) c16
      · skip
        exact absurd (hr9.trans he2) c9
    · skip
      exact absurd c4 c8
  · skip
    refine lv_iconst (v := 1) hx hb dL_law_211 (by decide) ?_
    refine lv_goto (tgt := 216) hx hb dL_law_212 (by decide) ?_
    refine lv_aload_n hx hb dL_law_216 rfl (lv_at hl 1 rfl) ?_
    refine zc2i (vx_runSW (As := [.ref x, .int a1, .int a2, .int 1, .ref o]) (rest := []) ⟨hx, hb, hml, hown, hts⟩ (w_L_listen l hlt dC dI cy G1 S1 H.size x f n sc ia na d ka va a1 a2 1 o hC.1 hC.2.1.1 hC.2.1.2) (vx_cwSW 5 hts gL_law_L_listen rfl rfl rfl (by decide +kernel) ⟨Nat.le_of_ble_eq_true rfl, Nat.le_of_ble_eq_true rfl⟩) (zpreSy hK hP1 hD1 hN hE hS hA hNc) rfl rfl hl.1 rfl (lv_room (Nat.le_of_ble_eq_true rfl)) dL_law_217 ⟨by show _ ≤ 601024; omega, by show _ ≤ 7293034; omega⟩) hS hD1 hA hP2 hAp (fun k9 T1 H locs hw hP1 hD1 hP2 hAp hS => ?_)
    refine lv_istore (lv' := [(5, .int k9), (4, .int (nI i5)), (3, .ref o), (2, .ref mo), (1, .ref x), (0, .ref b)]) hx hb dL_law_220 hl (by decide) rfl (fun ls hl => ?_)
    refine lv_aload_n hx hb dL_law_222 rfl (lv_at hl 3 rfl) ?_
    refine lv_aload_n hx hb dL_law_223 rfl (lv_at hl 5 rfl) ?_
    refine lv_iload hx hb dL_law_224 (lv_at hl 1 rfl) ?_
    refine lv_iconst (v := 1) hx hb dL_law_226 (by decide) ?_
    refine lv_iadd hx hb dL_law_227 ?_
    refine lv_topi (fun v17 ev17 => ?_)
    obtain rfl : v17 = nI (i5 + 1) := ev17.trans (nI_add i5 1)
    refine va_sld hx hb hX hbl hbA hS (vp_in_nI (by omega) (by omega)) dL_law_228 ?_
    rw [ha1]
    refine lv_aload_n hx hb dL_law_229 rfl (lv_at hl 5 rfl) ?_
    refine lv_iload hx hb dL_law_230 (lv_at hl 1 rfl) ?_
    refine lv_iconst (v := 2) hx hb dL_law_232 (by decide) ?_
    refine lv_iadd hx hb dL_law_233 ?_
    refine lv_topi (fun v18 ev18 => ?_)
    obtain rfl : v18 = nI (i5 + 2) := ev18.trans (nI_add i5 2)
    refine va_sld hx hb hX hbl hbA hS (vp_in_nI (by omega) (by omega)) dL_law_234 ?_
    rw [ha2]
    refine lv_aload_n hx hb dL_law_235 rfl (lv_at hl 5 rfl) ?_
    refine lv_iload hx hb dL_law_236 (lv_at hl 1 rfl) ?_
    refine lv_iconst (v := 3) hx hb dL_law_238 (by decide) ?_
    refine lv_iadd hx hb dL_law_239 ?_
    refine lv_topi (fun v19 ev19 => ?_)
    obtain rfl : v19 = nI (i5 + 3) := ev19.trans (nI_add i5 3)
    refine va_sld hx hb hX hbl hbA hS (vp_in_nI (by omega) (by omega)) dL_law_240 ?_
    rw [ha3]
    refine lv_if_eq (tgt := 248) hx hb dL_law_241 (by decide) (fun c20 => ?_) (fun c20 => ?_)
    · skip
      exact absurd c20 c4
    · skip
      refine lv_iconst (v := 1) hx hb dL_law_244 (by decide) ?_
      refine lv_goto (tgt := 249) hx hb dL_law_245 (by decide) ?_
      refine zc2i (va_runV (As := [.int a1, .int a2, .int 1]) (rest := []) ⟨hx, hb, hml, hown, hts⟩ (c_X7_listen l dC dI cy G2 S2 H.size mo ad a1 a2 1 hM.1 hM.2.1 hM.2.2.1) (cwV 3 hts gL_law_X7_listen rfl rfl rfl (by decide +kernel) ⟨Nat.le_of_ble_eq_true rfl, Nat.le_of_ble_eq_true rfl⟩) (zpreV hK hP2 hD2 hN (zrecv7 hK hP2 hM.1.1)) rfl rfl hl.1 rfl (lv_room (Nat.le_of_ble_eq_true rfl)) dL_law_249 ⟨by show _ ≤ 601024; omega, by show _ ≤ 7293034; omega⟩) hS hD2 hA hP1 hAp.symm (fun r2 T2 H locs hm hP2 hD2 hP1 hAp hS => ?_)
      have hAp := hAp.symm
      obtain ⟨hC2, hM2, ⟨hR2, hY2⟩, he2, ho2⟩ := s_listen hC hM hR hY hw hm (by decide)
      refine lv_istore (lv' := [(6, .int r2), (5, .int k9), (4, .int (nI i5)), (3, .ref o), (2, .ref mo), (1, .ref x), (0, .ref b)]) hx hb dL_law_252 hl (by decide) rfl (fun ls hl => ?_)
      refine lv_aload_n hx hb dL_law_254 rfl (lv_at hl 4 rfl) ?_
      refine vp_callSi (va_Run.run (va_runV (As := []) (rest := []) ⟨hx, hb, hml, hown, hts⟩ (c_X7_thrown l dC dI cy G2 T2 H.size mo ad hM2.1) (cwV 0 hts gL_law_X7_thrown rfl rfl rfl (by decide +kernel) ⟨Nat.le_of_ble_eq_true rfl, Nat.le_of_ble_eq_true rfl⟩) (zpreV hK hP2 hD2 hN (zrecv7 hK hP2 hM2.1.1)) rfl rfl hl.1 rfl (lv_room (Nat.le_of_ble_eq_true rfl)) dL_law_255 ⟨by show _ ≤ 601024; omega, by show _ ≤ 7293034; omega⟩)) (fun r9 hr9 => ?_)
      refine lv_iload hx hb dL_law_258 (lv_at hl 1 rfl) ?_
      refine lv_icmp_eq (tgt := 265) hx hb dL_law_260 (by decide) (fun c21 => ?_) (fun c21 => ?_)
      · skip
        refine lv_iload hx hb dL_law_265 (lv_at hl 1 rfl) ?_
        refine lv_if_ne (tgt := 289) hx hb dL_law_267 (by decide) (fun c22 => ?_) (fun c22 => ?_)
        · skip
          refine lv_goto (tgt := 791) hx hb dL_law_289 (by decide) ?_
          refine W.widen (k := cells + 3) (n := slots + 25) (by omega) (by omega) ?_
          exact kk _ _ _ _ _ _ ⟨⟨hP1, hD1, hP2, hD2, hAp⟩, hS, hC2, hM2, hR2, hY2⟩ (lv_sub hl [2, 3, 4, 5, 6] rfl)
        · skip
          refine lv_aload_n hx hb dL_law_270 rfl (lv_at hl 3 rfl) ?_
          refine lv_iconst (v := 0) hx hb dL_law_271 (by decide) ?_
          have hP := hP1
          refine zlald hx hb hK hP hC2.2.1.1 hC2.2.1.2 (by unfold vp_in; decide) dL_law_272 ?_
          refine lv_topl (fun v23 ev23 => ?_)
          refine lv_iload hx hb dL_law_273 (lv_at hl 0 rfl) ?_
          refine lv_if_eq (tgt := 282) hx hb dL_law_275 (by decide) (fun c24 => ?_) (fun c24 => ?_)
          · skip
            refine lv_lconst (v := 0) hx hb dL_law_282 (by decide) ?_
            refine W.lcmp hx hb dL_law_283 ?_
            refine lv_topi (fun v25 ev25 => ?_)
            refine lv_if_eq (tgt := 289) hx hb dL_law_284 (by decide) (fun c26 => ?_) (fun c26 => ?_)
            · skip
              refine lv_goto (tgt := 791) hx hb dL_law_289 (by decide) ?_
              refine W.widen (k := cells + 3) (n := slots + 25) (by omega) (by omega) ?_
              exact kk _ _ _ _ _ _ ⟨⟨hP1, hD1, hP2, hD2, hAp⟩, hS, hC2, hM2, hR2, hY2⟩ (lv_sub hl [2, 3, 4, 5, 6] rfl)
            · skip
              exact absurd (ev25.trans (zcmp0 (ev23.trans ((ho2 c22).trans (if_pos c24))))) c26
          · skip
            refine lv_lconst (v := 1) hx hb dL_law_278 (by decide) ?_
            refine lv_goto (tgt := 283) hx hb dL_law_279 (by decide) ?_
            refine W.lcmp hx hb dL_law_283 ?_
            refine lv_topi (fun v27 ev27 => ?_)
            refine lv_if_eq (tgt := 289) hx hb dL_law_284 (by decide) (fun c28 => ?_) (fun c28 => ?_)
            · skip
              refine lv_goto (tgt := 791) hx hb dL_law_289 (by decide) ?_
              refine W.widen (k := cells + 3) (n := slots + 25) (by omega) (by omega) ?_
              exact kk _ _ _ _ _ _ ⟨⟨hP1, hD1, hP2, hD2, hAp⟩, hS, hC2, hM2, hR2, hY2⟩ (lv_sub hl [2, 3, 4, 5, 6] rfl)
            · skip
              exact absurd (ev27.trans (zcmp0 (ev23.trans ((ho2 c22).trans (if_neg c24))))) c28
      · skip
        exact absurd (hr9.trans he2) c21
set_option maxHeartbeats 4000000 in
set_option maxRecDepth 100000 in
theorem q_status {p : Program} {l : Launch} {e : Env} {s : State} {m : MethodId} {args : Array Value} {below : List Frame} {meth : Method} {c : Code} {H : Heap} {locs : List Loc} {cells slots : Nat} {Q : State → Prop} {ls : Array Slot} {dC : Nat → ClassId} {dI : Nat → Nat → Nat} {cy : Nat → ClassId} {A : Nat → Prop} {b L : Nat} {xs : Nat → Int32} {x f n sc ia na d ka va o mo : Nat} {ad : Nat → Nat} {G1 G2 : zG} {S1 S2 : zS} {i5 : Nat} {a1 a2 a3 a4 : Int32} (C : zLc p l s m args c dC dI cy A b L xs) (hi5 : i5 + 5 ≤ L) (ha1 : xs (nI (i5 + 1)).toNatClampNeg = a1) (ha2 : xs (nI (i5 + 2)).toNatClampNeg = a2) (ha3 : xs (nI (i5 + 3)).toNatClampNeg = a3) (ha4 : xs (nI (i5 + 4)).toNatClampNeg = a4) (hce : cells + 3 ≤ 601024) (hse : slots + 25 ≤ 7293034) (h : zLw dC dI cy s A x f n sc ia na d ka va o mo ad G1 S1 G2 S2 H locs)
    (hl : lv_has ls 7 [(4, .int (nI i5)), (3, .ref o), (2, .ref mo), (1, .ref x), (0, .ref b)]) (kk : ∀ (G1' : zG) (S1' S2' : zS) (H' : Heap) (locs' : List Loc) (ls' : Array Slot), zLw dC dI cy s A x f n sc ia na d ka va o mo ad G1' S1' G2 S2' H' locs' → lv_has ls' 7 [(4, .int (nI i5)), (3, .ref o), (2, .ref mo), (1, .ref x), (0, .ref b)] → W p l e room_1 s m args below meth c H' locs' (cells + 3) (slots + 25) Q (F0 m 791 ls' [])) : W p l e room_1 s m args below meth c H locs cells slots Q (F0 m 292 ls []) := by
  obtain ⟨⟨hx, hb, hml, hown, hts⟩, ⟨hX, hbl, hbA, hL⟩, hA, hK, hN, hE, hNc, hlt⟩ := C
  obtain ⟨⟨hP1, hD1, hP2, hD2, hAp⟩, hS, hC, hM, hR, hY⟩ := h
  refine lv_aload_n hx hb dL_law_292 rfl (lv_at hl 3 rfl) ?_
  refine lv_aload_n hx hb dL_law_293 rfl (lv_at hl 4 rfl) ?_
  refine lv_iload hx hb dL_law_294 (lv_at hl 0 rfl) ?_
  refine lv_iconst (v := 1) hx hb dL_law_296 (by decide) ?_
  refine lv_iadd hx hb dL_law_297 ?_
  refine lv_topi (fun v1 ev1 => ?_)
  obtain rfl : v1 = nI (i5 + 1) := ev1.trans (nI_add i5 1)
  refine va_sld hx hb hX hbl hbA hS (vp_in_nI (by omega) (by omega)) dL_law_298 ?_
  rw [ha1]
  refine lv_aload_n hx hb dL_law_299 rfl (lv_at hl 4 rfl) ?_
  refine lv_iload hx hb dL_law_300 (lv_at hl 0 rfl) ?_
  refine lv_iconst (v := 2) hx hb dL_law_302 (by decide) ?_
  refine lv_iadd hx hb dL_law_303 ?_
  refine lv_topi (fun v2 ev2 => ?_)
  obtain rfl : v2 = nI (i5 + 2) := ev2.trans (nI_add i5 2)
  refine va_sld hx hb hX hbl hbA hS (vp_in_nI (by omega) (by omega)) dL_law_304 ?_
  rw [ha2]
  refine lv_aload_n hx hb dL_law_305 rfl (lv_at hl 4 rfl) ?_
  refine lv_iload hx hb dL_law_306 (lv_at hl 0 rfl) ?_
  refine lv_iconst (v := 3) hx hb dL_law_308 (by decide) ?_
  refine lv_iadd hx hb dL_law_309 ?_
  refine lv_topi (fun v3 ev3 => ?_)
  obtain rfl : v3 = nI (i5 + 3) := ev3.trans (nI_add i5 3)
  refine va_sld hx hb hX hbl hbA hS (vp_in_nI (by omega) (by omega)) dL_law_310 ?_
  rw [ha3]
  refine lv_aload_n hx hb dL_law_311 rfl (lv_at hl 4 rfl) ?_
  refine lv_iload hx hb dL_law_312 (lv_at hl 0 rfl) ?_
  refine lv_iconst (v := 4) hx hb dL_law_314 (by decide) ?_
  refine lv_iadd hx hb dL_law_315 ?_
  refine lv_topi (fun v4 ev4 => ?_)
  obtain rfl : v4 = nI (i5 + 4) := ev4.trans (nI_add i5 4)
  refine va_sld hx hb hX hbl hbA hS (vp_in_nI (by omega) (by omega)) dL_law_316 ?_
  rw [ha4]
  refine zc2i (vx_runSW (As := [.ref x, .int a1, .int a2, .int a3, .int a4]) (rest := []) ⟨hx, hb, hml, hown, hts⟩ (w_L_status l hlt dC dI cy G1 S1 H.size x f n sc ia na d ka va a1 a2 a3 a4 hC.1) (vx_cwSW 5 hts gL_law_L_status rfl rfl rfl (by decide +kernel) ⟨Nat.le_of_ble_eq_true rfl, Nat.le_of_ble_eq_true rfl⟩) (zpreSy hK hP1 hD1 hN hE hS hA hNc) rfl rfl hl.1 rfl (lv_room (Nat.le_of_ble_eq_true rfl)) dL_law_317 ⟨by show _ ≤ 601024; omega, by show _ ≤ 7293034; omega⟩) hS hD1 hA hP2 hAp (fun k9 T1 H locs hw hP1 hD1 hP2 hAp hS => ?_)
  refine lv_istore (lv' := [(5, .int k9), (4, .int (nI i5)), (3, .ref o), (2, .ref mo), (1, .ref x), (0, .ref b)]) hx hb dL_law_320 hl (by decide) rfl (fun ls hl => ?_)
  refine lv_aload_n hx hb dL_law_322 rfl (lv_at hl 3 rfl) ?_
  refine lv_aload_n hx hb dL_law_323 rfl (lv_at hl 5 rfl) ?_
  refine lv_iload hx hb dL_law_324 (lv_at hl 1 rfl) ?_
  refine lv_iconst (v := 1) hx hb dL_law_326 (by decide) ?_
  refine lv_iadd hx hb dL_law_327 ?_
  refine lv_topi (fun v5 ev5 => ?_)
  obtain rfl : v5 = nI (i5 + 1) := ev5.trans (nI_add i5 1)
  refine va_sld hx hb hX hbl hbA hS (vp_in_nI (by omega) (by omega)) dL_law_328 ?_
  rw [ha1]
  refine lv_aload_n hx hb dL_law_329 rfl (lv_at hl 5 rfl) ?_
  refine lv_iload hx hb dL_law_330 (lv_at hl 1 rfl) ?_
  refine lv_iconst (v := 2) hx hb dL_law_332 (by decide) ?_
  refine lv_iadd hx hb dL_law_333 ?_
  refine lv_topi (fun v6 ev6 => ?_)
  obtain rfl : v6 = nI (i5 + 2) := ev6.trans (nI_add i5 2)
  refine va_sld hx hb hX hbl hbA hS (vp_in_nI (by omega) (by omega)) dL_law_334 ?_
  rw [ha2]
  refine lv_aload_n hx hb dL_law_335 rfl (lv_at hl 5 rfl) ?_
  refine lv_iload hx hb dL_law_336 (lv_at hl 1 rfl) ?_
  refine lv_iconst (v := 3) hx hb dL_law_338 (by decide) ?_
  refine lv_iadd hx hb dL_law_339 ?_
  refine lv_topi (fun v7 ev7 => ?_)
  obtain rfl : v7 = nI (i5 + 3) := ev7.trans (nI_add i5 3)
  refine va_sld hx hb hX hbl hbA hS (vp_in_nI (by omega) (by omega)) dL_law_340 ?_
  rw [ha3]
  refine lv_aload_n hx hb dL_law_341 rfl (lv_at hl 5 rfl) ?_
  refine lv_iload hx hb dL_law_342 (lv_at hl 1 rfl) ?_
  refine lv_iconst (v := 4) hx hb dL_law_344 (by decide) ?_
  refine lv_iadd hx hb dL_law_345 ?_
  refine lv_topi (fun v8 ev8 => ?_)
  obtain rfl : v8 = nI (i5 + 4) := ev8.trans (nI_add i5 4)
  refine va_sld hx hb hX hbl hbA hS (vp_in_nI (by omega) (by omega)) dL_law_346 ?_
  rw [ha4]
  refine zc2v (va_runV (As := [.int a1, .int a2, .int a3, .int a4]) (rest := []) ⟨hx, hb, hml, hown, hts⟩ (c_X7_status l dC dI cy G2 S2 H.size mo ad a1 a2 a3 a4 hM.1 hM.2.1) (cwV 4 hts gL_law_X7_status rfl rfl rfl (by decide +kernel) ⟨Nat.le_of_ble_eq_true rfl, Nat.le_of_ble_eq_true rfl⟩) (zpreV hK hP2 hD2 hN (zrecv7 hK hP2 hM.1.1)) rfl rfl hl.1 rfl (lv_room (Nat.le_of_ble_eq_true rfl)) dL_law_347 ⟨by show _ ≤ 601024; omega, by show _ ≤ 7293034; omega⟩) hS hD2 hA hP1 hAp.symm (fun T2 H locs hm hP2 hD2 hP1 hAp hS => ?_)
  have hAp := hAp.symm
  obtain ⟨hC2, hM2, hR2, he2⟩ := s_status hC hM hR hw hm
  have hY2 := hY.vy (v_status (v := a1) (id := a2) (b := a3) (k := a4) hC hw) (hm.1.1.2.1 4 (by decide) (by decide)) (hm.1.1.2.1 5 (by decide) (by decide)) (hm.1.1.2.1 6 (by decide) (by decide))
  refine lv_goto (tgt := 791) hx hb dL_law_350 (by decide) ?_
  refine W.widen (k := cells + 3) (n := slots + 25) (by omega) (by omega) ?_
  exact kk _ _ _ _ _ _ ⟨⟨hP1, hD1, hP2, hD2, hAp⟩, hS, hC2, hM2, hR2, hY2⟩ (lv_sub hl [1, 2, 3, 4, 5] rfl)
set_option maxHeartbeats 4000000 in
set_option maxRecDepth 100000 in
theorem q_space {p : Program} {l : Launch} {e : Env} {s : State} {m : MethodId} {args : Array Value} {below : List Frame} {meth : Method} {c : Code} {H : Heap} {locs : List Loc} {cells slots : Nat} {Q : State → Prop} {ls : Array Slot} {dC : Nat → ClassId} {dI : Nat → Nat → Nat} {cy : Nat → ClassId} {A : Nat → Prop} {b L : Nat} {xs : Nat → Int32} {x f n sc ia na d ka va o mo : Nat} {ad : Nat → Nat} {G1 G2 : zG} {S1 S2 : zS} {i5 : Nat} {a1 a2 a3 a4 : Int32} (C : zLc p l s m args c dC dI cy A b L xs) (hi5 : i5 + 5 ≤ L) (ha1 : xs (nI (i5 + 1)).toNatClampNeg = a1) (ha2 : xs (nI (i5 + 2)).toNatClampNeg = a2) (ha3 : xs (nI (i5 + 3)).toNatClampNeg = a3) (ha4 : xs (nI (i5 + 4)).toNatClampNeg = a4) (hce : cells + 3 ≤ 601024) (hse : slots + 25 ≤ 7293034) (h : zLw dC dI cy s A x f n sc ia na d ka va o mo ad G1 S1 G2 S2 H locs)
    (hl : lv_has ls 7 [(4, .int (nI i5)), (3, .ref o), (2, .ref mo), (1, .ref x), (0, .ref b)]) (kk : ∀ (G1' : zG) (S1' S2' : zS) (H' : Heap) (locs' : List Loc) (ls' : Array Slot), zLw dC dI cy s A x f n sc ia na d ka va o mo ad G1' S1' G2 S2' H' locs' → lv_has ls' 7 [(4, .int (nI i5)), (3, .ref o), (2, .ref mo), (1, .ref x), (0, .ref b)] → W p l e room_1 s m args below meth c H' locs' (cells + 3) (slots + 25) Q (F0 m 791 ls' [])) : W p l e room_1 s m args below meth c H locs cells slots Q (F0 m 353 ls []) := by
  obtain ⟨⟨hx, hb, hml, hown, hts⟩, ⟨hX, hbl, hbA, hL⟩, hA, hK, hN, hE, hNc, hlt⟩ := C
  obtain ⟨⟨hP1, hD1, hP2, hD2, hAp⟩, hS, hC, hM, hR, hY⟩ := h
  refine lv_aload_n hx hb dL_law_353 rfl (lv_at hl 3 rfl) ?_
  refine lv_aload_n hx hb dL_law_354 rfl (lv_at hl 4 rfl) ?_
  refine lv_iload hx hb dL_law_355 (lv_at hl 0 rfl) ?_
  refine lv_iconst (v := 1) hx hb dL_law_357 (by decide) ?_
  refine lv_iadd hx hb dL_law_358 ?_
  refine lv_topi (fun v1 ev1 => ?_)
  obtain rfl : v1 = nI (i5 + 1) := ev1.trans (nI_add i5 1)
  refine va_sld hx hb hX hbl hbA hS (vp_in_nI (by omega) (by omega)) dL_law_359 ?_
  rw [ha1]
  refine lv_aload_n hx hb dL_law_360 rfl (lv_at hl 4 rfl) ?_
  refine lv_iload hx hb dL_law_361 (lv_at hl 0 rfl) ?_
  refine lv_iconst (v := 2) hx hb dL_law_363 (by decide) ?_
  refine lv_iadd hx hb dL_law_364 ?_
  refine lv_topi (fun v2 ev2 => ?_)
  obtain rfl : v2 = nI (i5 + 2) := ev2.trans (nI_add i5 2)
  refine va_sld hx hb hX hbl hbA hS (vp_in_nI (by omega) (by omega)) dL_law_365 ?_
  rw [ha2]
  refine lv_aload_n hx hb dL_law_366 rfl (lv_at hl 1 rfl) ?_
  refine zc2i (vx_runSW (As := [.ref x, .int a1, .int a2, .ref o]) (rest := []) ⟨hx, hb, hml, hown, hts⟩ (w_L_space l hlt dC dI cy G1 S1 H.size x f n sc ia na d ka va a1 a2 o hC.1 hC.2.1.1 hC.2.1.2) (vx_cwSW 4 hts gL_law_L_space rfl rfl rfl (by decide +kernel) ⟨Nat.le_of_ble_eq_true rfl, Nat.le_of_ble_eq_true rfl⟩) (zpreSy hK hP1 hD1 hN hE hS hA hNc) rfl rfl hl.1 rfl (lv_room (Nat.le_of_ble_eq_true rfl)) dL_law_367 ⟨by show _ ≤ 601024; omega, by show _ ≤ 7293034; omega⟩) hS hD1 hA hP2 hAp (fun k9 T1 H locs hw hP1 hD1 hP2 hAp hS => ?_)
  refine lv_istore (lv' := [(5, .int k9), (4, .int (nI i5)), (3, .ref o), (2, .ref mo), (1, .ref x), (0, .ref b)]) hx hb dL_law_370 hl (by decide) rfl (fun ls hl => ?_)
  refine lv_aload_n hx hb dL_law_372 rfl (lv_at hl 3 rfl) ?_
  refine lv_aload_n hx hb dL_law_373 rfl (lv_at hl 5 rfl) ?_
  refine lv_iload hx hb dL_law_374 (lv_at hl 1 rfl) ?_
  refine lv_iconst (v := 1) hx hb dL_law_376 (by decide) ?_
  refine lv_iadd hx hb dL_law_377 ?_
  refine lv_topi (fun v3 ev3 => ?_)
  obtain rfl : v3 = nI (i5 + 1) := ev3.trans (nI_add i5 1)
  refine va_sld hx hb hX hbl hbA hS (vp_in_nI (by omega) (by omega)) dL_law_378 ?_
  rw [ha1]
  refine lv_aload_n hx hb dL_law_379 rfl (lv_at hl 5 rfl) ?_
  refine lv_iload hx hb dL_law_380 (lv_at hl 1 rfl) ?_
  refine lv_iconst (v := 2) hx hb dL_law_382 (by decide) ?_
  refine lv_iadd hx hb dL_law_383 ?_
  refine lv_topi (fun v4 ev4 => ?_)
  obtain rfl : v4 = nI (i5 + 2) := ev4.trans (nI_add i5 2)
  refine va_sld hx hb hX hbl hbA hS (vp_in_nI (by omega) (by omega)) dL_law_384 ?_
  rw [ha2]
  refine zc2i (va_runV (As := [.int a1, .int a2]) (rest := []) ⟨hx, hb, hml, hown, hts⟩ (c_X7_space l dC dI cy G2 S2 H.size mo ad a1 a2 hM.1 hM.2.1) (cwV 2 hts gL_law_X7_space rfl rfl rfl (by decide +kernel) ⟨Nat.le_of_ble_eq_true rfl, Nat.le_of_ble_eq_true rfl⟩) (zpreV hK hP2 hD2 hN (zrecv7 hK hP2 hM.1.1)) rfl rfl hl.1 rfl (lv_room (Nat.le_of_ble_eq_true rfl)) dL_law_385 ⟨by show _ ≤ 601024; omega, by show _ ≤ 7293034; omega⟩) hS hD2 hA hP1 hAp.symm (fun r2 T2 H locs hm hP2 hD2 hP1 hAp hS => ?_)
  have hAp := hAp.symm
  obtain ⟨hC2, hM2, hR2, he2, ho2⟩ := s_space hC hM hR hw hm
  have hY2 := hY.vy (v_space (v := a1) (b := a2) hC hw) (hm.1.1.2.1 4 (by decide) (by decide)) (hm.1.1.2.1 5 (by decide) (by decide)) (hm.1.1.2.1 6 (by decide) (by decide))
  refine lv_istore (lv' := [(6, .int r2), (5, .int k9), (4, .int (nI i5)), (3, .ref o), (2, .ref mo), (1, .ref x), (0, .ref b)]) hx hb dL_law_388 hl (by decide) rfl (fun ls hl => ?_)
  refine lv_goto (tgt := 791) hx hb dL_law_390 (by decide) ?_
  refine W.widen (k := cells + 3) (n := slots + 25) (by omega) (by omega) ?_
  exact kk _ _ _ _ _ _ ⟨⟨hP1, hD1, hP2, hD2, hAp⟩, hS, hC2, hM2, hR2, hY2⟩ (lv_sub hl [2, 3, 4, 5, 6] rfl)
set_option maxHeartbeats 4000000 in
set_option maxRecDepth 100000 in
theorem q_slot {p : Program} {l : Launch} {e : Env} {s : State} {m : MethodId} {args : Array Value} {below : List Frame} {meth : Method} {c : Code} {H : Heap} {locs : List Loc} {cells slots : Nat} {Q : State → Prop} {ls : Array Slot} {dC : Nat → ClassId} {dI : Nat → Nat → Nat} {cy : Nat → ClassId} {A : Nat → Prop} {b L : Nat} {xs : Nat → Int32} {x f n sc ia na d ka va o mo : Nat} {ad : Nat → Nat} {G1 G2 : zG} {S1 S2 : zS} {i5 : Nat} {a1 a2 a3 a4 : Int32} (C : zLc p l s m args c dC dI cy A b L xs) (hi5 : i5 + 5 ≤ L) (ha1 : xs (nI (i5 + 1)).toNatClampNeg = a1) (ha2 : xs (nI (i5 + 2)).toNatClampNeg = a2) (ha3 : xs (nI (i5 + 3)).toNatClampNeg = a3) (ha4 : xs (nI (i5 + 4)).toNatClampNeg = a4) (hce : cells + 3 ≤ 601024) (hse : slots + 25 ≤ 7293034) (h : zLw dC dI cy s A x f n sc ia na d ka va o mo ad G1 S1 G2 S2 H locs)
    (hl : lv_has ls 7 [(4, .int (nI i5)), (3, .ref o), (2, .ref mo), (1, .ref x), (0, .ref b)]) (kk : ∀ (G1' : zG) (S1' S2' : zS) (H' : Heap) (locs' : List Loc) (ls' : Array Slot), zLw dC dI cy s A x f n sc ia na d ka va o mo ad G1' S1' G2 S2' H' locs' → lv_has ls' 7 [(4, .int (nI i5)), (3, .ref o), (2, .ref mo), (1, .ref x), (0, .ref b)] → W p l e room_1 s m args below meth c H' locs' (cells + 3) (slots + 25) Q (F0 m 791 ls' [])) : W p l e room_1 s m args below meth c H locs cells slots Q (F0 m 393 ls []) := by
  obtain ⟨⟨hx, hb, hml, hown, hts⟩, ⟨hX, hbl, hbA, hL⟩, hA, hK, hN, hE, hNc, hlt⟩ := C
  obtain ⟨⟨hP1, hD1, hP2, hD2, hAp⟩, hS, hC, hM, hR, hY⟩ := h
  have hsl : ∃ q, q ≤ 16 ∧ S1.1 sc 2 = nI q := by rw [hR.2.1]; exact hM.2.1.2.1
  refine lv_aload_n hx hb dL_law_393 rfl (lv_at hl 3 rfl) ?_
  refine lv_aload_n hx hb dL_law_394 rfl (lv_at hl 4 rfl) ?_
  refine lv_iload hx hb dL_law_395 (lv_at hl 0 rfl) ?_
  refine lv_iconst (v := 1) hx hb dL_law_397 (by decide) ?_
  refine lv_iadd hx hb dL_law_398 ?_
  refine lv_topi (fun v1 ev1 => ?_)
  obtain rfl : v1 = nI (i5 + 1) := ev1.trans (nI_add i5 1)
  refine va_sld hx hb hX hbl hbA hS (vp_in_nI (by omega) (by omega)) dL_law_399 ?_
  rw [ha1]
  refine lv_aload_n hx hb dL_law_400 rfl (lv_at hl 4 rfl) ?_
  refine lv_iload hx hb dL_law_401 (lv_at hl 0 rfl) ?_
  refine lv_iconst (v := 2) hx hb dL_law_403 (by decide) ?_
  refine lv_iadd hx hb dL_law_404 ?_
  refine lv_topi (fun v2 ev2 => ?_)
  obtain rfl : v2 = nI (i5 + 2) := ev2.trans (nI_add i5 2)
  refine va_sld hx hb hX hbl hbA hS (vp_in_nI (by omega) (by omega)) dL_law_405 ?_
  rw [ha2]
  refine lv_aload_n hx hb dL_law_406 rfl (lv_at hl 1 rfl) ?_
  refine zc2i (vx_runSW (As := [.ref x, .int a1, .int a2, .ref o]) (rest := []) ⟨hx, hb, hml, hown, hts⟩ (w_L_slot l hlt dC dI cy G1 S1 H.size x f n sc ia na d ka va a1 a2 o hC.1 hsl hC.2.1.1 hC.2.1.2) (vx_cwSW 4 hts gL_law_L_slot rfl rfl rfl (by decide +kernel) ⟨Nat.le_of_ble_eq_true rfl, Nat.le_of_ble_eq_true rfl⟩) (zpreSy hK hP1 hD1 hN hE hS hA hNc) rfl rfl hl.1 rfl (lv_room (Nat.le_of_ble_eq_true rfl)) dL_law_407 ⟨by show _ ≤ 601024; omega, by show _ ≤ 7293034; omega⟩) hS hD1 hA hP2 hAp (fun k9 T1 H locs hw hP1 hD1 hP2 hAp hS => ?_)
  refine lv_istore (lv' := [(5, .int k9), (4, .int (nI i5)), (3, .ref o), (2, .ref mo), (1, .ref x), (0, .ref b)]) hx hb dL_law_410 hl (by decide) rfl (fun ls hl => ?_)
  refine lv_aload_n hx hb dL_law_412 rfl (lv_at hl 3 rfl) ?_
  refine lv_aload_n hx hb dL_law_413 rfl (lv_at hl 5 rfl) ?_
  refine lv_iload hx hb dL_law_414 (lv_at hl 1 rfl) ?_
  refine lv_iconst (v := 1) hx hb dL_law_416 (by decide) ?_
  refine lv_iadd hx hb dL_law_417 ?_
  refine lv_topi (fun v3 ev3 => ?_)
  obtain rfl : v3 = nI (i5 + 1) := ev3.trans (nI_add i5 1)
  refine va_sld hx hb hX hbl hbA hS (vp_in_nI (by omega) (by omega)) dL_law_418 ?_
  rw [ha1]
  refine lv_aload_n hx hb dL_law_419 rfl (lv_at hl 5 rfl) ?_
  refine lv_iload hx hb dL_law_420 (lv_at hl 1 rfl) ?_
  refine lv_iconst (v := 2) hx hb dL_law_422 (by decide) ?_
  refine lv_iadd hx hb dL_law_423 ?_
  refine lv_topi (fun v4 ev4 => ?_)
  obtain rfl : v4 = nI (i5 + 2) := ev4.trans (nI_add i5 2)
  refine va_sld hx hb hX hbl hbA hS (vp_in_nI (by omega) (by omega)) dL_law_424 ?_
  rw [ha2]
  refine zc2i (va_runV (As := [.int a1, .int a2]) (rest := []) ⟨hx, hb, hml, hown, hts⟩ (c_X7_slot l dC dI cy G2 S2 H.size mo ad a1 a2 hM.1 hM.2.1) (cwV 2 hts gL_law_X7_slot rfl rfl rfl (by decide +kernel) ⟨Nat.le_of_ble_eq_true rfl, Nat.le_of_ble_eq_true rfl⟩) (zpreV hK hP2 hD2 hN (zrecv7 hK hP2 hM.1.1)) rfl rfl hl.1 rfl (lv_room (Nat.le_of_ble_eq_true rfl)) dL_law_425 ⟨by show _ ≤ 601024; omega, by show _ ≤ 7293034; omega⟩) hS hD2 hA hP1 hAp.symm (fun r2 T2 H locs hm hP2 hD2 hP1 hAp hS => ?_)
  have hAp := hAp.symm
  obtain ⟨hC2, hM2, hR2, he2, ho2⟩ := s_slot hC hM hR hw hm
  have hY2 := hY.vy (v_slot (id := a1) (b := a2) hC hw) (hm.1.1.2.1 4 (by decide) (by decide)) (hm.1.1.2.1 5 (by decide) (by decide)) (hm.1.1.2.1 6 (by decide) (by decide))
  refine lv_istore (lv' := [(6, .int r2), (5, .int k9), (4, .int (nI i5)), (3, .ref o), (2, .ref mo), (1, .ref x), (0, .ref b)]) hx hb dL_law_428 hl (by decide) rfl (fun ls hl => ?_)
  refine lv_goto (tgt := 791) hx hb dL_law_430 (by decide) ?_
  refine W.widen (k := cells + 3) (n := slots + 25) (by omega) (by omega) ?_
  exact kk _ _ _ _ _ _ ⟨⟨hP1, hD1, hP2, hD2, hAp⟩, hS, hC2, hM2, hR2, hY2⟩ (lv_sub hl [2, 3, 4, 5, 6] rfl)
set_option maxHeartbeats 4000000 in
set_option maxRecDepth 100000 in
theorem q_write {p : Program} {l : Launch} {e : Env} {s : State} {m : MethodId} {args : Array Value} {below : List Frame} {meth : Method} {c : Code} {H : Heap} {locs : List Loc} {cells slots : Nat} {Q : State → Prop} {ls : Array Slot} {dC : Nat → ClassId} {dI : Nat → Nat → Nat} {cy : Nat → ClassId} {A : Nat → Prop} {b L : Nat} {xs : Nat → Int32} {x f n sc ia na d ka va o mo : Nat} {ad : Nat → Nat} {G1 G2 : zG} {S1 S2 : zS} {i5 : Nat} {a1 a2 a3 a4 : Int32} (C : zLc p l s m args c dC dI cy A b L xs) (hi5 : i5 + 5 ≤ L) (ha1 : xs (nI (i5 + 1)).toNatClampNeg = a1) (ha2 : xs (nI (i5 + 2)).toNatClampNeg = a2) (ha3 : xs (nI (i5 + 3)).toNatClampNeg = a3) (ha4 : xs (nI (i5 + 4)).toNatClampNeg = a4) (hce : cells + 3 ≤ 601024) (hse : slots + 25 ≤ 7293034) (h : zLw dC dI cy s A x f n sc ia na d ka va o mo ad G1 S1 G2 S2 H locs)
    (hl : lv_has ls 7 [(4, .int (nI i5)), (3, .ref o), (2, .ref mo), (1, .ref x), (0, .ref b)]) (kk : ∀ (G1' : zG) (S1' S2' : zS) (H' : Heap) (locs' : List Loc) (ls' : Array Slot), zLw dC dI cy s A x f n sc ia na d ka va o mo ad G1' S1' G2 S2' H' locs' → lv_has ls' 7 [(4, .int (nI i5)), (3, .ref o), (2, .ref mo), (1, .ref x), (0, .ref b)] → W p l e room_1 s m args below meth c H' locs' (cells + 3) (slots + 25) Q (F0 m 791 ls' [])) : W p l e room_1 s m args below meth c H locs cells slots Q (F0 m 433 ls []) := by
  obtain ⟨⟨hx, hb, hml, hown, hts⟩, ⟨hX, hbl, hbA, hL⟩, hA, hK, hN, hE, hNc, hlt⟩ := C
  obtain ⟨⟨hP1, hD1, hP2, hD2, hAp⟩, hS, hC, hM, hR, hY⟩ := h
  refine lv_aload_n hx hb dL_law_433 rfl (lv_at hl 3 rfl) ?_
  refine lv_aload_n hx hb dL_law_434 rfl (lv_at hl 4 rfl) ?_
  refine lv_iload hx hb dL_law_435 (lv_at hl 0 rfl) ?_
  refine lv_iconst (v := 1) hx hb dL_law_437 (by decide) ?_
  refine lv_iadd hx hb dL_law_438 ?_
  refine lv_topi (fun v1 ev1 => ?_)
  obtain rfl : v1 = nI (i5 + 1) := ev1.trans (nI_add i5 1)
  refine va_sld hx hb hX hbl hbA hS (vp_in_nI (by omega) (by omega)) dL_law_439 ?_
  rw [ha1]
  refine lv_aload_n hx hb dL_law_440 rfl (lv_at hl 4 rfl) ?_
  refine lv_iload hx hb dL_law_441 (lv_at hl 0 rfl) ?_
  refine lv_iconst (v := 2) hx hb dL_law_443 (by decide) ?_
  refine lv_iadd hx hb dL_law_444 ?_
  refine lv_topi (fun v2 ev2 => ?_)
  obtain rfl : v2 = nI (i5 + 2) := ev2.trans (nI_add i5 2)
  refine va_sld hx hb hX hbl hbA hS (vp_in_nI (by omega) (by omega)) dL_law_445 ?_
  rw [ha2]
  refine lv_aload_n hx hb dL_law_446 rfl (lv_at hl 4 rfl) ?_
  refine lv_iload hx hb dL_law_447 (lv_at hl 0 rfl) ?_
  refine lv_iconst (v := 3) hx hb dL_law_449 (by decide) ?_
  refine lv_iadd hx hb dL_law_450 ?_
  refine lv_topi (fun v3 ev3 => ?_)
  obtain rfl : v3 = nI (i5 + 3) := ev3.trans (nI_add i5 3)
  refine va_sld hx hb hX hbl hbA hS (vp_in_nI (by omega) (by omega)) dL_law_451 ?_
  rw [ha3]
  refine lv_aload_n hx hb dL_law_452 rfl (lv_at hl 1 rfl) ?_
  refine zc2i (vx_runSW (As := [.ref x, .int a1, .int a2, .int a3, .ref o]) (rest := []) ⟨hx, hb, hml, hown, hts⟩ (w_L_write l hlt dC dI cy G1 S1 H.size x f n sc ia na d ka va a1 a2 a3 o hC.1 hC.2.1.1 hC.2.1.2) (vx_cwSW 5 hts gL_law_L_write rfl rfl rfl (by decide +kernel) ⟨Nat.le_of_ble_eq_true rfl, Nat.le_of_ble_eq_true rfl⟩) (zpreSy hK hP1 hD1 hN hE hS hA hNc) rfl rfl hl.1 rfl (lv_room (Nat.le_of_ble_eq_true rfl)) dL_law_453 ⟨by show _ ≤ 601024; omega, by show _ ≤ 7293034; omega⟩) hS hD1 hA hP2 hAp (fun k9 T1 H locs hw hP1 hD1 hP2 hAp hS => ?_)
  refine lv_istore (lv' := [(5, .int k9), (4, .int (nI i5)), (3, .ref o), (2, .ref mo), (1, .ref x), (0, .ref b)]) hx hb dL_law_456 hl (by decide) rfl (fun ls hl => ?_)
  refine lv_aload_n hx hb dL_law_458 rfl (lv_at hl 3 rfl) ?_
  refine lv_aload_n hx hb dL_law_459 rfl (lv_at hl 5 rfl) ?_
  refine lv_iload hx hb dL_law_460 (lv_at hl 1 rfl) ?_
  refine lv_iconst (v := 1) hx hb dL_law_462 (by decide) ?_
  refine lv_iadd hx hb dL_law_463 ?_
  refine lv_topi (fun v4 ev4 => ?_)
  obtain rfl : v4 = nI (i5 + 1) := ev4.trans (nI_add i5 1)
  refine va_sld hx hb hX hbl hbA hS (vp_in_nI (by omega) (by omega)) dL_law_464 ?_
  rw [ha1]
  refine lv_aload_n hx hb dL_law_465 rfl (lv_at hl 5 rfl) ?_
  refine lv_iload hx hb dL_law_466 (lv_at hl 1 rfl) ?_
  refine lv_iconst (v := 2) hx hb dL_law_468 (by decide) ?_
  refine lv_iadd hx hb dL_law_469 ?_
  refine lv_topi (fun v5 ev5 => ?_)
  obtain rfl : v5 = nI (i5 + 2) := ev5.trans (nI_add i5 2)
  refine va_sld hx hb hX hbl hbA hS (vp_in_nI (by omega) (by omega)) dL_law_470 ?_
  rw [ha2]
  refine lv_aload_n hx hb dL_law_471 rfl (lv_at hl 5 rfl) ?_
  refine lv_iload hx hb dL_law_472 (lv_at hl 1 rfl) ?_
  refine lv_iconst (v := 3) hx hb dL_law_474 (by decide) ?_
  refine lv_iadd hx hb dL_law_475 ?_
  refine lv_topi (fun v6 ev6 => ?_)
  obtain rfl : v6 = nI (i5 + 3) := ev6.trans (nI_add i5 3)
  refine va_sld hx hb hX hbl hbA hS (vp_in_nI (by omega) (by omega)) dL_law_476 ?_
  rw [ha3]
  refine zc2i (va_runV (As := [.int a1, .int a2, .int a3]) (rest := []) ⟨hx, hb, hml, hown, hts⟩ (c_X7_write l dC dI cy G2 S2 H.size mo ad a1 a2 a3 hM.1 hM.2.1) (cwV 3 hts gL_law_X7_write rfl rfl rfl (by decide +kernel) ⟨Nat.le_of_ble_eq_true rfl, Nat.le_of_ble_eq_true rfl⟩) (zpreV hK hP2 hD2 hN (zrecv7 hK hP2 hM.1.1)) rfl rfl hl.1 rfl (lv_room (Nat.le_of_ble_eq_true rfl)) dL_law_477 ⟨by show _ ≤ 601024; omega, by show _ ≤ 7293034; omega⟩) hS hD2 hA hP1 hAp.symm (fun r2 T2 H locs hm hP2 hD2 hP1 hAp hS => ?_)
  have hAp := hAp.symm
  obtain ⟨hC2, hM2, ⟨hR2, hY2⟩, he2, ho2⟩ := s_write hC hM hR hY hw hm
  refine lv_istore (lv' := [(6, .int r2), (5, .int k9), (4, .int (nI i5)), (3, .ref o), (2, .ref mo), (1, .ref x), (0, .ref b)]) hx hb dL_law_480 hl (by decide) rfl (fun ls hl => ?_)
  refine lv_goto (tgt := 791) hx hb dL_law_482 (by decide) ?_
  refine W.widen (k := cells + 3) (n := slots + 25) (by omega) (by omega) ?_
  exact kk _ _ _ _ _ _ ⟨⟨hP1, hD1, hP2, hD2, hAp⟩, hS, hC2, hM2, hR2, hY2⟩ (lv_sub hl [2, 3, 4, 5, 6] rfl)
set_option maxHeartbeats 4000000 in
set_option maxRecDepth 100000 in
theorem q_disturb {p : Program} {l : Launch} {e : Env} {s : State} {m : MethodId} {args : Array Value} {below : List Frame} {meth : Method} {c : Code} {H : Heap} {locs : List Loc} {cells slots : Nat} {Q : State → Prop} {ls : Array Slot} {dC : Nat → ClassId} {dI : Nat → Nat → Nat} {cy : Nat → ClassId} {A : Nat → Prop} {b L : Nat} {xs : Nat → Int32} {x f n sc ia na d ka va o mo : Nat} {ad : Nat → Nat} {G1 G2 : zG} {S1 S2 : zS} {i5 : Nat} {a1 a2 a3 a4 : Int32} (C : zLc p l s m args c dC dI cy A b L xs) (hi5 : i5 + 5 ≤ L) (ha1 : xs (nI (i5 + 1)).toNatClampNeg = a1) (ha2 : xs (nI (i5 + 2)).toNatClampNeg = a2) (ha3 : xs (nI (i5 + 3)).toNatClampNeg = a3) (ha4 : xs (nI (i5 + 4)).toNatClampNeg = a4) (hce : cells + 3 ≤ 601024) (hse : slots + 25 ≤ 7293034) (h : zLw dC dI cy s A x f n sc ia na d ka va o mo ad G1 S1 G2 S2 H locs)
    (hl : lv_has ls 7 [(4, .int (nI i5)), (3, .ref o), (2, .ref mo), (1, .ref x), (0, .ref b)]) (kk : ∀ (G1' : zG) (S1' S2' : zS) (H' : Heap) (locs' : List Loc) (ls' : Array Slot), zLw dC dI cy s A x f n sc ia na d ka va o mo ad G1' S1' G2 S2' H' locs' → lv_has ls' 7 [(4, .int (nI i5)), (3, .ref o), (2, .ref mo), (1, .ref x), (0, .ref b)] → W p l e room_1 s m args below meth c H' locs' (cells + 3) (slots + 25) Q (F0 m 791 ls' [])) : W p l e room_1 s m args below meth c H locs cells slots Q (F0 m 485 ls []) := by
  obtain ⟨⟨hx, hb, hml, hown, hts⟩, ⟨hX, hbl, hbA, hL⟩, hA, hK, hN, hE, hNc, hlt⟩ := C
  obtain ⟨⟨hP1, hD1, hP2, hD2, hAp⟩, hS, hC, hM, hR, hY⟩ := h
  refine lv_aload_n hx hb dL_law_485 rfl (lv_at hl 3 rfl) ?_
  refine lv_aload_n hx hb dL_law_486 rfl (lv_at hl 4 rfl) ?_
  refine lv_iload hx hb dL_law_487 (lv_at hl 0 rfl) ?_
  refine lv_iconst (v := 1) hx hb dL_law_489 (by decide) ?_
  refine lv_iadd hx hb dL_law_490 ?_
  refine lv_topi (fun v1 ev1 => ?_)
  obtain rfl : v1 = nI (i5 + 1) := ev1.trans (nI_add i5 1)
  refine va_sld hx hb hX hbl hbA hS (vp_in_nI (by omega) (by omega)) dL_law_491 ?_
  rw [ha1]
  refine lv_aload_n hx hb dL_law_492 rfl (lv_at hl 4 rfl) ?_
  refine lv_iload hx hb dL_law_493 (lv_at hl 0 rfl) ?_
  refine lv_iconst (v := 2) hx hb dL_law_495 (by decide) ?_
  refine lv_iadd hx hb dL_law_496 ?_
  refine lv_topi (fun v2 ev2 => ?_)
  obtain rfl : v2 = nI (i5 + 2) := ev2.trans (nI_add i5 2)
  refine va_sld hx hb hX hbl hbA hS (vp_in_nI (by omega) (by omega)) dL_law_497 ?_
  rw [ha2]
  refine zc2i (vx_runSW (As := [.ref x, .int a1, .int a2]) (rest := []) ⟨hx, hb, hml, hown, hts⟩ (w_L_disturb l hlt dC dI cy G1 S1 H.size x f n sc ia na d ka va a1 a2 hC.1) (vx_cwSW 3 hts gL_law_L_disturb rfl rfl rfl (by decide +kernel) ⟨Nat.le_of_ble_eq_true rfl, Nat.le_of_ble_eq_true rfl⟩) (zpreSy hK hP1 hD1 hN hE hS hA hNc) rfl rfl hl.1 rfl (lv_room (Nat.le_of_ble_eq_true rfl)) dL_law_498 ⟨by show _ ≤ 601024; omega, by show _ ≤ 7293034; omega⟩) hS hD1 hA hP2 hAp (fun k9 T1 H locs hw hP1 hD1 hP2 hAp hS => ?_)
  refine lv_istore (lv' := [(5, .int k9), (4, .int (nI i5)), (3, .ref o), (2, .ref mo), (1, .ref x), (0, .ref b)]) hx hb dL_law_501 hl (by decide) rfl (fun ls hl => ?_)
  refine lv_aload_n hx hb dL_law_503 rfl (lv_at hl 3 rfl) ?_
  refine lv_aload_n hx hb dL_law_504 rfl (lv_at hl 5 rfl) ?_
  refine lv_iload hx hb dL_law_505 (lv_at hl 1 rfl) ?_
  refine lv_iconst (v := 1) hx hb dL_law_507 (by decide) ?_
  refine lv_iadd hx hb dL_law_508 ?_
  refine lv_topi (fun v3 ev3 => ?_)
  obtain rfl : v3 = nI (i5 + 1) := ev3.trans (nI_add i5 1)
  refine va_sld hx hb hX hbl hbA hS (vp_in_nI (by omega) (by omega)) dL_law_509 ?_
  rw [ha1]
  refine lv_aload_n hx hb dL_law_510 rfl (lv_at hl 5 rfl) ?_
  refine lv_iload hx hb dL_law_511 (lv_at hl 1 rfl) ?_
  refine lv_iconst (v := 2) hx hb dL_law_513 (by decide) ?_
  refine lv_iadd hx hb dL_law_514 ?_
  refine lv_topi (fun v4 ev4 => ?_)
  obtain rfl : v4 = nI (i5 + 2) := ev4.trans (nI_add i5 2)
  refine va_sld hx hb hX hbl hbA hS (vp_in_nI (by omega) (by omega)) dL_law_515 ?_
  rw [ha2]
  refine zc2v (va_runV (As := [.int a1, .int a2]) (rest := []) ⟨hx, hb, hml, hown, hts⟩ (c_X7_disturb l dC dI cy G2 S2 H.size mo ad a1 a2 hM.1 hM.2.1) (cwV 2 hts gL_law_X7_disturb rfl rfl rfl (by decide +kernel) ⟨Nat.le_of_ble_eq_true rfl, Nat.le_of_ble_eq_true rfl⟩) (zpreV hK hP2 hD2 hN (zrecv7 hK hP2 hM.1.1)) rfl rfl hl.1 rfl (lv_room (Nat.le_of_ble_eq_true rfl)) dL_law_516 ⟨by show _ ≤ 601024; omega, by show _ ≤ 7293034; omega⟩) hS hD2 hA hP1 hAp.symm (fun T2 H locs hm hP2 hD2 hP1 hAp hS => ?_)
  have hAp := hAp.symm
  obtain ⟨hC2, hv2⟩ := k_disturb (b := a1) (v := a2) hC hw
  obtain ⟨hM2, hu2⟩ := m_disturb hM hm
  have hR2 := hR.vw hv2 hu2
  have hY2 := hY.vy (v_disturb (b := a1) (v := a2) hC hw) (hm.1.1.2.1 4 (by decide) (by decide)) (hm.1.1.2.1 5 (by decide) (by decide)) (hm.1.1.2.1 6 (by decide) (by decide))
  refine lv_goto (tgt := 791) hx hb dL_law_519 (by decide) ?_
  refine W.widen (k := cells + 3) (n := slots + 25) (by omega) (by omega) ?_
  exact kk _ _ _ _ _ _ ⟨⟨hP1, hD1, hP2, hD2, hAp⟩, hS, hC2, hM2, hR2, hY2⟩ (lv_sub hl [1, 2, 3, 4, 5] rfl)
set_option maxHeartbeats 4000000 in
set_option maxRecDepth 100000 in
theorem q_wake {p : Program} {l : Launch} {e : Env} {s : State} {m : MethodId} {args : Array Value} {below : List Frame} {meth : Method} {c : Code} {H : Heap} {locs : List Loc} {cells slots : Nat} {Q : State → Prop} {ls : Array Slot} {dC : Nat → ClassId} {dI : Nat → Nat → Nat} {cy : Nat → ClassId} {A : Nat → Prop} {b L : Nat} {xs : Nat → Int32} {x f n sc ia na d ka va o mo : Nat} {ad : Nat → Nat} {G1 G2 : zG} {S1 S2 : zS} {i5 : Nat} {a1 a2 a3 a4 : Int32} (C : zLc p l s m args c dC dI cy A b L xs) (hi5 : i5 + 5 ≤ L) (ha1 : xs (nI (i5 + 1)).toNatClampNeg = a1) (ha2 : xs (nI (i5 + 2)).toNatClampNeg = a2) (ha3 : xs (nI (i5 + 3)).toNatClampNeg = a3) (ha4 : xs (nI (i5 + 4)).toNatClampNeg = a4) (hce : cells + 3 ≤ 601024) (hse : slots + 25 ≤ 7293034) (h : zLw dC dI cy s A x f n sc ia na d ka va o mo ad G1 S1 G2 S2 H locs)
    (hl : lv_has ls 7 [(4, .int (nI i5)), (3, .ref o), (2, .ref mo), (1, .ref x), (0, .ref b)]) (kk : ∀ (G1' : zG) (S1' S2' : zS) (H' : Heap) (locs' : List Loc) (ls' : Array Slot), zLw dC dI cy s A x f n sc ia na d ka va o mo ad G1' S1' G2 S2' H' locs' → lv_has ls' 7 [(4, .int (nI i5)), (3, .ref o), (2, .ref mo), (1, .ref x), (0, .ref b)] → W p l e room_1 s m args below meth c H' locs' (cells + 3) (slots + 25) Q (F0 m 791 ls' [])) : W p l e room_1 s m args below meth c H locs cells slots Q (F0 m 522 ls []) := by
  obtain ⟨⟨hx, hb, hml, hown, hts⟩, ⟨hX, hbl, hbA, hL⟩, hA, hK, hN, hE, hNc, hlt⟩ := C
  obtain ⟨⟨hP1, hD1, hP2, hD2, hAp⟩, hS, hC, hM, hR, hY⟩ := h
  refine lv_aload_n hx hb dL_law_522 rfl (lv_at hl 3 rfl) ?_
  refine lv_aload_n hx hb dL_law_523 rfl (lv_at hl 4 rfl) ?_
  refine lv_iload hx hb dL_law_524 (lv_at hl 0 rfl) ?_
  refine lv_iconst (v := 1) hx hb dL_law_526 (by decide) ?_
  refine lv_iadd hx hb dL_law_527 ?_
  refine lv_topi (fun v1 ev1 => ?_)
  obtain rfl : v1 = nI (i5 + 1) := ev1.trans (nI_add i5 1)
  refine va_sld hx hb hX hbl hbA hS (vp_in_nI (by omega) (by omega)) dL_law_528 ?_
  rw [ha1]
  refine zc2i (vx_runSW (As := [.ref x, .int a1]) (rest := []) ⟨hx, hb, hml, hown, hts⟩ (w_L_wake l hlt dC dI cy G1 S1 H.size x f n sc ia na d ka va a1 hC.1) (vx_cwSW 2 hts gL_law_L_wake rfl rfl rfl (by decide +kernel) ⟨Nat.le_of_ble_eq_true rfl, Nat.le_of_ble_eq_true rfl⟩) (zpreSy hK hP1 hD1 hN hE hS hA hNc) rfl rfl hl.1 rfl (lv_room (Nat.le_of_ble_eq_true rfl)) dL_law_529 ⟨by show _ ≤ 601024; omega, by show _ ≤ 7293034; omega⟩) hS hD1 hA hP2 hAp (fun k9 T1 H locs hw hP1 hD1 hP2 hAp hS => ?_)
  refine lv_istore (lv' := [(5, .int k9), (4, .int (nI i5)), (3, .ref o), (2, .ref mo), (1, .ref x), (0, .ref b)]) hx hb dL_law_532 hl (by decide) rfl (fun ls hl => ?_)
  refine lv_aload_n hx hb dL_law_534 rfl (lv_at hl 3 rfl) ?_
  refine lv_aload_n hx hb dL_law_535 rfl (lv_at hl 5 rfl) ?_
  refine lv_iload hx hb dL_law_536 (lv_at hl 1 rfl) ?_
  refine lv_iconst (v := 1) hx hb dL_law_538 (by decide) ?_
  refine lv_iadd hx hb dL_law_539 ?_
  refine lv_topi (fun v2 ev2 => ?_)
  obtain rfl : v2 = nI (i5 + 1) := ev2.trans (nI_add i5 1)
  refine va_sld hx hb hX hbl hbA hS (vp_in_nI (by omega) (by omega)) dL_law_540 ?_
  rw [ha1]
  refine zc2v (va_runV (As := [.int a1]) (rest := []) ⟨hx, hb, hml, hown, hts⟩ (c_X7_wake l dC dI cy G2 S2 H.size mo ad a1 hM.1 hM.2.1) (cwV 1 hts gL_law_X7_wake rfl rfl rfl (by decide +kernel) ⟨Nat.le_of_ble_eq_true rfl, Nat.le_of_ble_eq_true rfl⟩) (zpreV hK hP2 hD2 hN (zrecv7 hK hP2 hM.1.1)) rfl rfl hl.1 rfl (lv_room (Nat.le_of_ble_eq_true rfl)) dL_law_541 ⟨by show _ ≤ 601024; omega, by show _ ≤ 7293034; omega⟩) hS hD2 hA hP1 hAp.symm (fun T2 H locs hm hP2 hD2 hP1 hAp hS => ?_)
  have hAp := hAp.symm
  obtain ⟨hC2, hM2, hR2, he2⟩ := s_wake hC hM hR hw hm
  have hY2 := hY.vy (v_wake (v := a1) hC hw) (hm.1.1.2.1 4 (by decide) (by decide)) (hm.1.1.2.1 5 (by decide) (by decide)) (hm.1.1.2.1 6 (by decide) (by decide))
  refine lv_goto (tgt := 791) hx hb dL_law_544 (by decide) ?_
  refine W.widen (k := cells + 3) (n := slots + 25) (by omega) (by omega) ?_
  exact kk _ _ _ _ _ _ ⟨⟨hP1, hD1, hP2, hD2, hAp⟩, hS, hC2, hM2, hR2, hY2⟩ (lv_sub hl [1, 2, 3, 4, 5] rfl)
set_option maxHeartbeats 4000000 in
set_option maxRecDepth 100000 in
theorem q_run {p : Program} {l : Launch} {e : Env} {s : State} {m : MethodId} {args : Array Value} {below : List Frame} {meth : Method} {c : Code} {H : Heap} {locs : List Loc} {cells slots : Nat} {Q : State → Prop} {ls : Array Slot} {dC : Nat → ClassId} {dI : Nat → Nat → Nat} {cy : Nat → ClassId} {A : Nat → Prop} {b L : Nat} {xs : Nat → Int32} {x f n sc ia na d ka va o mo : Nat} {ad : Nat → Nat} {G1 G2 : zG} {S1 S2 : zS} {i5 : Nat} {a1 a2 a3 a4 : Int32} (C : zLc p l s m args c dC dI cy A b L xs) (hi5 : i5 + 5 ≤ L) (ha1 : xs (nI (i5 + 1)).toNatClampNeg = a1) (ha2 : xs (nI (i5 + 2)).toNatClampNeg = a2) (ha3 : xs (nI (i5 + 3)).toNatClampNeg = a3) (ha4 : xs (nI (i5 + 4)).toNatClampNeg = a4) (hce : cells + 3 ≤ 601024) (hse : slots + 25 ≤ 7293034) (h : zLw dC dI cy s A x f n sc ia na d ka va o mo ad G1 S1 G2 S2 H locs)
    (hl : lv_has ls 7 [(4, .int (nI i5)), (3, .ref o), (2, .ref mo), (1, .ref x), (0, .ref b)]) (kk : ∀ (G1' : zG) (S1' S2' : zS) (H' : Heap) (locs' : List Loc) (ls' : Array Slot), zLw dC dI cy s A x f n sc ia na d ka va o mo ad G1' S1' G2 S2' H' locs' → lv_has ls' 7 [(4, .int (nI i5)), (3, .ref o), (2, .ref mo), (1, .ref x), (0, .ref b)] → W p l e room_1 s m args below meth c H' locs' (cells + 3) (slots + 25) Q (F0 m 791 ls' [])) : W p l e room_1 s m args below meth c H locs cells slots Q (F0 m 547 ls []) := by
  obtain ⟨⟨hx, hb, hml, hown, hts⟩, ⟨hX, hbl, hbA, hL⟩, hA, hK, hN, hE, hNc, hlt⟩ := C
  obtain ⟨⟨hP1, hD1, hP2, hD2, hAp⟩, hS, hC, hM, hR, hY⟩ := h
  refine lv_aload_n hx hb dL_law_547 rfl (lv_at hl 3 rfl) ?_
  refine lv_aload_n hx hb dL_law_548 rfl (lv_at hl 4 rfl) ?_
  refine lv_iload hx hb dL_law_549 (lv_at hl 0 rfl) ?_
  refine lv_iconst (v := 1) hx hb dL_law_551 (by decide) ?_
  refine lv_iadd hx hb dL_law_552 ?_
  refine lv_topi (fun v1 ev1 => ?_)
  obtain rfl : v1 = nI (i5 + 1) := ev1.trans (nI_add i5 1)
  refine va_sld hx hb hX hbl hbA hS (vp_in_nI (by omega) (by omega)) dL_law_553 ?_
  rw [ha1]
  refine lv_aload_n hx hb dL_law_554 rfl (lv_at hl 1 rfl) ?_
  refine zc2i (vx_runSW (As := [.ref x, .int a1, .ref o]) (rest := []) ⟨hx, hb, hml, hown, hts⟩ (w_L_run l hlt dC dI cy G1 S1 H.size x f n sc ia na d ka va a1 o hC.1 hC.2.1.1 hC.2.1.2) (vx_cwSW 3 hts gL_law_L_run rfl rfl rfl (by decide +kernel) ⟨Nat.le_of_ble_eq_true rfl, Nat.le_of_ble_eq_true rfl⟩) (zpreSy hK hP1 hD1 hN hE hS hA hNc) rfl rfl hl.1 rfl (lv_room (Nat.le_of_ble_eq_true rfl)) dL_law_555 ⟨by show _ ≤ 601024; omega, by show _ ≤ 7293034; omega⟩) hS hD1 hA hP2 hAp (fun k9 T1 H locs hw hP1 hD1 hP2 hAp hS => ?_)
  refine lv_istore (lv' := [(5, .int k9), (4, .int (nI i5)), (3, .ref o), (2, .ref mo), (1, .ref x), (0, .ref b)]) hx hb dL_law_558 hl (by decide) rfl (fun ls hl => ?_)
  refine lv_aload_n hx hb dL_law_560 rfl (lv_at hl 3 rfl) ?_
  refine lv_aload_n hx hb dL_law_561 rfl (lv_at hl 5 rfl) ?_
  refine lv_iload hx hb dL_law_562 (lv_at hl 1 rfl) ?_
  refine lv_iconst (v := 1) hx hb dL_law_564 (by decide) ?_
  refine lv_iadd hx hb dL_law_565 ?_
  refine lv_topi (fun v2 ev2 => ?_)
  obtain rfl : v2 = nI (i5 + 1) := ev2.trans (nI_add i5 1)
  refine va_sld hx hb hX hbl hbA hS (vp_in_nI (by omega) (by omega)) dL_law_566 ?_
  rw [ha1]
  refine zc2i (va_runV (As := [.int a1]) (rest := []) ⟨hx, hb, hml, hown, hts⟩ (c_X7_run l dC dI cy G2 S2 H.size mo ad a1 hM.1 hM.2.1) (cwV 1 hts gL_law_X7_run rfl rfl rfl (by decide +kernel) ⟨Nat.le_of_ble_eq_true rfl, Nat.le_of_ble_eq_true rfl⟩) (zpreV hK hP2 hD2 hN (zrecv7 hK hP2 hM.1.1)) rfl rfl hl.1 rfl (lv_room (Nat.le_of_ble_eq_true rfl)) dL_law_567 ⟨by show _ ≤ 601024; omega, by show _ ≤ 7293034; omega⟩) hS hD2 hA hP1 hAp.symm (fun r2 T2 H locs hm hP2 hD2 hP1 hAp hS => ?_)
  have hAp := hAp.symm
  obtain ⟨hC2, hM2, hR2, he2, ho2⟩ := s_run hC hM hR hw hm
  have hY2 := hY.vy (v_run (v := a1) hC hw) (hm.1.1.2.1 4 (by decide) (by decide)) (hm.1.1.2.1 5 (by decide) (by decide)) (hm.1.1.2.1 6 (by decide) (by decide))
  refine lv_istore (lv' := [(6, .int r2), (5, .int k9), (4, .int (nI i5)), (3, .ref o), (2, .ref mo), (1, .ref x), (0, .ref b)]) hx hb dL_law_570 hl (by decide) rfl (fun ls hl => ?_)
  refine lv_goto (tgt := 791) hx hb dL_law_572 (by decide) ?_
  refine W.widen (k := cells + 3) (n := slots + 25) (by omega) (by omega) ?_
  exact kk _ _ _ _ _ _ ⟨⟨hP1, hD1, hP2, hD2, hAp⟩, hS, hC2, hM2, hR2, hY2⟩ (lv_sub hl [2, 3, 4, 5, 6] rfl)
set_option maxHeartbeats 4000000 in
set_option maxRecDepth 100000 in
theorem q_byteAt {p : Program} {l : Launch} {e : Env} {s : State} {m : MethodId} {args : Array Value} {below : List Frame} {meth : Method} {c : Code} {H : Heap} {locs : List Loc} {cells slots : Nat} {Q : State → Prop} {ls : Array Slot} {dC : Nat → ClassId} {dI : Nat → Nat → Nat} {cy : Nat → ClassId} {A : Nat → Prop} {b L : Nat} {xs : Nat → Int32} {x f n sc ia na d ka va o mo : Nat} {ad : Nat → Nat} {G1 G2 : zG} {S1 S2 : zS} {i5 : Nat} {a1 a2 a3 a4 : Int32} (C : zLc p l s m args c dC dI cy A b L xs) (hi5 : i5 + 5 ≤ L) (ha1 : xs (nI (i5 + 1)).toNatClampNeg = a1) (ha2 : xs (nI (i5 + 2)).toNatClampNeg = a2) (ha3 : xs (nI (i5 + 3)).toNatClampNeg = a3) (ha4 : xs (nI (i5 + 4)).toNatClampNeg = a4) (hce : cells + 3 ≤ 601024) (hse : slots + 25 ≤ 7293034) (h : zLw dC dI cy s A x f n sc ia na d ka va o mo ad G1 S1 G2 S2 H locs)
    (hl : lv_has ls 7 [(4, .int (nI i5)), (3, .ref o), (2, .ref mo), (1, .ref x), (0, .ref b)]) (kk : ∀ (G1' : zG) (S1' S2' : zS) (H' : Heap) (locs' : List Loc) (ls' : Array Slot), zLw dC dI cy s A x f n sc ia na d ka va o mo ad G1' S1' G2 S2' H' locs' → lv_has ls' 7 [(4, .int (nI i5)), (3, .ref o), (2, .ref mo), (1, .ref x), (0, .ref b)] → W p l e room_1 s m args below meth c H' locs' (cells + 3) (slots + 25) Q (F0 m 791 ls' [])) : W p l e room_1 s m args below meth c H locs cells slots Q (F0 m 575 ls []) := by
  obtain ⟨⟨hx, hb, hml, hown, hts⟩, ⟨hX, hbl, hbA, hL⟩, hA, hK, hN, hE, hNc, hlt⟩ := C
  obtain ⟨⟨hP1, hD1, hP2, hD2, hAp⟩, hS, hC, hM, hR, hY⟩ := h
  refine lv_aload_n hx hb dL_law_575 rfl (lv_at hl 3 rfl) ?_
  refine lv_aload_n hx hb dL_law_576 rfl (lv_at hl 4 rfl) ?_
  refine lv_iload hx hb dL_law_577 (lv_at hl 0 rfl) ?_
  refine lv_iconst (v := 1) hx hb dL_law_579 (by decide) ?_
  refine lv_iadd hx hb dL_law_580 ?_
  refine lv_topi (fun v1 ev1 => ?_)
  obtain rfl : v1 = nI (i5 + 1) := ev1.trans (nI_add i5 1)
  refine va_sld hx hb hX hbl hbA hS (vp_in_nI (by omega) (by omega)) dL_law_581 ?_
  rw [ha1]
  refine lv_aload_n hx hb dL_law_582 rfl (lv_at hl 4 rfl) ?_
  refine lv_iload hx hb dL_law_583 (lv_at hl 0 rfl) ?_
  refine lv_iconst (v := 2) hx hb dL_law_585 (by decide) ?_
  refine lv_iadd hx hb dL_law_586 ?_
  refine lv_topi (fun v2 ev2 => ?_)
  obtain rfl : v2 = nI (i5 + 2) := ev2.trans (nI_add i5 2)
  refine va_sld hx hb hX hbl hbA hS (vp_in_nI (by omega) (by omega)) dL_law_587 ?_
  rw [ha2]
  refine lv_aload_n hx hb dL_law_588 rfl (lv_at hl 4 rfl) ?_
  refine lv_iload hx hb dL_law_589 (lv_at hl 0 rfl) ?_
  refine lv_iconst (v := 3) hx hb dL_law_591 (by decide) ?_
  refine lv_iadd hx hb dL_law_592 ?_
  refine lv_topi (fun v3 ev3 => ?_)
  obtain rfl : v3 = nI (i5 + 3) := ev3.trans (nI_add i5 3)
  refine va_sld hx hb hX hbl hbA hS (vp_in_nI (by omega) (by omega)) dL_law_593 ?_
  rw [ha3]
  refine lv_aload_n hx hb dL_law_594 rfl (lv_at hl 1 rfl) ?_
  refine zc2i (vx_runSW (As := [.ref x, .int a1, .int a2, .int a3, .ref o]) (rest := []) ⟨hx, hb, hml, hown, hts⟩ (w_L_byteAt l hlt dC dI cy G1 S1 H.size x f n sc ia na d ka va a1 a2 a3 o hC.1 hC.2.1.1 hC.2.1.2) (vx_cwSW 5 hts gL_law_L_byteAt rfl rfl rfl (by decide +kernel) ⟨Nat.le_of_ble_eq_true rfl, Nat.le_of_ble_eq_true rfl⟩) (zpreSy hK hP1 hD1 hN hE hS hA hNc) rfl rfl hl.1 rfl (lv_room (Nat.le_of_ble_eq_true rfl)) dL_law_595 ⟨by show _ ≤ 601024; omega, by show _ ≤ 7293034; omega⟩) hS hD1 hA hP2 hAp (fun k9 T1 H locs hw hP1 hD1 hP2 hAp hS => ?_)
  refine lv_istore (lv' := [(5, .int k9), (4, .int (nI i5)), (3, .ref o), (2, .ref mo), (1, .ref x), (0, .ref b)]) hx hb dL_law_598 hl (by decide) rfl (fun ls hl => ?_)
  refine lv_aload_n hx hb dL_law_600 rfl (lv_at hl 3 rfl) ?_
  refine lv_aload_n hx hb dL_law_601 rfl (lv_at hl 5 rfl) ?_
  refine lv_iload hx hb dL_law_602 (lv_at hl 1 rfl) ?_
  refine lv_iconst (v := 1) hx hb dL_law_604 (by decide) ?_
  refine lv_iadd hx hb dL_law_605 ?_
  refine lv_topi (fun v4 ev4 => ?_)
  obtain rfl : v4 = nI (i5 + 1) := ev4.trans (nI_add i5 1)
  refine va_sld hx hb hX hbl hbA hS (vp_in_nI (by omega) (by omega)) dL_law_606 ?_
  rw [ha1]
  refine lv_aload_n hx hb dL_law_607 rfl (lv_at hl 5 rfl) ?_
  refine lv_iload hx hb dL_law_608 (lv_at hl 1 rfl) ?_
  refine lv_iconst (v := 2) hx hb dL_law_610 (by decide) ?_
  refine lv_iadd hx hb dL_law_611 ?_
  refine lv_topi (fun v5 ev5 => ?_)
  obtain rfl : v5 = nI (i5 + 2) := ev5.trans (nI_add i5 2)
  refine va_sld hx hb hX hbl hbA hS (vp_in_nI (by omega) (by omega)) dL_law_612 ?_
  rw [ha2]
  refine lv_aload_n hx hb dL_law_613 rfl (lv_at hl 5 rfl) ?_
  refine lv_iload hx hb dL_law_614 (lv_at hl 1 rfl) ?_
  refine lv_iconst (v := 3) hx hb dL_law_616 (by decide) ?_
  refine lv_iadd hx hb dL_law_617 ?_
  refine lv_topi (fun v6 ev6 => ?_)
  obtain rfl : v6 = nI (i5 + 3) := ev6.trans (nI_add i5 3)
  refine va_sld hx hb hX hbl hbA hS (vp_in_nI (by omega) (by omega)) dL_law_618 ?_
  rw [ha3]
  refine zc2i (va_runV (As := [.int a1, .int a2, .int a3]) (rest := []) ⟨hx, hb, hml, hown, hts⟩ (c_X7_byteAt l dC dI cy G2 S2 H.size mo ad a1 a2 a3 hM.1 hM.2.1) (cwV 3 hts gL_law_X7_byteAt rfl rfl rfl (by decide +kernel) ⟨Nat.le_of_ble_eq_true rfl, Nat.le_of_ble_eq_true rfl⟩) (zpreV hK hP2 hD2 hN (zrecv7 hK hP2 hM.1.1)) rfl rfl hl.1 rfl (lv_room (Nat.le_of_ble_eq_true rfl)) dL_law_619 ⟨by show _ ≤ 601024; omega, by show _ ≤ 7293034; omega⟩) hS hD2 hA hP1 hAp.symm (fun r2 T2 H locs hm hP2 hD2 hP1 hAp hS => ?_)
  have hAp := hAp.symm
  obtain ⟨hC2, hv2⟩ := k_byteAt (v := a1) (id := a2) (b := a3) hC hw
  obtain ⟨hM2, hu2⟩ := m_byteAt hM hm
  have hR2 := hR.vw hv2 hu2
  have hY2 := hY.vy (v_byteAt (v := a1) (id := a2) (b := a3) hC hw) (hm.1.1.2.1 4 (by decide) (by decide)) (hm.1.1.2.1 5 (by decide) (by decide)) (hm.1.1.2.1 6 (by decide) (by decide))
  refine lv_istore (lv' := [(6, .int r2), (5, .int k9), (4, .int (nI i5)), (3, .ref o), (2, .ref mo), (1, .ref x), (0, .ref b)]) hx hb dL_law_622 hl (by decide) rfl (fun ls hl => ?_)
  refine lv_goto (tgt := 791) hx hb dL_law_624 (by decide) ?_
  refine W.widen (k := cells + 3) (n := slots + 25) (by omega) (by omega) ?_
  exact kk _ _ _ _ _ _ ⟨⟨hP1, hD1, hP2, hD2, hAp⟩, hS, hC2, hM2, hR2, hY2⟩ (lv_sub hl [2, 3, 4, 5, 6] rfl)
set_option maxHeartbeats 4000000 in
set_option maxRecDepth 100000 in
theorem q_taken {p : Program} {l : Launch} {e : Env} {s : State} {m : MethodId} {args : Array Value} {below : List Frame} {meth : Method} {c : Code} {H : Heap} {locs : List Loc} {cells slots : Nat} {Q : State → Prop} {ls : Array Slot} {dC : Nat → ClassId} {dI : Nat → Nat → Nat} {cy : Nat → ClassId} {A : Nat → Prop} {b L : Nat} {xs : Nat → Int32} {x f n sc ia na d ka va o mo : Nat} {ad : Nat → Nat} {G1 G2 : zG} {S1 S2 : zS} {i5 : Nat} {a1 a2 a3 a4 : Int32} (C : zLc p l s m args c dC dI cy A b L xs) (hi5 : i5 + 5 ≤ L) (ha1 : xs (nI (i5 + 1)).toNatClampNeg = a1) (ha2 : xs (nI (i5 + 2)).toNatClampNeg = a2) (ha3 : xs (nI (i5 + 3)).toNatClampNeg = a3) (ha4 : xs (nI (i5 + 4)).toNatClampNeg = a4) (hce : cells + 3 ≤ 601024) (hse : slots + 25 ≤ 7293034) (h : zLw dC dI cy s A x f n sc ia na d ka va o mo ad G1 S1 G2 S2 H locs)
    (hl : lv_has ls 7 [(4, .int (nI i5)), (3, .ref o), (2, .ref mo), (1, .ref x), (0, .ref b)]) (kk : ∀ (G1' : zG) (S1' S2' : zS) (H' : Heap) (locs' : List Loc) (ls' : Array Slot), zLw dC dI cy s A x f n sc ia na d ka va o mo ad G1' S1' G2 S2' H' locs' → lv_has ls' 7 [(4, .int (nI i5)), (3, .ref o), (2, .ref mo), (1, .ref x), (0, .ref b)] → W p l e room_1 s m args below meth c H' locs' (cells + 3) (slots + 25) Q (F0 m 791 ls' [])) : W p l e room_1 s m args below meth c H locs cells slots Q (F0 m 627 ls []) := by
  obtain ⟨⟨hx, hb, hml, hown, hts⟩, ⟨hX, hbl, hbA, hL⟩, hA, hK, hN, hE, hNc, hlt⟩ := C
  obtain ⟨⟨hP1, hD1, hP2, hD2, hAp⟩, hS, hC, hM, hR, hY⟩ := h
  refine lv_aload_n hx hb dL_law_627 rfl (lv_at hl 3 rfl) ?_
  refine lv_aload_n hx hb dL_law_628 rfl (lv_at hl 4 rfl) ?_
  refine lv_iload hx hb dL_law_629 (lv_at hl 0 rfl) ?_
  refine lv_iconst (v := 1) hx hb dL_law_631 (by decide) ?_
  refine lv_iadd hx hb dL_law_632 ?_
  refine lv_topi (fun v1 ev1 => ?_)
  obtain rfl : v1 = nI (i5 + 1) := ev1.trans (nI_add i5 1)
  refine va_sld hx hb hX hbl hbA hS (vp_in_nI (by omega) (by omega)) dL_law_633 ?_
  rw [ha1]
  refine lv_aload_n hx hb dL_law_634 rfl (lv_at hl 4 rfl) ?_
  refine lv_iload hx hb dL_law_635 (lv_at hl 0 rfl) ?_
  refine lv_iconst (v := 2) hx hb dL_law_637 (by decide) ?_
  refine lv_iadd hx hb dL_law_638 ?_
  refine lv_topi (fun v2 ev2 => ?_)
  obtain rfl : v2 = nI (i5 + 2) := ev2.trans (nI_add i5 2)
  refine va_sld hx hb hX hbl hbA hS (vp_in_nI (by omega) (by omega)) dL_law_639 ?_
  rw [ha2]
  refine lv_aload_n hx hb dL_law_640 rfl (lv_at hl 1 rfl) ?_
  refine zc2i (vx_runSW (As := [.ref x, .int a1, .int a2, .ref o]) (rest := []) ⟨hx, hb, hml, hown, hts⟩ (w_L_taken l hlt dC dI cy G1 S1 H.size x f n sc ia na d ka va a1 a2 o hC.1 hC.2.1.1 hC.2.1.2) (vx_cwSW 4 hts gL_law_L_taken rfl rfl rfl (by decide +kernel) ⟨Nat.le_of_ble_eq_true rfl, Nat.le_of_ble_eq_true rfl⟩) (zpreSy hK hP1 hD1 hN hE hS hA hNc) rfl rfl hl.1 rfl (lv_room (Nat.le_of_ble_eq_true rfl)) dL_law_641 ⟨by show _ ≤ 601024; omega, by show _ ≤ 7293034; omega⟩) hS hD1 hA hP2 hAp (fun k9 T1 H locs hw hP1 hD1 hP2 hAp hS => ?_)
  refine lv_istore (lv' := [(5, .int k9), (4, .int (nI i5)), (3, .ref o), (2, .ref mo), (1, .ref x), (0, .ref b)]) hx hb dL_law_644 hl (by decide) rfl (fun ls hl => ?_)
  refine lv_aload_n hx hb dL_law_646 rfl (lv_at hl 3 rfl) ?_
  refine lv_aload_n hx hb dL_law_647 rfl (lv_at hl 5 rfl) ?_
  refine lv_iload hx hb dL_law_648 (lv_at hl 1 rfl) ?_
  refine lv_iconst (v := 1) hx hb dL_law_650 (by decide) ?_
  refine lv_iadd hx hb dL_law_651 ?_
  refine lv_topi (fun v3 ev3 => ?_)
  obtain rfl : v3 = nI (i5 + 1) := ev3.trans (nI_add i5 1)
  refine va_sld hx hb hX hbl hbA hS (vp_in_nI (by omega) (by omega)) dL_law_652 ?_
  rw [ha1]
  refine lv_aload_n hx hb dL_law_653 rfl (lv_at hl 5 rfl) ?_
  refine lv_iload hx hb dL_law_654 (lv_at hl 1 rfl) ?_
  refine lv_iconst (v := 2) hx hb dL_law_656 (by decide) ?_
  refine lv_iadd hx hb dL_law_657 ?_
  refine lv_topi (fun v4 ev4 => ?_)
  obtain rfl : v4 = nI (i5 + 2) := ev4.trans (nI_add i5 2)
  refine va_sld hx hb hX hbl hbA hS (vp_in_nI (by omega) (by omega)) dL_law_658 ?_
  rw [ha2]
  refine zc2i (va_runV (As := [.int a1, .int a2]) (rest := []) ⟨hx, hb, hml, hown, hts⟩ (c_X7_taken l dC dI cy G2 S2 H.size mo ad a1 a2 hM.1 hM.2.1) (cwV 2 hts gL_law_X7_taken rfl rfl rfl (by decide +kernel) ⟨Nat.le_of_ble_eq_true rfl, Nat.le_of_ble_eq_true rfl⟩) (zpreV hK hP2 hD2 hN (zrecv7 hK hP2 hM.1.1)) rfl rfl hl.1 rfl (lv_room (Nat.le_of_ble_eq_true rfl)) dL_law_659 ⟨by show _ ≤ 601024; omega, by show _ ≤ 7293034; omega⟩) hS hD2 hA hP1 hAp.symm (fun r2 T2 H locs hm hP2 hD2 hP1 hAp hS => ?_)
  have hAp := hAp.symm
  obtain ⟨hC2, hv2⟩ := k_taken (v := a1) (id := a2) hC hw
  obtain ⟨hM2, hu2⟩ := m_taken hM hm
  have hR2 := hR.vw hv2 hu2
  have hY2 := hY.vy (v_taken (v := a1) (id := a2) hC hw) (hm.1.1.2.1 4 (by decide) (by decide)) (hm.1.1.2.1 5 (by decide) (by decide)) (hm.1.1.2.1 6 (by decide) (by decide))
  refine lv_istore (lv' := [(6, .int r2), (5, .int k9), (4, .int (nI i5)), (3, .ref o), (2, .ref mo), (1, .ref x), (0, .ref b)]) hx hb dL_law_662 hl (by decide) rfl (fun ls hl => ?_)
  refine lv_goto (tgt := 791) hx hb dL_law_664 (by decide) ?_
  refine W.widen (k := cells + 3) (n := slots + 25) (by omega) (by omega) ?_
  exact kk _ _ _ _ _ _ ⟨⟨hP1, hD1, hP2, hD2, hAp⟩, hS, hC2, hM2, hR2, hY2⟩ (lv_sub hl [2, 3, 4, 5, 6] rfl)
set_option maxHeartbeats 4000000 in
set_option maxRecDepth 100000 in
theorem q_told {p : Program} {l : Launch} {e : Env} {s : State} {m : MethodId} {args : Array Value} {below : List Frame} {meth : Method} {c : Code} {H : Heap} {locs : List Loc} {cells slots : Nat} {Q : State → Prop} {ls : Array Slot} {dC : Nat → ClassId} {dI : Nat → Nat → Nat} {cy : Nat → ClassId} {A : Nat → Prop} {b L : Nat} {xs : Nat → Int32} {x f n sc ia na d ka va o mo : Nat} {ad : Nat → Nat} {G1 G2 : zG} {S1 S2 : zS} {i5 : Nat} {a1 a2 a3 a4 : Int32} (C : zLc p l s m args c dC dI cy A b L xs) (hi5 : i5 + 5 ≤ L) (ha1 : xs (nI (i5 + 1)).toNatClampNeg = a1) (ha2 : xs (nI (i5 + 2)).toNatClampNeg = a2) (ha3 : xs (nI (i5 + 3)).toNatClampNeg = a3) (ha4 : xs (nI (i5 + 4)).toNatClampNeg = a4) (hce : cells + 3 ≤ 601024) (hse : slots + 25 ≤ 7293034) (h : zLw dC dI cy s A x f n sc ia na d ka va o mo ad G1 S1 G2 S2 H locs)
    (hl : lv_has ls 7 [(4, .int (nI i5)), (3, .ref o), (2, .ref mo), (1, .ref x), (0, .ref b)]) (kk : ∀ (G1' : zG) (S1' S2' : zS) (H' : Heap) (locs' : List Loc) (ls' : Array Slot), zLw dC dI cy s A x f n sc ia na d ka va o mo ad G1' S1' G2 S2' H' locs' → lv_has ls' 7 [(4, .int (nI i5)), (3, .ref o), (2, .ref mo), (1, .ref x), (0, .ref b)] → W p l e room_1 s m args below meth c H' locs' (cells + 3) (slots + 25) Q (F0 m 791 ls' [])) : W p l e room_1 s m args below meth c H locs cells slots Q (F0 m 667 ls []) := by
  obtain ⟨⟨hx, hb, hml, hown, hts⟩, ⟨hX, hbl, hbA, hL⟩, hA, hK, hN, hE, hNc, hlt⟩ := C
  obtain ⟨⟨hP1, hD1, hP2, hD2, hAp⟩, hS, hC, hM, hR, hY⟩ := h
  refine lv_aload_n hx hb dL_law_667 rfl (lv_at hl 3 rfl) ?_
  refine lv_aload_n hx hb dL_law_668 rfl (lv_at hl 4 rfl) ?_
  refine lv_iload hx hb dL_law_669 (lv_at hl 0 rfl) ?_
  refine lv_iconst (v := 1) hx hb dL_law_671 (by decide) ?_
  refine lv_iadd hx hb dL_law_672 ?_
  refine lv_topi (fun v1 ev1 => ?_)
  obtain rfl : v1 = nI (i5 + 1) := ev1.trans (nI_add i5 1)
  refine va_sld hx hb hX hbl hbA hS (vp_in_nI (by omega) (by omega)) dL_law_673 ?_
  rw [ha1]
  refine lv_aload_n hx hb dL_law_674 rfl (lv_at hl 4 rfl) ?_
  refine lv_iload hx hb dL_law_675 (lv_at hl 0 rfl) ?_
  refine lv_iconst (v := 2) hx hb dL_law_677 (by decide) ?_
  refine lv_iadd hx hb dL_law_678 ?_
  refine lv_topi (fun v2 ev2 => ?_)
  obtain rfl : v2 = nI (i5 + 2) := ev2.trans (nI_add i5 2)
  refine va_sld hx hb hX hbl hbA hS (vp_in_nI (by omega) (by omega)) dL_law_679 ?_
  rw [ha2]
  refine lv_aload_n hx hb dL_law_680 rfl (lv_at hl 1 rfl) ?_
  refine zc2i (vx_runSW (As := [.ref x, .int a1, .int a2, .ref o]) (rest := []) ⟨hx, hb, hml, hown, hts⟩ (w_L_told l hlt dC dI cy G1 S1 H.size x f n sc ia na d ka va a1 a2 o hC.1 hC.2.1.1 hC.2.1.2) (vx_cwSW 4 hts gL_law_L_told rfl rfl rfl (by decide +kernel) ⟨Nat.le_of_ble_eq_true rfl, Nat.le_of_ble_eq_true rfl⟩) (zpreSy hK hP1 hD1 hN hE hS hA hNc) rfl rfl hl.1 rfl (lv_room (Nat.le_of_ble_eq_true rfl)) dL_law_681 ⟨by show _ ≤ 601024; omega, by show _ ≤ 7293034; omega⟩) hS hD1 hA hP2 hAp (fun k9 T1 H locs hw hP1 hD1 hP2 hAp hS => ?_)
  refine lv_istore (lv' := [(5, .int k9), (4, .int (nI i5)), (3, .ref o), (2, .ref mo), (1, .ref x), (0, .ref b)]) hx hb dL_law_684 hl (by decide) rfl (fun ls hl => ?_)
  refine lv_aload_n hx hb dL_law_686 rfl (lv_at hl 3 rfl) ?_
  refine lv_aload_n hx hb dL_law_687 rfl (lv_at hl 5 rfl) ?_
  refine lv_iload hx hb dL_law_688 (lv_at hl 1 rfl) ?_
  refine lv_iconst (v := 1) hx hb dL_law_690 (by decide) ?_
  refine lv_iadd hx hb dL_law_691 ?_
  refine lv_topi (fun v3 ev3 => ?_)
  obtain rfl : v3 = nI (i5 + 1) := ev3.trans (nI_add i5 1)
  refine va_sld hx hb hX hbl hbA hS (vp_in_nI (by omega) (by omega)) dL_law_692 ?_
  rw [ha1]
  refine lv_aload_n hx hb dL_law_693 rfl (lv_at hl 5 rfl) ?_
  refine lv_iload hx hb dL_law_694 (lv_at hl 1 rfl) ?_
  refine lv_iconst (v := 2) hx hb dL_law_696 (by decide) ?_
  refine lv_iadd hx hb dL_law_697 ?_
  refine lv_topi (fun v4 ev4 => ?_)
  obtain rfl : v4 = nI (i5 + 2) := ev4.trans (nI_add i5 2)
  refine va_sld hx hb hX hbl hbA hS (vp_in_nI (by omega) (by omega)) dL_law_698 ?_
  rw [ha2]
  refine zc2i (va_runV (As := [.int a1, .int a2]) (rest := []) ⟨hx, hb, hml, hown, hts⟩ (c_X7_told l dC dI cy G2 S2 H.size mo ad a1 a2 hM.1 hM.2.1) (cwV 2 hts gL_law_X7_told rfl rfl rfl (by decide +kernel) ⟨Nat.le_of_ble_eq_true rfl, Nat.le_of_ble_eq_true rfl⟩) (zpreV hK hP2 hD2 hN (zrecv7 hK hP2 hM.1.1)) rfl rfl hl.1 rfl (lv_room (Nat.le_of_ble_eq_true rfl)) dL_law_699 ⟨by show _ ≤ 601024; omega, by show _ ≤ 7293034; omega⟩) hS hD2 hA hP1 hAp.symm (fun r2 T2 H locs hm hP2 hD2 hP1 hAp hS => ?_)
  have hAp := hAp.symm
  obtain ⟨hC2, hv2⟩ := k_told (v := a1) (k := a2) hC hw
  obtain ⟨hM2, hu2⟩ := m_told hM hm
  have hR2 := hR.vw hv2 hu2
  have hY2 := hY.vy (v_told (v := a1) (k := a2) hC hw) (hm.1.1.2.1 4 (by decide) (by decide)) (hm.1.1.2.1 5 (by decide) (by decide)) (hm.1.1.2.1 6 (by decide) (by decide))
  refine lv_istore (lv' := [(6, .int r2), (5, .int k9), (4, .int (nI i5)), (3, .ref o), (2, .ref mo), (1, .ref x), (0, .ref b)]) hx hb dL_law_702 hl (by decide) rfl (fun ls hl => ?_)
  refine lv_goto (tgt := 791) hx hb dL_law_704 (by decide) ?_
  refine W.widen (k := cells + 3) (n := slots + 25) (by omega) (by omega) ?_
  exact kk _ _ _ _ _ _ ⟨⟨hP1, hD1, hP2, hD2, hAp⟩, hS, hC2, hM2, hR2, hY2⟩ (lv_sub hl [2, 3, 4, 5, 6] rfl)
set_option maxHeartbeats 4000000 in
set_option maxRecDepth 100000 in
theorem q_count {p : Program} {l : Launch} {e : Env} {s : State} {m : MethodId} {args : Array Value} {below : List Frame} {meth : Method} {c : Code} {H : Heap} {locs : List Loc} {cells slots : Nat} {Q : State → Prop} {ls : Array Slot} {dC : Nat → ClassId} {dI : Nat → Nat → Nat} {cy : Nat → ClassId} {A : Nat → Prop} {b L : Nat} {xs : Nat → Int32} {x f n sc ia na d ka va o mo : Nat} {ad : Nat → Nat} {G1 G2 : zG} {S1 S2 : zS} {i5 : Nat} {a1 a2 a3 a4 : Int32} (C : zLc p l s m args c dC dI cy A b L xs) (hi5 : i5 + 5 ≤ L) (ha1 : xs (nI (i5 + 1)).toNatClampNeg = a1) (ha2 : xs (nI (i5 + 2)).toNatClampNeg = a2) (ha3 : xs (nI (i5 + 3)).toNatClampNeg = a3) (ha4 : xs (nI (i5 + 4)).toNatClampNeg = a4) (hce : cells + 3 ≤ 601024) (hse : slots + 25 ≤ 7293034) (h : zLw dC dI cy s A x f n sc ia na d ka va o mo ad G1 S1 G2 S2 H locs)
    (hl : lv_has ls 7 [(4, .int (nI i5)), (3, .ref o), (2, .ref mo), (1, .ref x), (0, .ref b)]) (kk : ∀ (G1' : zG) (S1' S2' : zS) (H' : Heap) (locs' : List Loc) (ls' : Array Slot), zLw dC dI cy s A x f n sc ia na d ka va o mo ad G1' S1' G2 S2' H' locs' → lv_has ls' 7 [(4, .int (nI i5)), (3, .ref o), (2, .ref mo), (1, .ref x), (0, .ref b)] → W p l e room_1 s m args below meth c H' locs' (cells + 3) (slots + 25) Q (F0 m 791 ls' [])) : W p l e room_1 s m args below meth c H locs cells slots Q (F0 m 707 ls []) := by
  obtain ⟨⟨hx, hb, hml, hown, hts⟩, ⟨hX, hbl, hbA, hL⟩, hA, hK, hN, hE, hNc, hlt⟩ := C
  obtain ⟨⟨hP1, hD1, hP2, hD2, hAp⟩, hS, hC, hM, hR, hY⟩ := h
  refine lv_aload_n hx hb dL_law_707 rfl (lv_at hl 3 rfl) ?_
  refine lv_aload_n hx hb dL_law_708 rfl (lv_at hl 4 rfl) ?_
  refine lv_iload hx hb dL_law_709 (lv_at hl 0 rfl) ?_
  refine lv_iconst (v := 1) hx hb dL_law_711 (by decide) ?_
  refine lv_iadd hx hb dL_law_712 ?_
  refine lv_topi (fun v1 ev1 => ?_)
  obtain rfl : v1 = nI (i5 + 1) := ev1.trans (nI_add i5 1)
  refine va_sld hx hb hX hbl hbA hS (vp_in_nI (by omega) (by omega)) dL_law_713 ?_
  rw [ha1]
  refine lv_aload_n hx hb dL_law_714 rfl (lv_at hl 1 rfl) ?_
  refine zc2i (vx_runSW (As := [.ref x, .int a1, .ref o]) (rest := []) ⟨hx, hb, hml, hown, hts⟩ (w_L_count l hlt dC dI cy G1 S1 H.size x f n sc ia na d ka va a1 o hC.1 hC.2.1.1 hC.2.1.2) (vx_cwSW 3 hts gL_law_L_count rfl rfl rfl (by decide +kernel) ⟨Nat.le_of_ble_eq_true rfl, Nat.le_of_ble_eq_true rfl⟩) (zpreSy hK hP1 hD1 hN hE hS hA hNc) rfl rfl hl.1 rfl (lv_room (Nat.le_of_ble_eq_true rfl)) dL_law_715 ⟨by show _ ≤ 601024; omega, by show _ ≤ 7293034; omega⟩) hS hD1 hA hP2 hAp (fun k9 T1 H locs hw hP1 hD1 hP2 hAp hS => ?_)
  refine lv_istore (lv' := [(5, .int k9), (4, .int (nI i5)), (3, .ref o), (2, .ref mo), (1, .ref x), (0, .ref b)]) hx hb dL_law_718 hl (by decide) rfl (fun ls hl => ?_)
  refine lv_aload_n hx hb dL_law_720 rfl (lv_at hl 3 rfl) ?_
  refine lv_aload_n hx hb dL_law_721 rfl (lv_at hl 5 rfl) ?_
  refine lv_iload hx hb dL_law_722 (lv_at hl 1 rfl) ?_
  refine lv_iconst (v := 1) hx hb dL_law_724 (by decide) ?_
  refine lv_iadd hx hb dL_law_725 ?_
  refine lv_topi (fun v2 ev2 => ?_)
  obtain rfl : v2 = nI (i5 + 1) := ev2.trans (nI_add i5 1)
  refine va_sld hx hb hX hbl hbA hS (vp_in_nI (by omega) (by omega)) dL_law_726 ?_
  rw [ha1]
  refine zc2i (va_runV (As := [.int a1]) (rest := []) ⟨hx, hb, hml, hown, hts⟩ (c_X7_count l dC dI cy G2 S2 H.size mo ad a1 hM.1 hM.2.1) (cwV 1 hts gL_law_X7_count rfl rfl rfl (by decide +kernel) ⟨Nat.le_of_ble_eq_true rfl, Nat.le_of_ble_eq_true rfl⟩) (zpreV hK hP2 hD2 hN (zrecv7 hK hP2 hM.1.1)) rfl rfl hl.1 rfl (lv_room (Nat.le_of_ble_eq_true rfl)) dL_law_727 ⟨by show _ ≤ 601024; omega, by show _ ≤ 7293034; omega⟩) hS hD2 hA hP1 hAp.symm (fun r2 T2 H locs hm hP2 hD2 hP1 hAp hS => ?_)
  have hAp := hAp.symm
  obtain ⟨hC2, hv2⟩ := k_count (k := a1) hC hw
  obtain ⟨hM2, hu2⟩ := m_count hM hm
  have hR2 := hR.vw hv2 hu2
  have hY2 := hY.vy (v_count (k := a1) hC hw) (hm.1.1.2.1 4 (by decide) (by decide)) (hm.1.1.2.1 5 (by decide) (by decide)) (hm.1.1.2.1 6 (by decide) (by decide))
  refine lv_istore (lv' := [(6, .int r2), (5, .int k9), (4, .int (nI i5)), (3, .ref o), (2, .ref mo), (1, .ref x), (0, .ref b)]) hx hb dL_law_730 hl (by decide) rfl (fun ls hl => ?_)
  refine lv_goto (tgt := 791) hx hb dL_law_732 (by decide) ?_
  refine W.widen (k := cells + 3) (n := slots + 25) (by omega) (by omega) ?_
  exact kk _ _ _ _ _ _ ⟨⟨hP1, hD1, hP2, hD2, hAp⟩, hS, hC2, hM2, hR2, hY2⟩ (lv_sub hl [2, 3, 4, 5, 6] rfl)
set_option maxHeartbeats 4000000 in
set_option maxRecDepth 100000 in
theorem q_line {p : Program} {l : Launch} {e : Env} {s : State} {m : MethodId} {args : Array Value} {below : List Frame} {meth : Method} {c : Code} {H : Heap} {locs : List Loc} {cells slots : Nat} {Q : State → Prop} {ls : Array Slot} {dC : Nat → ClassId} {dI : Nat → Nat → Nat} {cy : Nat → ClassId} {A : Nat → Prop} {b L : Nat} {xs : Nat → Int32} {x f n sc ia na d ka va o mo : Nat} {ad : Nat → Nat} {G1 G2 : zG} {S1 S2 : zS} {i5 : Nat} {a1 a2 a3 a4 : Int32} (C : zLc p l s m args c dC dI cy A b L xs) (hi5 : i5 + 5 ≤ L) (ha1 : xs (nI (i5 + 1)).toNatClampNeg = a1) (ha2 : xs (nI (i5 + 2)).toNatClampNeg = a2) (ha3 : xs (nI (i5 + 3)).toNatClampNeg = a3) (ha4 : xs (nI (i5 + 4)).toNatClampNeg = a4) (hce : cells + 3 ≤ 601024) (hse : slots + 25 ≤ 7293034) (h : zLw dC dI cy s A x f n sc ia na d ka va o mo ad G1 S1 G2 S2 H locs)
    (hl : lv_has ls 7 [(4, .int (nI i5)), (3, .ref o), (2, .ref mo), (1, .ref x), (0, .ref b)]) (kk : ∀ (G1' : zG) (S1' S2' : zS) (H' : Heap) (locs' : List Loc) (ls' : Array Slot), zLw dC dI cy s A x f n sc ia na d ka va o mo ad G1' S1' G2 S2' H' locs' → lv_has ls' 7 [(4, .int (nI i5)), (3, .ref o), (2, .ref mo), (1, .ref x), (0, .ref b)] → W p l e room_1 s m args below meth c H' locs' (cells + 3) (slots + 25) Q (F0 m 791 ls' [])) : W p l e room_1 s m args below meth c H locs cells slots Q (F0 m 735 ls []) := by
  obtain ⟨⟨hx, hb, hml, hown, hts⟩, ⟨hX, hbl, hbA, hL⟩, hA, hK, hN, hE, hNc, hlt⟩ := C
  obtain ⟨⟨hP1, hD1, hP2, hD2, hAp⟩, hS, hC, hM, hR, hY⟩ := h
  obtain ⟨t8, hlt8, ht8⟩ := hM.2.1.2.2.1
  refine lv_aload_n hx hb dL_law_735 rfl (lv_at hl 3 rfl) ?_
  refine lv_aload_n hx hb dL_law_736 rfl (lv_at hl 4 rfl) ?_
  refine lv_iload hx hb dL_law_737 (lv_at hl 0 rfl) ?_
  refine lv_iconst (v := 1) hx hb dL_law_739 (by decide) ?_
  refine lv_iadd hx hb dL_law_740 ?_
  refine lv_topi (fun v1 ev1 => ?_)
  obtain rfl : v1 = nI (i5 + 1) := ev1.trans (nI_add i5 1)
  refine va_sld hx hb hX hbl hbA hS (vp_in_nI (by omega) (by omega)) dL_law_741 ?_
  rw [ha1]
  refine lv_aload_n hx hb dL_law_742 rfl (lv_at hl 1 rfl) ?_
  refine zc2i (vx_runSW (As := [.ref x, .int a1, .ref o]) (rest := []) ⟨hx, hb, hml, hown, hts⟩ (w_L_line l hlt dC dI cy G1 S1 H.size x f n sc ia na d ka va a1 o hC.1 hC.2.1.1 hC.2.1.2) (vx_cwSW 3 hts gL_law_L_line rfl rfl rfl (by decide +kernel) ⟨Nat.le_of_ble_eq_true rfl, Nat.le_of_ble_eq_true rfl⟩) (zpreSy hK hP1 hD1 hN hE hS hA hNc) rfl rfl hl.1 rfl (lv_room (Nat.le_of_ble_eq_true rfl)) dL_law_743 ⟨by show _ ≤ 601024; omega, by show _ ≤ 7293034; omega⟩) hS hD1 hA hP2 hAp (fun k9 T1 H locs hw hP1 hD1 hP2 hAp hS => ?_)
  refine lv_istore (lv' := [(5, .int k9), (4, .int (nI i5)), (3, .ref o), (2, .ref mo), (1, .ref x), (0, .ref b)]) hx hb dL_law_746 hl (by decide) rfl (fun ls hl => ?_)
  refine lv_aload_n hx hb dL_law_748 rfl (lv_at hl 3 rfl) ?_
  refine lv_aload_n hx hb dL_law_749 rfl (lv_at hl 5 rfl) ?_
  refine lv_iload hx hb dL_law_750 (lv_at hl 1 rfl) ?_
  refine lv_iconst (v := 1) hx hb dL_law_752 (by decide) ?_
  refine lv_iadd hx hb dL_law_753 ?_
  refine lv_topi (fun v2 ev2 => ?_)
  obtain rfl : v2 = nI (i5 + 1) := ev2.trans (nI_add i5 1)
  refine va_sld hx hb hX hbl hbA hS (vp_in_nI (by omega) (by omega)) dL_law_754 ?_
  rw [ha1]
  refine zc2i (va_runV (As := [.int a1]) (rest := []) ⟨hx, hb, hml, hown, hts⟩ (c_X7_line l dC dI cy G2 S2 H.size mo ad a1 t8 hM.1 hM.2.1 ht8 hlt8) (cwV 1 hts gL_law_X7_line rfl rfl rfl (by decide +kernel) ⟨Nat.le_of_ble_eq_true rfl, Nat.le_of_ble_eq_true rfl⟩) (zpreV hK hP2 hD2 hN (zrecv7 hK hP2 hM.1.1)) rfl rfl hl.1 rfl (lv_room (Nat.le_of_ble_eq_true rfl)) dL_law_755 ⟨by show _ ≤ 601024; omega, by show _ ≤ 7293034; omega⟩) hS hD2 hA hP1 hAp.symm (fun r2 T2 H locs hm hP2 hD2 hP1 hAp hS => ?_)
  have hAp := hAp.symm
  obtain ⟨hC2, hv2⟩ := k_line (b := a1) hC hw
  obtain ⟨hM2, hu2⟩ := m_line hM hm
  have hR2 := hR.vw hv2 hu2
  have hY2 := hY.vy (v_line (b := a1) hC hw) (hm.1.1.2.1 4 (by decide) (by decide)) (hm.1.1.2.1 5 (by decide) (by decide)) (hm.1.1.2.1 6 (by decide) (by decide))
  refine lv_istore (lv' := [(6, .int r2), (5, .int k9), (4, .int (nI i5)), (3, .ref o), (2, .ref mo), (1, .ref x), (0, .ref b)]) hx hb dL_law_758 hl (by decide) rfl (fun ls hl => ?_)
  refine lv_goto (tgt := 791) hx hb dL_law_760 (by decide) ?_
  refine W.widen (k := cells + 3) (n := slots + 25) (by omega) (by omega) ?_
  exact kk _ _ _ _ _ _ ⟨⟨hP1, hD1, hP2, hD2, hAp⟩, hS, hC2, hM2, hR2, hY2⟩ (lv_sub hl [2, 3, 4, 5, 6] rfl)
set_option maxHeartbeats 4000000 in
set_option maxRecDepth 100000 in
theorem q_checks {p : Program} {l : Launch} {e : Env} {s : State} {m : MethodId} {args : Array Value} {below : List Frame} {meth : Method} {c : Code} {H : Heap} {locs : List Loc} {cells slots : Nat} {Q : State → Prop} {ls : Array Slot} {dC : Nat → ClassId} {dI : Nat → Nat → Nat} {cy : Nat → ClassId} {A : Nat → Prop} {b L : Nat} {xs : Nat → Int32} {x f n sc ia na d ka va o mo : Nat} {ad : Nat → Nat} {G1 G2 : zG} {S1 S2 : zS} {i5 : Nat} {a1 a2 a3 a4 : Int32} (C : zLc p l s m args c dC dI cy A b L xs) (hi5 : i5 + 5 ≤ L) (ha1 : xs (nI (i5 + 1)).toNatClampNeg = a1) (ha2 : xs (nI (i5 + 2)).toNatClampNeg = a2) (ha3 : xs (nI (i5 + 3)).toNatClampNeg = a3) (ha4 : xs (nI (i5 + 4)).toNatClampNeg = a4) (hce : cells + 3 ≤ 601024) (hse : slots + 25 ≤ 7293034) (h : zLw dC dI cy s A x f n sc ia na d ka va o mo ad G1 S1 G2 S2 H locs)
    (hl : lv_has ls 7 [(4, .int (nI i5)), (3, .ref o), (2, .ref mo), (1, .ref x), (0, .ref b)]) (kk : ∀ (G1' : zG) (S1' S2' : zS) (H' : Heap) (locs' : List Loc) (ls' : Array Slot), zLw dC dI cy s A x f n sc ia na d ka va o mo ad G1' S1' G2 S2' H' locs' → lv_has ls' 7 [(4, .int (nI i5)), (3, .ref o), (2, .ref mo), (1, .ref x), (0, .ref b)] → W p l e room_1 s m args below meth c H' locs' (cells + 3) (slots + 25) Q (F0 m 791 ls' [])) : W p l e room_1 s m args below meth c H locs cells slots Q (F0 m 763 ls []) := by
  obtain ⟨⟨hx, hb, hml, hown, hts⟩, ⟨hX, hbl, hbA, hL⟩, hA, hK, hN, hE, hNc, hlt⟩ := C
  obtain ⟨⟨hP1, hD1, hP2, hD2, hAp⟩, hS, hC, hM, hR, hY⟩ := h
  refine lv_aload_n hx hb dL_law_763 rfl (lv_at hl 3 rfl) ?_
  refine lv_aload_n hx hb dL_law_764 rfl (lv_at hl 4 rfl) ?_
  refine lv_iload hx hb dL_law_765 (lv_at hl 0 rfl) ?_
  refine lv_iconst (v := 1) hx hb dL_law_767 (by decide) ?_
  refine lv_iadd hx hb dL_law_768 ?_
  refine lv_topi (fun v1 ev1 => ?_)
  obtain rfl : v1 = nI (i5 + 1) := ev1.trans (nI_add i5 1)
  refine va_sld hx hb hX hbl hbA hS (vp_in_nI (by omega) (by omega)) dL_law_769 ?_
  rw [ha1]
  refine lv_aload_n hx hb dL_law_770 rfl (lv_at hl 1 rfl) ?_
  refine zc2i (vx_runSW (As := [.ref x, .int a1, .ref o]) (rest := []) ⟨hx, hb, hml, hown, hts⟩ (w_L_checks l hlt dC dI cy G1 S1 H.size x f n sc ia na d ka va a1 o hC.1 hC.2.1.1 hC.2.1.2) (vx_cwSW 3 hts gL_law_L_checks rfl rfl rfl (by decide +kernel) ⟨Nat.le_of_ble_eq_true rfl, Nat.le_of_ble_eq_true rfl⟩) (zpreSy hK hP1 hD1 hN hE hS hA hNc) rfl rfl hl.1 rfl (lv_room (Nat.le_of_ble_eq_true rfl)) dL_law_771 ⟨by show _ ≤ 601024; omega, by show _ ≤ 7293034; omega⟩) hS hD1 hA hP2 hAp (fun k9 T1 H locs hw hP1 hD1 hP2 hAp hS => ?_)
  refine lv_istore (lv' := [(5, .int k9), (4, .int (nI i5)), (3, .ref o), (2, .ref mo), (1, .ref x), (0, .ref b)]) hx hb dL_law_774 hl (by decide) rfl (fun ls hl => ?_)
  refine lv_aload_n hx hb dL_law_776 rfl (lv_at hl 3 rfl) ?_
  refine lv_aload_n hx hb dL_law_777 rfl (lv_at hl 5 rfl) ?_
  refine lv_iload hx hb dL_law_778 (lv_at hl 1 rfl) ?_
  refine lv_iconst (v := 1) hx hb dL_law_780 (by decide) ?_
  refine lv_iadd hx hb dL_law_781 ?_
  refine lv_topi (fun v2 ev2 => ?_)
  obtain rfl : v2 = nI (i5 + 1) := ev2.trans (nI_add i5 1)
  refine va_sld hx hb hX hbl hbA hS (vp_in_nI (by omega) (by omega)) dL_law_782 ?_
  rw [ha1]
  refine zc2i (va_runV (As := [.int a1]) (rest := []) ⟨hx, hb, hml, hown, hts⟩ (c_X7_checks l dC dI cy G2 S2 H.size mo ad a1 hM.1 hM.2.1) (cwV 1 hts gL_law_X7_checks rfl rfl rfl (by decide +kernel) ⟨Nat.le_of_ble_eq_true rfl, Nat.le_of_ble_eq_true rfl⟩) (zpreV hK hP2 hD2 hN (zrecv7 hK hP2 hM.1.1)) rfl rfl hl.1 rfl (lv_room (Nat.le_of_ble_eq_true rfl)) dL_law_783 ⟨by show _ ≤ 601024; omega, by show _ ≤ 7293034; omega⟩) hS hD2 hA hP1 hAp.symm (fun r2 T2 H locs hm hP2 hD2 hP1 hAp hS => ?_)
  have hAp := hAp.symm
  obtain ⟨hC2, hM2, ⟨hR2, hY2⟩, he2, ho2⟩ := s_checks hC hM hR hY hw hm
  refine lv_istore (lv' := [(6, .int r2), (5, .int k9), (4, .int (nI i5)), (3, .ref o), (2, .ref mo), (1, .ref x), (0, .ref b)]) hx hb dL_law_786 hl (by decide) rfl (fun ls hl => ?_)
  refine lv_goto (tgt := 791) hx hb dL_law_788 (by decide) ?_
  refine W.widen (k := cells + 3) (n := slots + 25) (by omega) (by omega) ?_
  exact kk _ _ _ _ _ _ ⟨⟨hP1, hD1, hP2, hD2, hAp⟩, hS, hC2, hM2, hR2, hY2⟩ (lv_sub hl [2, 3, 4, 5, 6] rfl)
